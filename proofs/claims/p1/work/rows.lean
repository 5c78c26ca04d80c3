section
-- ===== PART A: goes FIRST, ahead of the names: the tables' words, and 'selects' of the private methods out of them =====
/-- a private method of a class that the tables say can be made, by its rows of tables_1 -/
def lw_okq (q : MethodName × Nat) : Prop := (q.1.cls ≠ "java/lang/invoke/MethodHandle" ∧ q.1.cls ≠ "java/lang/invoke/VarHandle") ∧ Cond.instantiable q.1.cls q.2 ∈ tables_1 ∧ Cond.privateMethod q.1 ∈ tables_1 ∧ Cond.instanceMethod q.1 ∈ tables_1
theorem lw_p0 : lw_okq (⟨"TowerAppeal$TrustReader", "startAnew", "()V"⟩, 8) := ⟨⟨by decide +kernel, by decide +kernel⟩, List.mem_of_getElem? (i := 45) (by decide +kernel), List.mem_of_getElem? (i := 266) (by decide +kernel), List.mem_of_getElem? (i := 267) (by decide +kernel)⟩
theorem lw_p1 : lw_okq (⟨"TowerAppeal$TrustReader", "readToken", "(LTowerAppeal$Tape;)V"⟩, 8) := ⟨⟨by decide +kernel, by decide +kernel⟩, List.mem_of_getElem? (i := 45) (by decide +kernel), List.mem_of_getElem? (i := 274) (by decide +kernel), List.mem_of_getElem? (i := 275) (by decide +kernel)⟩
theorem lw_p2 : lw_okq (⟨"TowerAppeal$TrustReader", "readWord", "(LTowerAppeal$Tape;)V"⟩, 8) := ⟨⟨by decide +kernel, by decide +kernel⟩, List.mem_of_getElem? (i := 45) (by decide +kernel), List.mem_of_getElem? (i := 289) (by decide +kernel), List.mem_of_getElem? (i := 290) (by decide +kernel)⟩
theorem lw_p3 : lw_okq (⟨"TowerAppeal$TrustReader", "readNumber", "(LTowerAppeal$Tape;)V"⟩, 8) := ⟨⟨by decide +kernel, by decide +kernel⟩, List.mem_of_getElem? (i := 45) (by decide +kernel), List.mem_of_getElem? (i := 296) (by decide +kernel), List.mem_of_getElem? (i := 297) (by decide +kernel)⟩
theorem lw_p4 : lw_okq (⟨"TowerAppeal$TrustReader", "readLine", "(LTowerAppeal$Tape;)V"⟩, 8) := ⟨⟨by decide +kernel, by decide +kernel⟩, List.mem_of_getElem? (i := 45) (by decide +kernel), List.mem_of_getElem? (i := 300) (by decide +kernel), List.mem_of_getElem? (i := 301) (by decide +kernel)⟩
theorem lw_p5 : lw_okq (⟨"TowerAppeal$TrustReader", "lineOfWord", "(LTowerAppeal$Tape;)I"⟩, 8) := ⟨⟨by decide +kernel, by decide +kernel⟩, List.mem_of_getElem? (i := 45) (by decide +kernel), List.mem_of_getElem? (i := 304) (by decide +kernel), List.mem_of_getElem? (i := 305) (by decide +kernel)⟩
theorem lw_p6 : lw_okq (⟨"TowerAppeal$TrustReader", "isWord", "(LTowerAppeal$Tape;Ljava/lang/String;)Z"⟩, 8) := ⟨⟨by decide +kernel, by decide +kernel⟩, List.mem_of_getElem? (i := 45) (by decide +kernel), List.mem_of_getElem? (i := 309) (by decide +kernel), List.mem_of_getElem? (i := 310) (by decide +kernel)⟩
theorem lw_p7 : lw_okq (⟨"TowerAppeal$TrustReader", "refuse", "(I)V"⟩, 8) := ⟨⟨by decide +kernel, by decide +kernel⟩, List.mem_of_getElem? (i := 45) (by decide +kernel), List.mem_of_getElem? (i := 366) (by decide +kernel), List.mem_of_getElem? (i := 367) (by decide +kernel)⟩
theorem lw_p8 : lw_okq (⟨"TowerAppeal$TrustReader", "readStop", "(LTowerAppeal$Tape;)V"⟩, 8) := ⟨⟨by decide +kernel, by decide +kernel⟩, List.mem_of_getElem? (i := 45) (by decide +kernel), List.mem_of_getElem? (i := 370) (by decide +kernel), List.mem_of_getElem? (i := 371) (by decide +kernel)⟩
theorem lw_p9 : lw_okq (⟨"TowerAppeal$TrustReader", "readNumbers", "(LTowerAppeal$Tape;I)V"⟩, 8) := ⟨⟨by decide +kernel, by decide +kernel⟩, List.mem_of_getElem? (i := 45) (by decide +kernel), List.mem_of_getElem? (i := 380) (by decide +kernel), List.mem_of_getElem? (i := 381) (by decide +kernel)⟩
theorem lw_p10 : lw_okq (⟨"TowerAppeal$Pledge", "monthOf", "(I)I"⟩, 12) := ⟨⟨by decide +kernel, by decide +kernel⟩, List.mem_of_getElem? (i := 455) (by decide +kernel), List.mem_of_getElem? (i := 521) (by decide +kernel), List.mem_of_getElem? (i := 522) (by decide +kernel)⟩
theorem lw_p11 : lw_okq (⟨"TowerAppeal", "receive", "(II)I"⟩, 10) := ⟨⟨by decide +kernel, by decide +kernel⟩, List.mem_of_getElem? (i := 23) (by decide +kernel), List.mem_of_getElem? (i := 556) (by decide +kernel), List.mem_of_getElem? (i := 557) (by decide +kernel)⟩
theorem lw_p12 : lw_okq (⟨"TowerAppeal$Tower", "running", "()LTowerAppeal$Stage;"⟩, 3) := ⟨⟨by decide +kernel, by decide +kernel⟩, List.mem_of_getElem? (i := 185) (by decide +kernel), List.mem_of_getElem? (i := 722) (by decide +kernel), List.mem_of_getElem? (i := 723) (by decide +kernel)⟩
theorem lw_p13 : lw_okq (⟨"TowerAppeal", "endMonth", "()V"⟩, 10) := ⟨⟨by decide +kernel, by decide +kernel⟩, List.mem_of_getElem? (i := 23) (by decide +kernel), List.mem_of_getElem? (i := 771) (by decide +kernel), List.mem_of_getElem? (i := 772) (by decide +kernel)⟩
theorem lw_p14 : lw_okq (⟨"java/lang/Throwable", "fillInStackTrace", "(I)Ljava/lang/Throwable;"⟩, 6) := ⟨⟨by decide +kernel, by decide +kernel⟩, List.mem_of_getElem? (i := 983) (by decide +kernel), List.mem_of_getElem? (i := 981) (by decide +kernel), List.mem_of_getElem? (i := 982) (by decide +kernel)⟩
theorem lw_p15 : lw_okq (⟨"TowerAppealModel", "lay", "(I)V"⟩, 53) := ⟨⟨by decide +kernel, by decide +kernel⟩, List.mem_of_getElem? (i := 943) (by decide +kernel), List.mem_of_getElem? (i := 1174) (by decide +kernel), List.mem_of_getElem? (i := 1175) (by decide +kernel)⟩
def lw_privs_1 : List (MethodName × Nat) := [(⟨"TowerAppeal$TrustReader", "startAnew", "()V"⟩, 8), (⟨"TowerAppeal$TrustReader", "readToken", "(LTowerAppeal$Tape;)V"⟩, 8), (⟨"TowerAppeal$TrustReader", "readWord", "(LTowerAppeal$Tape;)V"⟩, 8), (⟨"TowerAppeal$TrustReader", "readNumber", "(LTowerAppeal$Tape;)V"⟩, 8), (⟨"TowerAppeal$TrustReader", "readLine", "(LTowerAppeal$Tape;)V"⟩, 8), (⟨"TowerAppeal$TrustReader", "lineOfWord", "(LTowerAppeal$Tape;)I"⟩, 8), (⟨"TowerAppeal$TrustReader", "isWord", "(LTowerAppeal$Tape;Ljava/lang/String;)Z"⟩, 8), (⟨"TowerAppeal$TrustReader", "refuse", "(I)V"⟩, 8), (⟨"TowerAppeal$TrustReader", "readStop", "(LTowerAppeal$Tape;)V"⟩, 8), (⟨"TowerAppeal$TrustReader", "readNumbers", "(LTowerAppeal$Tape;I)V"⟩, 8), (⟨"TowerAppeal$Pledge", "monthOf", "(I)I"⟩, 12), (⟨"TowerAppeal", "receive", "(II)I"⟩, 10), (⟨"TowerAppeal$Tower", "running", "()LTowerAppeal$Stage;"⟩, 3), (⟨"TowerAppeal", "endMonth", "()V"⟩, 10), (⟨"java/lang/Throwable", "fillInStackTrace", "(I)Ljava/lang/Throwable;"⟩, 6), (⟨"TowerAppealModel", "lay", "(I)V"⟩, 53)]
theorem lw_r1 : ∀ q ∈ lw_privs_1, lw_okq q := List.forall_mem_cons.mpr ⟨lw_p0, List.forall_mem_cons.mpr ⟨lw_p1, List.forall_mem_cons.mpr ⟨lw_p2, List.forall_mem_cons.mpr ⟨lw_p3, List.forall_mem_cons.mpr ⟨lw_p4, List.forall_mem_cons.mpr ⟨lw_p5, List.forall_mem_cons.mpr ⟨lw_p6, List.forall_mem_cons.mpr ⟨lw_p7, List.forall_mem_cons.mpr ⟨lw_p8, List.forall_mem_cons.mpr ⟨lw_p9, List.forall_mem_cons.mpr ⟨lw_p10, List.forall_mem_cons.mpr ⟨lw_p11, List.forall_mem_cons.mpr ⟨lw_p12, List.forall_mem_cons.mpr ⟨lw_p13, List.forall_mem_cons.mpr ⟨lw_p14, List.forall_mem_cons.mpr ⟨lw_p15, fun _ h => absurd h List.not_mem_nil⟩⟩⟩⟩⟩⟩⟩⟩⟩⟩⟩⟩⟩⟩⟩⟩
theorem lw_p16 : lw_okq (⟨"TowerAppealModel", "scan", "()V"⟩, 53) := ⟨⟨by decide +kernel, by decide +kernel⟩, List.mem_of_getElem? (i := 943) (by decide +kernel), List.mem_of_getElem? (i := 1189) (by decide +kernel), List.mem_of_getElem? (i := 1190) (by decide +kernel)⟩
theorem lw_p17 : lw_okq (⟨"TowerAppealModel", "byteAt", "(I)I"⟩, 53) := ⟨⟨by decide +kernel, by decide +kernel⟩, List.mem_of_getElem? (i := 943) (by decide +kernel), List.mem_of_getElem? (i := 1193) (by decide +kernel), List.mem_of_getElem? (i := 1194) (by decide +kernel)⟩
theorem lw_p18 : lw_okq (⟨"TowerAppealModel", "readTrust", "()I"⟩, 53) := ⟨⟨by decide +kernel, by decide +kernel⟩, List.mem_of_getElem? (i := 943) (by decide +kernel), List.mem_of_getElem? (i := 1203) (by decide +kernel), List.mem_of_getElem? (i := 1204) (by decide +kernel)⟩
theorem lw_p19 : lw_okq (⟨"TowerAppealModel", "key", "()I"⟩, 53) := ⟨⟨by decide +kernel, by decide +kernel⟩, List.mem_of_getElem? (i := 943) (by decide +kernel), List.mem_of_getElem? (i := 1207) (by decide +kernel), List.mem_of_getElem? (i := 1208) (by decide +kernel)⟩
theorem lw_p20 : lw_okq (⟨"TowerAppealModel", "is", "(Ljava/lang/String;)Z"⟩, 53) := ⟨⟨by decide +kernel, by decide +kernel⟩, List.mem_of_getElem? (i := 943) (by decide +kernel), List.mem_of_getElem? (i := 1212) (by decide +kernel), List.mem_of_getElem? (i := 1213) (by decide +kernel)⟩
theorem lw_p21 : lw_okq (⟨"TowerAppealModel", "wrong", "(I)LTowerAppealModel$Stop;"⟩, 53) := ⟨⟨by decide +kernel, by decide +kernel⟩, List.mem_of_getElem? (i := 943) (by decide +kernel), List.mem_of_getElem? (i := 1223) (by decide +kernel), List.mem_of_getElem? (i := 1224) (by decide +kernel)⟩
theorem lw_p22 : lw_okq (⟨"TowerAppealModel", "readLine", "(I)V"⟩, 53) := ⟨⟨by decide +kernel, by decide +kernel⟩, List.mem_of_getElem? (i := 943) (by decide +kernel), List.mem_of_getElem? (i := 1227) (by decide +kernel), List.mem_of_getElem? (i := 1228) (by decide +kernel)⟩
theorem lw_p23 : lw_okq (⟨"TowerAppealModel", "number", "(II)I"⟩, 53) := ⟨⟨by decide +kernel, by decide +kernel⟩, List.mem_of_getElem? (i := 943) (by decide +kernel), List.mem_of_getElem? (i := 1231) (by decide +kernel), List.mem_of_getElem? (i := 1232) (by decide +kernel)⟩
theorem lw_p24 : lw_okq (⟨"TowerAppealModel", "monthOf", "(II)I"⟩, 53) := ⟨⟨by decide +kernel, by decide +kernel⟩, List.mem_of_getElem? (i := 943) (by decide +kernel), List.mem_of_getElem? (i := 1270) (by decide +kernel), List.mem_of_getElem? (i := 1271) (by decide +kernel)⟩
theorem lw_p25 : lw_okq (⟨"TowerAppealModel", "isPledge", "(I)Z"⟩, 53) := ⟨⟨by decide +kernel, by decide +kernel⟩, List.mem_of_getElem? (i := 943) (by decide +kernel), List.mem_of_getElem? (i := 1278) (by decide +kernel), List.mem_of_getElem? (i := 1279) (by decide +kernel)⟩
theorem lw_p26 : lw_okq (⟨"TowerAppealModel", "unfilled", "(I)I"⟩, 53) := ⟨⟨by decide +kernel, by decide +kernel⟩, List.mem_of_getElem? (i := 943) (by decide +kernel), List.mem_of_getElem? (i := 1287) (by decide +kernel), List.mem_of_getElem? (i := 1288) (by decide +kernel)⟩
theorem lw_p27 : lw_okq (⟨"TowerAppealModel", "come", "(II)I"⟩, 53) := ⟨⟨by decide +kernel, by decide +kernel⟩, List.mem_of_getElem? (i := 943) (by decide +kernel), List.mem_of_getElem? (i := 1292) (by decide +kernel), List.mem_of_getElem? (i := 1293) (by decide +kernel)⟩
theorem lw_p28 : lw_okq (⟨"TowerAppealModel", "toCome", "(I)I"⟩, 53) := ⟨⟨by decide +kernel, by decide +kernel⟩, List.mem_of_getElem? (i := 943) (by decide +kernel), List.mem_of_getElem? (i := 1308) (by decide +kernel), List.mem_of_getElem? (i := 1309) (by decide +kernel)⟩
theorem lw_p29 : lw_okq (⟨"TowerAppealModel", "overdue", "(I)I"⟩, 53) := ⟨⟨by decide +kernel, by decide +kernel⟩, List.mem_of_getElem? (i := 943) (by decide +kernel), List.mem_of_getElem? (i := 1320) (by decide +kernel), List.mem_of_getElem? (i := 1321) (by decide +kernel)⟩
theorem lw_p30 : lw_okq (⟨"TowerAppealModel", "runs", "()Z"⟩, 53) := ⟨⟨by decide +kernel, by decide +kernel⟩, List.mem_of_getElem? (i := 943) (by decide +kernel), List.mem_of_getElem? (i := 1338) (by decide +kernel), List.mem_of_getElem? (i := 1339) (by decide +kernel)⟩
theorem lw_p31 : lw_okq (⟨"TowerAppealModel", "endMonth", "()V"⟩, 53) := ⟨⟨by decide +kernel, by decide +kernel⟩, List.mem_of_getElem? (i := 943) (by decide +kernel), List.mem_of_getElem? (i := 1350) (by decide +kernel), List.mem_of_getElem? (i := 1351) (by decide +kernel)⟩
def lw_privs_2 : List (MethodName × Nat) := [(⟨"TowerAppealModel", "scan", "()V"⟩, 53), (⟨"TowerAppealModel", "byteAt", "(I)I"⟩, 53), (⟨"TowerAppealModel", "readTrust", "()I"⟩, 53), (⟨"TowerAppealModel", "key", "()I"⟩, 53), (⟨"TowerAppealModel", "is", "(Ljava/lang/String;)Z"⟩, 53), (⟨"TowerAppealModel", "wrong", "(I)LTowerAppealModel$Stop;"⟩, 53), (⟨"TowerAppealModel", "readLine", "(I)V"⟩, 53), (⟨"TowerAppealModel", "number", "(II)I"⟩, 53), (⟨"TowerAppealModel", "monthOf", "(II)I"⟩, 53), (⟨"TowerAppealModel", "isPledge", "(I)Z"⟩, 53), (⟨"TowerAppealModel", "unfilled", "(I)I"⟩, 53), (⟨"TowerAppealModel", "come", "(II)I"⟩, 53), (⟨"TowerAppealModel", "toCome", "(I)I"⟩, 53), (⟨"TowerAppealModel", "overdue", "(I)I"⟩, 53), (⟨"TowerAppealModel", "runs", "()Z"⟩, 53), (⟨"TowerAppealModel", "endMonth", "()V"⟩, 53)]
theorem lw_r2 : ∀ q ∈ lw_privs_2, lw_okq q := List.forall_mem_cons.mpr ⟨lw_p16, List.forall_mem_cons.mpr ⟨lw_p17, List.forall_mem_cons.mpr ⟨lw_p18, List.forall_mem_cons.mpr ⟨lw_p19, List.forall_mem_cons.mpr ⟨lw_p20, List.forall_mem_cons.mpr ⟨lw_p21, List.forall_mem_cons.mpr ⟨lw_p22, List.forall_mem_cons.mpr ⟨lw_p23, List.forall_mem_cons.mpr ⟨lw_p24, List.forall_mem_cons.mpr ⟨lw_p25, List.forall_mem_cons.mpr ⟨lw_p26, List.forall_mem_cons.mpr ⟨lw_p27, List.forall_mem_cons.mpr ⟨lw_p28, List.forall_mem_cons.mpr ⟨lw_p29, List.forall_mem_cons.mpr ⟨lw_p30, List.forall_mem_cons.mpr ⟨lw_p31, fun _ h => absurd h List.not_mem_nil⟩⟩⟩⟩⟩⟩⟩⟩⟩⟩⟩⟩⟩⟩⟩⟩
theorem lw_p32 : lw_okq (⟨"TowerAppealModel", "lapse", "(I)V"⟩, 53) := ⟨⟨by decide +kernel, by decide +kernel⟩, List.mem_of_getElem? (i := 943) (by decide +kernel), List.mem_of_getElem? (i := 1354) (by decide +kernel), List.mem_of_getElem? (i := 1355) (by decide +kernel)⟩
theorem lw_p33 : lw_okq (⟨"TowerAppealModel", "build", "()V"⟩, 53) := ⟨⟨by decide +kernel, by decide +kernel⟩, List.mem_of_getElem? (i := 943) (by decide +kernel), List.mem_of_getElem? (i := 1359) (by decide +kernel), List.mem_of_getElem? (i := 1360) (by decide +kernel)⟩
theorem lw_p34 : lw_okq (⟨"TowerAppealModel", "carve", "()I"⟩, 53) := ⟨⟨by decide +kernel, by decide +kernel⟩, List.mem_of_getElem? (i := 943) (by decide +kernel), List.mem_of_getElem? (i := 1371) (by decide +kernel), List.mem_of_getElem? (i := 1372) (by decide +kernel)⟩
theorem lw_p35 : lw_okq (⟨"TowerAppealModel", "allGiven", "()I"⟩, 53) := ⟨⟨by decide +kernel, by decide +kernel⟩, List.mem_of_getElem? (i := 943) (by decide +kernel), List.mem_of_getElem? (i := 1379) (by decide +kernel), List.mem_of_getElem? (i := 1380) (by decide +kernel)⟩
def lw_privs_3 : List (MethodName × Nat) := [(⟨"TowerAppealModel", "lapse", "(I)V"⟩, 53), (⟨"TowerAppealModel", "build", "()V"⟩, 53), (⟨"TowerAppealModel", "carve", "()I"⟩, 53), (⟨"TowerAppealModel", "allGiven", "()I"⟩, 53)]
theorem lw_r3 : ∀ q ∈ lw_privs_3, lw_okq q := List.forall_mem_cons.mpr ⟨lw_p32, List.forall_mem_cons.mpr ⟨lw_p33, List.forall_mem_cons.mpr ⟨lw_p34, List.forall_mem_cons.mpr ⟨lw_p35, fun _ h => absurd h List.not_mem_nil⟩⟩⟩⟩
def lw_privs : List (MethodName × Nat) := lw_privs_1 ++ (lw_privs_2 ++ (lw_privs_3))
def lw_tbl : List Cond := k2_sels lw_privs ++ tables_1
theorem lw_privs_ok : ∀ q ∈ lw_privs, lw_okq q := by
  show ∀ q ∈ lw_privs_1 ++ (lw_privs_2 ++ (lw_privs_3)), lw_okq q
  exact List.forall_mem_append.mpr ⟨lw_r1, List.forall_mem_append.mpr ⟨lw_r2, lw_r3⟩⟩

def tb : List Cond := lw_tbl.filter goodWord
theorem tb_mem {w : Cond} (i : Nat) (h : lw_tbl[i]? = some w) (hg : goodWord w = true) : w ∈ tb := List.mem_filter.mpr ⟨List.mem_of_getElem? h, hg⟩
theorem tb_good : ∀ w ∈ tb, (w.onTables && w.keeps) = true ∨ ∃ ty, w = .arrayClass ty := fun _ h => good_of_word (List.mem_filter.mp h).2
theorem tb_in : ∀ w ∈ tb, w ∈ lw_tbl := fun _ h => (List.mem_filter.mp h).1
theorem tb_GoodIn {c c' : Cond} (h : c' ∈ tb) : GoodIn (c :: tb) (c' :: tb) := fun w hw => (List.mem_cons.mp hw).elim (fun e => by rw [e]; exact ⟨List.mem_cons_of_mem _ h, tb_good _ h⟩) (fun q => ⟨List.mem_cons_of_mem _ q, tb_good _ q⟩)
theorem tb_GoodT {c' : Cond} (h : c' ∈ tb) : GoodIn tb (c' :: tb) := fun w hw => (List.mem_cons.mp hw).elim (fun e => by rw [e]; exact ⟨h, tb_good _ h⟩) (fun q => ⟨q, tb_good _ q⟩)
end
section
def RX0 : String := "TowerAppeal$Givers"
def TX0 : u_T := fun k => match k with
  | 0 => ("TowerAppeal$Givers", "from", "[I", true)
  | 1 => ("TowerAppeal$Givers", "to", "[I", true)
  | 2 => ("TowerAppeal$Givers", "withoutName", "[Z", true)
  | 3 => ("TowerAppeal$Givers", "gotBack", "[I", true)
  | 4 => ("TowerAppeal$Givers", "gaveSoFar", "[I", true)
  | _ => ("TowerAppeal$Givers", "stoneOrder", "[I", true)
def tyX0 : Nat → FieldType := fun k => match k with
  | 0 => .array .int
  | 1 => .array .int
  | 2 => .array .boolean
  | 3 => .array .int
  | 4 => .array .int
  | _ => .array .int
theorem nmX0 : ∀ a, a < 6 → ∀ b, b < 6 → a ≠ b → (TX0 a).2.1 ≠ (TX0 b).2.1 := by decide +kernel
theorem tyX0_ok : ∀ k, k < 6 → parseFieldDescriptor (TX0 k).2.2.1 = some (tyX0 k) := by decide +kernel
abbrev cX0_init : ByteArray := prog_2_method_1_code
def yX0_init : MethodName := ⟨RX0, "<init>", "()V"⟩
abbrev cX0_setDeclaration : ByteArray := prog_2_method_2_code
def yX0_setDeclaration : MethodName := ⟨RX0, "setDeclaration", "(III)V"⟩
abbrev cX0_declaredFrom : ByteArray := prog_2_method_3_code
def yX0_declaredFrom : MethodName := ⟨RX0, "declaredFrom", "(I)I"⟩
abbrev cX0_declaredTo : ByteArray := prog_2_method_4_code
def yX0_declaredTo : MethodName := ⟨RX0, "declaredTo", "(I)I"⟩
abbrev cX0_hasDeclared : ByteArray := prog_2_method_5_code
def yX0_hasDeclared : MethodName := ⟨RX0, "hasDeclared", "(II)Z"⟩
abbrev cX0_setWithoutName : ByteArray := prog_2_method_6_code
def yX0_setWithoutName : MethodName := ⟨RX0, "setWithoutName", "(IZ)Z"⟩
abbrev cX0_isWithoutName : ByteArray := prog_2_method_7_code
def yX0_isWithoutName : MethodName := ⟨RX0, "isWithoutName", "(I)Z"⟩
abbrev cX0_gotBack : ByteArray := prog_2_method_8_code
def yX0_gotBack : MethodName := ⟨RX0, "gotBack", "(I)I"⟩
abbrev cX0_ofStone : ByteArray := prog_2_method_9_code
def yX0_ofStone : MethodName := ⟨RX0, "ofStone", "(I)I"⟩
abbrev cX0_orderStones : ByteArray := prog_2_method_10_code
def yX0_orderStones : MethodName := ⟨RX0, "orderStones", "(LTowerAppeal$Sums;I)I"⟩
abbrev cX0_partCoin : ByteArray := prog_2_method_11_code
def yX0_partCoin : MethodName := ⟨RX0, "partCoin", "(JLTowerAppeal$Sums;Z)I"⟩
def RX1 : String := "TowerAppeal$Pledge"
def TX1 : u_T := fun k => match k with
  | 0 => ("TowerAppeal$Pledge", "giverNumber", "I", true)
  | 1 => ("TowerAppeal$Pledge", "first", "I", true)
  | 2 => ("TowerAppeal$Pledge", "every", "I", true)
  | 3 => ("TowerAppeal$Pledge", "size", "I", true)
  | 4 => ("TowerAppeal$Pledge", "owed", "[I", true)
  | 5 => ("TowerAppeal$Pledge", "filled", "[I", true)
  | 6 => ("TowerAppeal$Pledge", "standing", "[I", true)
  | 7 => ("TowerAppeal$Pledge", "penceToCome", "I", false)
  | 8 => ("TowerAppeal$Pledge", "filledInAll", "I", false)
  | 9 => ("TowerAppeal$Pledge", "lapsed", "Z", false)
  | 10 => ("TowerAppeal$Pledge", "takenUp", "Z", false)
  | _ => ("TowerAppeal$Pledge", "firstLapse", "I", false)
def tyX1 : Nat → FieldType := fun k => match k with
  | 0 => .int
  | 1 => .int
  | 2 => .int
  | 3 => .int
  | 4 => .array .int
  | 5 => .array .int
  | 6 => .array .int
  | 7 => .int
  | 8 => .int
  | 9 => .boolean
  | 10 => .boolean
  | _ => .int
theorem nmX1 : ∀ a, a < 12 → ∀ b, b < 12 → a ≠ b → (TX1 a).2.1 ≠ (TX1 b).2.1 := by decide +kernel
theorem tyX1_ok : ∀ k, k < 12 → parseFieldDescriptor (TX1 k).2.2.1 = some (tyX1 k) := by decide +kernel
abbrev cX1_init : ByteArray := prog_3_method_1_code
def yX1_init : MethodName := ⟨RX1, "<init>", "(IIIII)V"⟩
abbrev cX1_duesThatCome : ByteArray := prog_3_method_2_code
def yX1_duesThatCome : MethodName := ⟨RX1, "duesThatCome", "(III)I"⟩
abbrev cX1_monthOf : ByteArray := prog_3_method_3_code
def yX1_monthOf : MethodName := ⟨RX1, "monthOf", "(I)I"⟩
abbrev cX1_giverNumber : ByteArray := prog_3_method_4_code
def yX1_giverNumber : MethodName := ⟨RX1, "giverNumber", "()I"⟩
abbrev cX1_penceToCome : ByteArray := prog_3_method_5_code
def yX1_penceToCome : MethodName := ⟨RX1, "penceToCome", "()I"⟩
abbrev cX1_filledInAll : ByteArray := prog_3_method_6_code
def yX1_filledInAll : MethodName := ⟨RX1, "filledInAll", "()I"⟩
abbrev cX1_isLapsed : ByteArray := prog_3_method_7_code
def yX1_isLapsed : MethodName := ⟨RX1, "isLapsed", "()Z"⟩
abbrev cX1_firstLapse : ByteArray := prog_3_method_8_code
def yX1_firstLapse : MethodName := ⟨RX1, "firstLapse", "()I"⟩
abbrev cX1_mayBeTakenUp : ByteArray := prog_3_method_9_code
def yX1_mayBeTakenUp : MethodName := ⟨RX1, "mayBeTakenUp", "()Z"⟩
abbrev cX1_overdue : ByteArray := prog_3_method_10_code
def yX1_overdue : MethodName := ⟨RX1, "overdue", "(I)I"⟩
abbrev cX1_unfilled : ByteArray := prog_3_method_11_code
def yX1_unfilled : MethodName := ⟨RX1, "unfilled", "()I"⟩
abbrev cX1_unfilledWithin : ByteArray := prog_3_method_12_code
def yX1_unfilledWithin : MethodName := ⟨RX1, "unfilledWithin", "(II)I"⟩
abbrev cX1_nextDue : ByteArray := prog_3_method_13_code
def yX1_nextDue : MethodName := ⟨RX1, "nextDue", "(I)I"⟩
abbrev cX1_duesToCome : ByteArray := prog_3_method_14_code
def yX1_duesToCome : MethodName := ⟨RX1, "duesToCome", "(I)I"⟩
abbrev cX1_dueSoFar : ByteArray := prog_3_method_15_code
def yX1_dueSoFar : MethodName := ⟨RX1, "dueSoFar", "(I)I"⟩
abbrev cX1_filledSoFar : ByteArray := prog_3_method_16_code
def yX1_filledSoFar : MethodName := ⟨RX1, "filledSoFar", "(I)I"⟩
abbrev cX1_setPence : ByteArray := prog_3_method_17_code
def yX1_setPence : MethodName := ⟨RX1, "setPence", "(II)V"⟩
abbrev cX1_fill : ByteArray := prog_3_method_18_code
def yX1_fill : MethodName := ⟨RX1, "fill", "(I)V"⟩
abbrev cX1_lapseIn : ByteArray := prog_3_method_19_code
def yX1_lapseIn : MethodName := ⟨RX1, "lapseIn", "(I)V"⟩
abbrev cX1_standAgain : ByteArray := prog_3_method_20_code
def yX1_standAgain : MethodName := ⟨RX1, "standAgain", "(I)V"⟩
def RX2 : String := "TowerAppeal$PledgeBook"
def TX2 : u_T := fun k => match k with
  | 0 => ("TowerAppeal$PledgeBook", "all", "[LTowerAppeal$Pledge;", true)
  | _ => ("TowerAppeal$PledgeBook", "size", "I", false)
def tyX2 : Nat → FieldType := fun k => match k with
  | 0 => .array (.object "TowerAppeal$Pledge")
  | _ => .int
theorem nmX2 : ∀ a, a < 2 → ∀ b, b < 2 → a ≠ b → (TX2 a).2.1 ≠ (TX2 b).2.1 := by decide +kernel
theorem tyX2_ok : ∀ k, k < 2 → parseFieldDescriptor (TX2 k).2.2.1 = some (tyX2 k) := by decide +kernel
abbrev cX2_init : ByteArray := prog_4_method_1_code
def yX2_init : MethodName := ⟨RX2, "<init>", "()V"⟩
abbrev cX2_size : ByteArray := prog_4_method_2_code
def yX2_size : MethodName := ⟨RX2, "size", "()I"⟩
abbrev cX2_isFull : ByteArray := prog_4_method_3_code
def yX2_isFull : MethodName := ⟨RX2, "isFull", "()Z"⟩
abbrev cX2_add : ByteArray := prog_4_method_4_code
def yX2_add : MethodName := ⟨RX2, "add", "(LTowerAppeal$Pledge;)I"⟩
abbrev cX2_at : ByteArray := prog_4_method_5_code
def yX2_at : MethodName := ⟨RX2, "at", "(I)LTowerAppeal$Pledge;"⟩
abbrev cX2_lapsedNow : ByteArray := prog_4_method_6_code
def yX2_lapsedNow : MethodName := ⟨RX2, "lapsedNow", "()I"⟩
abbrev cX2_lapseAll : ByteArray := prog_4_method_7_code
def yX2_lapseAll : MethodName := ⟨RX2, "lapseAll", "(II)V"⟩
abbrev cX2_sureWithin : ByteArray := prog_4_method_8_code
def yX2_sureWithin : MethodName := ⟨RX2, "sureWithin", "(II)I"⟩
def RX3 : String := "TowerAppeal$Purse"
def TX3 : u_T := fun k => match k with
  | 0 => ("TowerAppeal$Purse", "coin", "J", false)
  | 1 => ("TowerAppeal$Purse", "loan", "J", false)
  | 2 => ("TowerAppeal$Purse", "matched", "J", false)
  | 3 => ("TowerAppeal$Purse", "tax", "J", false)
  | 4 => ("TowerAppeal$Purse", "paidForStages", "J", false)
  | _ => ("TowerAppeal$Purse", "grown", "J", false)
def tyX3 : Nat → FieldType := fun k => match k with
  | 0 => .long
  | 1 => .long
  | 2 => .long
  | 3 => .long
  | 4 => .long
  | _ => .long
theorem nmX3 : ∀ a, a < 6 → ∀ b, b < 6 → a ≠ b → (TX3 a).2.1 ≠ (TX3 b).2.1 := by decide +kernel
theorem tyX3_ok : ∀ k, k < 6 → parseFieldDescriptor (TX3 k).2.2.1 = some (tyX3 k) := by decide +kernel
abbrev cX3_init : ByteArray := prog_5_method_1_code
def yX3_init : MethodName := ⟨RX3, "<init>", "()V"⟩
abbrev cX3_coin : ByteArray := prog_5_method_2_code
def yX3_coin : MethodName := ⟨RX3, "coin", "()J"⟩
abbrev cX3_loan : ByteArray := prog_5_method_3_code
def yX3_loan : MethodName := ⟨RX3, "loan", "()J"⟩
abbrev cX3_matched : ByteArray := prog_5_method_4_code
def yX3_matched : MethodName := ⟨RX3, "matched", "()J"⟩
abbrev cX3_tax : ByteArray := prog_5_method_5_code
def yX3_tax : MethodName := ⟨RX3, "tax", "()J"⟩
abbrev cX3_paidForStages : ByteArray := prog_5_method_6_code
def yX3_paidForStages : MethodName := ⟨RX3, "paidForStages", "()J"⟩
abbrev cX3_grown : ByteArray := prog_5_method_7_code
def yX3_grown : MethodName := ⟨RX3, "grown", "()J"⟩
abbrev cX3_takeSum : ByteArray := prog_5_method_8_code
def yX3_takeSum : MethodName := ⟨RX3, "takeSum", "(IILTowerAppeal$Trust;)I"⟩
abbrev cX3_takeTax : ByteArray := prog_5_method_9_code
def yX3_takeTax : MethodName := ⟨RX3, "takeTax", "(I)V"⟩
abbrev cX3_growLoan : ByteArray := prog_5_method_10_code
def yX3_growLoan : MethodName := ⟨RX3, "growLoan", "(I)V"⟩
abbrev cX3_paysPart : ByteArray := prog_5_method_11_code
def yX3_paysPart : MethodName := ⟨RX3, "paysPart", "(II)Z"⟩
abbrev cX3_payBackLoan : ByteArray := prog_5_method_12_code
def yX3_payBackLoan : MethodName := ⟨RX3, "payBackLoan", "()V"⟩
abbrev cX3_giveBack : ByteArray := prog_5_method_13_code
def yX3_giveBack : MethodName := ⟨RX3, "giveBack", "(I)V"⟩
def RX4 : String := "TowerAppeal$Stage"
def TX4 : u_T := fun k => match k with
  | 0 => ("TowerAppeal$Stage", "cost", "I", true)
  | 1 => ("TowerAppeal$Stage", "parts", "I", true)
  | 2 => ("TowerAppeal$Stage", "progress", "I", false)
  | 3 => ("TowerAppeal$Stage", "partsPaid", "I", false)
  | 4 => ("TowerAppeal$Stage", "paid", "I", false)
  | _ => ("TowerAppeal$Stage", "paused", "I", false)
def tyX4 : Nat → FieldType := fun k => match k with
  | 0 => .int
  | 1 => .int
  | 2 => .int
  | 3 => .int
  | 4 => .int
  | _ => .int
theorem nmX4 : ∀ a, a < 6 → ∀ b, b < 6 → a ≠ b → (TX4 a).2.1 ≠ (TX4 b).2.1 := by decide +kernel
theorem tyX4_ok : ∀ k, k < 6 → parseFieldDescriptor (TX4 k).2.2.1 = some (tyX4 k) := by decide +kernel
abbrev cX4_init : ByteArray := prog_6_method_1_code
def yX4_init : MethodName := ⟨RX4, "<init>", "(II)V"⟩
abbrev cX4_cost : ByteArray := prog_6_method_2_code
def yX4_cost : MethodName := ⟨RX4, "cost", "()I"⟩
abbrev cX4_parts : ByteArray := prog_6_method_3_code
def yX4_parts : MethodName := ⟨RX4, "parts", "()I"⟩
abbrev cX4_progress : ByteArray := prog_6_method_4_code
def yX4_progress : MethodName := ⟨RX4, "progress", "()I"⟩
abbrev cX4_paid : ByteArray := prog_6_method_5_code
def yX4_paid : MethodName := ⟨RX4, "paid", "()I"⟩
abbrev cX4_paused : ByteArray := prog_6_method_6_code
def yX4_paused : MethodName := ⟨RX4, "paused", "()I"⟩
abbrev cX4_runs : ByteArray := prog_6_method_7_code
def yX4_runs : MethodName := ⟨RX4, "runs", "()Z"⟩
abbrev cX4_start : ByteArray := prog_6_method_8_code
def yX4_start : MethodName := ⟨RX4, "start", "()V"⟩
abbrev cX4_nextPart : ByteArray := prog_6_method_9_code
def yX4_nextPart : MethodName := ⟨RX4, "nextPart", "()I"⟩
abbrev cX4_bookPart : ByteArray := prog_6_method_10_code
def yX4_bookPart : MethodName := ⟨RX4, "bookPart", "(I)V"⟩
abbrev cX4_bookPause : ByteArray := prog_6_method_11_code
def yX4_bookPause : MethodName := ⟨RX4, "bookPause", "()V"⟩
def RX5 : String := "TowerAppeal$Sums"
def TX5 : u_T := fun k => match k with
  | 0 => ("TowerAppeal$Sums", "giver", "[I", true)
  | 1 => ("TowerAppeal$Sums", "pence", "[I", true)
  | 2 => ("TowerAppeal$Sums", "month", "[I", true)
  | 3 => ("TowerAppeal$Sums", "claimed", "[Z", true)
  | 4 => ("TowerAppeal$Sums", "size", "I", false)
  | _ => ("TowerAppeal$Sums", "total", "J", false)
def tyX5 : Nat → FieldType := fun k => match k with
  | 0 => .array .int
  | 1 => .array .int
  | 2 => .array .int
  | 3 => .array .boolean
  | 4 => .int
  | _ => .long
theorem nmX5 : ∀ a, a < 6 → ∀ b, b < 6 → a ≠ b → (TX5 a).2.1 ≠ (TX5 b).2.1 := by decide +kernel
theorem tyX5_ok : ∀ k, k < 6 → parseFieldDescriptor (TX5 k).2.2.1 = some (tyX5 k) := by decide +kernel
abbrev cX5_init : ByteArray := prog_7_method_1_code
def yX5_init : MethodName := ⟨RX5, "<init>", "()V"⟩
abbrev cX5_size : ByteArray := prog_7_method_2_code
def yX5_size : MethodName := ⟨RX5, "size", "()I"⟩
abbrev cX5_total : ByteArray := prog_7_method_3_code
def yX5_total : MethodName := ⟨RX5, "total", "()J"⟩
abbrev cX5_isFull : ByteArray := prog_7_method_4_code
def yX5_isFull : MethodName := ⟨RX5, "isFull", "()Z"⟩
abbrev cX5_add : ByteArray := prog_7_method_5_code
def yX5_add : MethodName := ⟨RX5, "add", "(III)V"⟩
abbrev cX5_giverOf : ByteArray := prog_7_method_6_code
def yX5_giverOf : MethodName := ⟨RX5, "giverOf", "(I)I"⟩
abbrev cX5_penceOf : ByteArray := prog_7_method_7_code
def yX5_penceOf : MethodName := ⟨RX5, "penceOf", "(I)I"⟩
abbrev cX5_givenBy : ByteArray := prog_7_method_8_code
def yX5_givenBy : MethodName := ⟨RX5, "givenBy", "(I)I"⟩
abbrev cX5_unclaimedOf : ByteArray := prog_7_method_9_code
def yX5_unclaimedOf : MethodName := ⟨RX5, "unclaimedOf", "(I)I"⟩
abbrev cX5_claimTax : ByteArray := prog_7_method_10_code
def yX5_claimTax : MethodName := ⟨RX5, "claimTax", "(ILTowerAppeal$Givers;)I"⟩
def RX6 : String := "TowerAppeal$Tape"
def TX6 : u_T := fun k => match k with
  | 0 => ("TowerAppeal$Tape", "bytes", "[B", true)
  | _ => ("TowerAppeal$Tape", "length", "I", false)
def tyX6 : Nat → FieldType := fun k => match k with
  | 0 => .array .byte
  | _ => .int
theorem nmX6 : ∀ a, a < 2 → ∀ b, b < 2 → a ≠ b → (TX6 a).2.1 ≠ (TX6 b).2.1 := by decide +kernel
theorem tyX6_ok : ∀ k, k < 2 → parseFieldDescriptor (TX6 k).2.2.1 = some (tyX6 k) := by decide +kernel
abbrev cX6_init : ByteArray := prog_8_method_1_code
def yX6_init : MethodName := ⟨RX6, "<init>", "()V"⟩
abbrev cX6_length : ByteArray := prog_8_method_2_code
def yX6_length : MethodName := ⟨RX6, "length", "()I"⟩
abbrev cX6_hasRoomForTwenty : ByteArray := prog_8_method_3_code
def yX6_hasRoomForTwenty : MethodName := ⟨RX6, "hasRoomForTwenty", "()Z"⟩
abbrev cX6_putFour : ByteArray := prog_8_method_4_code
def yX6_putFour : MethodName := ⟨RX6, "putFour", "(I)V"⟩
abbrev cX6_cutTo : ByteArray := prog_8_method_5_code
def yX6_cutTo : MethodName := ⟨RX6, "cutTo", "(I)V"⟩
abbrev cX6_at : ByteArray := prog_8_method_6_code
def yX6_at : MethodName := ⟨RX6, "at", "(I)I"⟩
def RX7 : String := "TowerAppeal$Tower"
def TX7 : u_T := fun k => match k with
  | 0 => ("TowerAppeal$Tower", "all", "[LTowerAppeal$Stage;", true)
  | 1 => ("TowerAppeal$Tower", "size", "I", false)
  | _ => ("TowerAppeal$Tower", "started", "I", false)
def tyX7 : Nat → FieldType := fun k => match k with
  | 0 => .array (.object "TowerAppeal$Stage")
  | 1 => .int
  | _ => .int
theorem nmX7 : ∀ a, a < 3 → ∀ b, b < 3 → a ≠ b → (TX7 a).2.1 ≠ (TX7 b).2.1 := by decide +kernel
theorem tyX7_ok : ∀ k, k < 3 → parseFieldDescriptor (TX7 k).2.2.1 = some (tyX7 k) := by decide +kernel
abbrev cX7_init : ByteArray := prog_9_method_1_code
def yX7_init : MethodName := ⟨RX7, "<init>", "()V"⟩
abbrev cX7_size : ByteArray := prog_9_method_2_code
def yX7_size : MethodName := ⟨RX7, "size", "()I"⟩
abbrev cX7_isFull : ByteArray := prog_9_method_3_code
def yX7_isFull : MethodName := ⟨RX7, "isFull", "()Z"⟩
abbrev cX7_add : ByteArray := prog_9_method_4_code
def yX7_add : MethodName := ⟨RX7, "add", "(LTowerAppeal$Stage;)I"⟩
abbrev cX7_at : ByteArray := prog_9_method_5_code
def yX7_at : MethodName := ⟨RX7, "at", "(I)LTowerAppeal$Stage;"⟩
abbrev cX7_running : ByteArray := prog_9_method_6_code
def yX7_running : MethodName := ⟨RX7, "running", "()LTowerAppeal$Stage;"⟩
abbrev cX7_mayStartNext : ByteArray := prog_9_method_7_code
def yX7_mayStartNext : MethodName := ⟨RX7, "mayStartNext", "()Z"⟩
abbrev cX7_startNext : ByteArray := prog_9_method_8_code
def yX7_startNext : MethodName := ⟨RX7, "startNext", "()I"⟩
abbrev cX7_payPart : ByteArray := prog_9_method_9_code
def yX7_payPart : MethodName := ⟨RX7, "payPart", "(LTowerAppeal$Purse;I)V"⟩
def RX8 : String := "TowerAppeal$Trust"
def TX8 : u_T := fun k => match k with
  | _ => ("TowerAppeal$Trust", "rules", "[I", true)
def tyX8 : Nat → FieldType := fun k => match k with
  | _ => .array .int
theorem nmX8 : ∀ a, a < 1 → ∀ b, b < 1 → a ≠ b → (TX8 a).2.1 ≠ (TX8 b).2.1 := by decide +kernel
theorem tyX8_ok : ∀ k, k < 1 → parseFieldDescriptor (TX8 k).2.2.1 = some (tyX8 k) := by decide +kernel
abbrev cX8_init : ByteArray := prog_10_method_1_code
def yX8_init : MethodName := ⟨RX8, "<init>", "()V"⟩
abbrev cX8_forget : ByteArray := prog_10_method_2_code
def yX8_forget : MethodName := ⟨RX8, "forget", "()V"⟩
abbrev cX8_takeOver : ByteArray := prog_10_method_3_code
def yX8_takeOver : MethodName := ⟨RX8, "takeOver", "(LTowerAppeal$Trust;)V"⟩
abbrev cX8_at : ByteArray := prog_10_method_4_code
def yX8_at : MethodName := ⟨RX8, "at", "(I)I"⟩
abbrev cX8_put : ByteArray := prog_10_method_5_code
def yX8_put : MethodName := ⟨RX8, "put", "(II)V"⟩
abbrev cX8_matchHundredths : ByteArray := prog_10_method_6_code
def yX8_matchHundredths : MethodName := ⟨RX8, "matchHundredths", "()I"⟩
abbrev cX8_matchCapPence : ByteArray := prog_10_method_7_code
def yX8_matchCapPence : MethodName := ⟨RX8, "matchCapPence", "()I"⟩
abbrev cX8_matchTill : ByteArray := prog_10_method_8_code
def yX8_matchTill : MethodName := ⟨RX8, "matchTill", "()I"⟩
abbrev cX8_taxHundredths : ByteArray := prog_10_method_9_code
def yX8_taxHundredths : MethodName := ⟨RX8, "taxHundredths", "()I"⟩
abbrev cX8_lapseDues : ByteArray := prog_10_method_10_code
def yX8_lapseDues : MethodName := ⟨RX8, "lapseDues", "()I"⟩
abbrev cX8_loanPence : ByteArray := prog_10_method_11_code
def yX8_loanPence : MethodName := ⟨RX8, "loanPence", "()I"⟩
abbrev cX8_loanThousandths : ByteArray := prog_10_method_12_code
def yX8_loanThousandths : MethodName := ⟨RX8, "loanThousandths", "()I"⟩
abbrev cX8_stonePence : ByteArray := prog_10_method_13_code
def yX8_stonePence : MethodName := ⟨RX8, "stonePence", "()I"⟩
abbrev cX8_givesAllBack : ByteArray := prog_10_method_14_code
def yX8_givesAllBack : MethodName := ⟨RX8, "givesAllBack", "()Z"⟩
def RX9 : String := "TowerAppeal$TrustReader"
def TX9 : u_T := fun k => match k with
  | 0 => ("TowerAppeal$TrustReader", "draft", "LTowerAppeal$Trust;", true)
  | 1 => ("TowerAppeal$TrustReader", "told", "[Z", true)
  | 2 => ("TowerAppeal$TrustReader", "head", "I", false)
  | 3 => ("TowerAppeal$TrustReader", "token", "I", false)
  | 4 => ("TowerAppeal$TrustReader", "tokenStart", "I", false)
  | 5 => ("TowerAppeal$TrustReader", "tokenValue", "I", false)
  | 6 => ("TowerAppeal$TrustReader", "faultKind", "I", false)
  | _ => ("TowerAppeal$TrustReader", "faultPlace", "I", false)
def tyX9 : Nat → FieldType := fun k => match k with
  | 0 => .object "TowerAppeal$Trust"
  | 1 => .array .boolean
  | 2 => .int
  | 3 => .int
  | 4 => .int
  | 5 => .int
  | 6 => .int
  | _ => .int
theorem nmX9 : ∀ a, a < 8 → ∀ b, b < 8 → a ≠ b → (TX9 a).2.1 ≠ (TX9 b).2.1 := by decide +kernel
theorem tyX9_ok : ∀ k, k < 8 → parseFieldDescriptor (TX9 k).2.2.1 = some (tyX9 k) := by decide +kernel
abbrev cX9_init : ByteArray := prog_11_method_1_code
def yX9_init : MethodName := ⟨RX9, "<init>", "()V"⟩
abbrev cX9_draft : ByteArray := prog_11_method_2_code
def yX9_draft : MethodName := ⟨RX9, "draft", "()LTowerAppeal$Trust;"⟩
abbrev cX9_faultKind : ByteArray := prog_11_method_3_code
def yX9_faultKind : MethodName := ⟨RX9, "faultKind", "()I"⟩
abbrev cX9_faultPlace : ByteArray := prog_11_method_4_code
def yX9_faultPlace : MethodName := ⟨RX9, "faultPlace", "()I"⟩
abbrev cX9_read : ByteArray := prog_11_method_5_code
def yX9_read : MethodName := ⟨RX9, "read", "(LTowerAppeal$Tape;)I"⟩
abbrev cX9_startAnew : ByteArray := prog_11_method_6_code
def yX9_startAnew : MethodName := ⟨RX9, "startAnew", "()V"⟩
abbrev cX9_refuse : ByteArray := prog_11_method_7_code
def yX9_refuse : MethodName := ⟨RX9, "refuse", "(I)V"⟩
abbrev cX9_readLine : ByteArray := prog_11_method_8_code
def yX9_readLine : MethodName := ⟨RX9, "readLine", "(LTowerAppeal$Tape;)V"⟩
abbrev cX9_readNumbers : ByteArray := prog_11_method_9_code
def yX9_readNumbers : MethodName := ⟨RX9, "readNumbers", "(LTowerAppeal$Tape;I)V"⟩
abbrev cX9_isInBounds : ByteArray := prog_11_method_10_code
def yX9_isInBounds : MethodName := ⟨RX9, "isInBounds", "(II)Z"⟩
abbrev cX9_readStop : ByteArray := prog_11_method_11_code
def yX9_readStop : MethodName := ⟨RX9, "readStop", "(LTowerAppeal$Tape;)V"⟩
abbrev cX9_lineOfWord : ByteArray := prog_11_method_12_code
def yX9_lineOfWord : MethodName := ⟨RX9, "lineOfWord", "(LTowerAppeal$Tape;)I"⟩
abbrev cX9_isWord : ByteArray := prog_11_method_13_code
def yX9_isWord : MethodName := ⟨RX9, "isWord", "(LTowerAppeal$Tape;Ljava/lang/String;)Z"⟩
abbrev cX9_readToken : ByteArray := prog_11_method_14_code
def yX9_readToken : MethodName := ⟨RX9, "readToken", "(LTowerAppeal$Tape;)V"⟩
abbrev cX9_readWord : ByteArray := prog_11_method_15_code
def yX9_readWord : MethodName := ⟨RX9, "readWord", "(LTowerAppeal$Tape;)V"⟩
abbrev cX9_readNumber : ByteArray := prog_11_method_16_code
def yX9_readNumber : MethodName := ⟨RX9, "readNumber", "(LTowerAppeal$Tape;)V"⟩
abbrev cX9_isBlank : ByteArray := prog_11_method_17_code
def yX9_isBlank : MethodName := ⟨RX9, "isBlank", "(I)Z"⟩
abbrev cX9_isLetter : ByteArray := prog_11_method_18_code
def yX9_isLetter : MethodName := ⟨RX9, "isLetter", "(I)Z"⟩
abbrev cX9_isDigit : ByteArray := prog_11_method_19_code
def yX9_isDigit : MethodName := ⟨RX9, "isDigit", "(I)Z"⟩
def RX10 : String := "TowerAppeal"
def TX10 : u_T := fun k => match k with
  | 0 => ("TowerAppeal", "tape", "LTowerAppeal$Tape;", true)
  | 1 => ("TowerAppeal", "reader", "LTowerAppeal$TrustReader;", true)
  | 2 => ("TowerAppeal", "inForce", "LTowerAppeal$Trust;", true)
  | 3 => ("TowerAppeal", "givers", "LTowerAppeal$Givers;", true)
  | 4 => ("TowerAppeal", "pledges", "LTowerAppeal$PledgeBook;", true)
  | 5 => ("TowerAppeal", "sums", "LTowerAppeal$Sums;", true)
  | 6 => ("TowerAppeal", "purse", "LTowerAppeal$Purse;", true)
  | 7 => ("TowerAppeal", "tower", "LTowerAppeal$Tower;", true)
  | 8 => ("TowerAppeal", "clock", "I", false)
  | _ => ("TowerAppeal", "stopped", "Z", false)
def tyX10 : Nat → FieldType := fun k => match k with
  | 0 => .object "TowerAppeal$Tape"
  | 1 => .object "TowerAppeal$TrustReader"
  | 2 => .object "TowerAppeal$Trust"
  | 3 => .object "TowerAppeal$Givers"
  | 4 => .object "TowerAppeal$PledgeBook"
  | 5 => .object "TowerAppeal$Sums"
  | 6 => .object "TowerAppeal$Purse"
  | 7 => .object "TowerAppeal$Tower"
  | 8 => .int
  | _ => .boolean
theorem nmX10 : ∀ a, a < 10 → ∀ b, b < 10 → a ≠ b → (TX10 a).2.1 ≠ (TX10 b).2.1 := by decide +kernel
theorem tyX10_ok : ∀ k, k < 10 → parseFieldDescriptor (TX10 k).2.2.1 = some (tyX10 k) := by decide +kernel
abbrev cX10_init : ByteArray := prog_1_method_1_code
def yX10_init : MethodName := ⟨RX10, "<init>", "()V"⟩
abbrev cX10_feed : ByteArray := prog_1_method_2_code
def yX10_feed : MethodName := ⟨RX10, "feed", "(IIIII)I"⟩
abbrev cX10_end : ByteArray := prog_1_method_3_code
def yX10_end : MethodName := ⟨RX10, "end", "(I)I"⟩
abbrev cX10_trust : ByteArray := prog_1_method_4_code
def yX10_trust : MethodName := ⟨RX10, "trust", "()I"⟩
abbrev cX10_fault : ByteArray := prog_1_method_5_code
def yX10_fault : MethodName := ⟨RX10, "fault", "(I)I"⟩
abbrev cX10_rule : ByteArray := prog_1_method_6_code
def yX10_rule : MethodName := ⟨RX10, "rule", "(I)I"⟩
abbrev cX10_declare : ByteArray := prog_1_method_7_code
def yX10_declare : MethodName := ⟨RX10, "declare", "(III)I"⟩
abbrev cX10_nameless : ByteArray := prog_1_method_8_code
def yX10_nameless : MethodName := ⟨RX10, "nameless", "(IZ)I"⟩
abbrev cX10_pledge : ByteArray := prog_1_method_9_code
def yX10_pledge : MethodName := ⟨RX10, "pledge", "(IIIII)I"⟩
abbrev cX10_change : ByteArray := prog_1_method_10_code
def yX10_change : MethodName := ⟨RX10, "change", "(II)I"⟩
abbrev cX10_pay : ByteArray := prog_1_method_11_code
def yX10_pay : MethodName := ⟨RX10, "pay", "(II)I"⟩
abbrev cX10_gift : ByteArray := prog_1_method_12_code
def yX10_gift : MethodName := ⟨RX10, "gift", "(II)I"⟩
abbrev cX10_takeUp : ByteArray := prog_1_method_13_code
def yX10_takeUp : MethodName := ⟨RX10, "takeUp", "(I)I"⟩
abbrev cX10_claim : ByteArray := prog_1_method_14_code
def yX10_claim : MethodName := ⟨RX10, "claim", "()I"⟩
abbrev cX10_about : ByteArray := prog_1_method_15_code
def yX10_about : MethodName := ⟨RX10, "about", "(II)I"⟩
abbrev cX10_giver : ByteArray := prog_1_method_16_code
def yX10_giver : MethodName := ⟨RX10, "giver", "(II)I"⟩
abbrev cX10_stage : ByteArray := prog_1_method_17_code
def yX10_stage : MethodName := ⟨RX10, "stage", "(II)I"⟩
abbrev cX10_begin : ByteArray := prog_1_method_18_code
def yX10_begin : MethodName := ⟨RX10, "begin", "()I"⟩
abbrev cX10_built : ByteArray := prog_1_method_19_code
def yX10_built : MethodName := ⟨RX10, "built", "(II)I"⟩
abbrev cX10_months : ByteArray := prog_1_method_20_code
def yX10_months : MethodName := ⟨RX10, "months", "(I)I"⟩
abbrev cX10_sure : ByteArray := prog_1_method_21_code
def yX10_sure : MethodName := ⟨RX10, "sure", "(I)I"⟩
abbrev cX10_stone : ByteArray := prog_1_method_22_code
def yX10_stone : MethodName := ⟨RX10, "stone", "(I)I"⟩
abbrev cX10_stop : ByteArray := prog_1_method_23_code
def yX10_stop : MethodName := ⟨RX10, "stop", "()I"⟩
abbrev cX10_back : ByteArray := prog_1_method_24_code
def yX10_back : MethodName := ⟨RX10, "back", "(I)I"⟩
abbrev cX10_count : ByteArray := prog_1_method_25_code
def yX10_count : MethodName := ⟨RX10, "count", "(I)I"⟩
abbrev cX10_isGiver : ByteArray := prog_1_method_26_code
def yX10_isGiver : MethodName := ⟨RX10, "isGiver", "(I)Z"⟩
abbrev cX10_isSum : ByteArray := prog_1_method_27_code
def yX10_isSum : MethodName := ⟨RX10, "isSum", "(I)Z"⟩
abbrev cX10_isWithin : ByteArray := prog_1_method_28_code
def yX10_isWithin : MethodName := ⟨RX10, "isWithin", "(III)Z"⟩
abbrev cX10_receive : ByteArray := prog_1_method_29_code
def yX10_receive : MethodName := ⟨RX10, "receive", "(II)I"⟩
abbrev cX10_endMonth : ByteArray := prog_1_method_30_code
def yX10_endMonth : MethodName := ⟨RX10, "endMonth", "()V"⟩
def RX11 : String := "TowerAppealModel$Stop"
def TX11 : u_T := fun k => match k with
  | 0 => ("java/lang/Throwable", "cause", "Ljava/lang/Throwable;", false)
  | 1 => ("java/lang/Throwable", "stackTrace", "[Ljava/lang/StackTraceElement;", false)
  | 2 => ("java/lang/Throwable", "suppressedExceptions", "Ljava/util/List;", false)
  | 3 => ("java/lang/Throwable", "detailMessage", "Ljava/lang/String;", false)
  | 4 => ("java/lang/Throwable", "backtrace", "Ljava/lang/Object;", false)
  | _ => ("java/lang/Throwable", "depth", "I", false)
def tyX11 : Nat → FieldType := fun k => match k with
  | 0 => .object "java/lang/Throwable"
  | 1 => .array (.object "java/lang/StackTraceElement")
  | 2 => .object "java/util/List"
  | 3 => .object "java/lang/String"
  | 4 => .object "java/lang/Object"
  | _ => .int
theorem nmX11 : ∀ a, a < 6 → ∀ b, b < 6 → a ≠ b → (TX11 a).2.1 ≠ (TX11 b).2.1 := by decide +kernel
theorem tyX11_ok : ∀ k, k < 6 → parseFieldDescriptor (TX11 k).2.2.1 = some (tyX11 k) := by decide +kernel
abbrev cX11_init : ByteArray := prog_14_method_1_code
def yX11_init : MethodName := ⟨RX11, "<init>", "()V"⟩
def RX12 : String := "TowerAppealModel"
def TX12 : u_T := fun k => match k with
  | 0 => ("TowerAppealModel", "rule", "[I", true)
  | 1 => ("TowerAppealModel", "read", "[I", true)
  | 2 => ("TowerAppealModel", "halt", "LTowerAppealModel$Stop;", true)
  | 3 => ("TowerAppealModel", "tape", "[B", true)
  | 4 => ("TowerAppealModel", "taped", "I", false)
  | 5 => ("TowerAppealModel", "size", "I", false)
  | 6 => ("TowerAppealModel", "from", "I", false)
  | 7 => ("TowerAppealModel", "behind", "I", false)
  | 8 => ("TowerAppealModel", "hand", "I", false)
  | 9 => ("TowerAppealModel", "value", "I", false)
  | 10 => ("TowerAppealModel", "fault", "I", false)
  | 11 => ("TowerAppealModel", "faultAt", "I", false)
  | 12 => ("TowerAppealModel", "told", "[Z", true)
  | 13 => ("TowerAppealModel", "clock", "I", false)
  | 14 => ("TowerAppealModel", "coin", "I", false)
  | 15 => ("TowerAppealModel", "loan", "I", false)
  | 16 => ("TowerAppealModel", "matched", "I", false)
  | 17 => ("TowerAppealModel", "taxed", "I", false)
  | 18 => ("TowerAppealModel", "paidStages", "I", false)
  | 19 => ("TowerAppealModel", "grown", "I", false)
  | 20 => ("TowerAppealModel", "pledges", "I", false)
  | 21 => ("TowerAppealModel", "sums", "I", false)
  | 22 => ("TowerAppealModel", "stages", "I", false)
  | 23 => ("TowerAppealModel", "isStopped", "Z", false)
  | 24 => ("TowerAppealModel", "declaredFrom", "[I", true)
  | 25 => ("TowerAppealModel", "declaredTo", "[I", true)
  | 26 => ("TowerAppealModel", "given", "[I", true)
  | 27 => ("TowerAppealModel", "back", "[I", true)
  | 28 => ("TowerAppealModel", "isNameless", "[Z", true)
  | 29 => ("TowerAppealModel", "giver", "[I", true)
  | 30 => ("TowerAppealModel", "pence", "[I", true)
  | 31 => ("TowerAppealModel", "first", "[I", true)
  | 32 => ("TowerAppealModel", "every", "[I", true)
  | 33 => ("TowerAppealModel", "dues", "[I", true)
  | 34 => ("TowerAppealModel", "lapsedAt", "[I", true)
  | 35 => ("TowerAppealModel", "isLapsed", "[Z", true)
  | 36 => ("TowerAppealModel", "wasTakenUp", "[Z", true)
  | 37 => ("TowerAppealModel", "due", "[I", true)
  | 38 => ("TowerAppealModel", "filled", "[I", true)
  | 39 => ("TowerAppealModel", "isThere", "[Z", true)
  | 40 => ("TowerAppealModel", "counts", "[Z", true)
  | 41 => ("TowerAppealModel", "sumGiver", "[I", true)
  | 42 => ("TowerAppealModel", "sumMonth", "[I", true)
  | 43 => ("TowerAppealModel", "sumPence", "[I", true)
  | 44 => ("TowerAppealModel", "isClaimed", "[Z", true)
  | 45 => ("TowerAppealModel", "cost", "[I", true)
  | 46 => ("TowerAppealModel", "length", "[I", true)
  | 47 => ("TowerAppealModel", "parts", "[I", true)
  | 48 => ("TowerAppealModel", "stagePaid", "[I", true)
  | 49 => ("TowerAppealModel", "paused", "[I", true)
  | 50 => ("TowerAppealModel", "begun", "I", false)
  | 51 => ("TowerAppealModel", "sum", "[I", true)
  | _ => ("TowerAppealModel", "stones", "[I", true)
def tyX12 : Nat → FieldType := fun k => match k with
  | 0 => .array .int
  | 1 => .array .int
  | 2 => .object "TowerAppealModel$Stop"
  | 3 => .array .byte
  | 4 => .int
  | 5 => .int
  | 6 => .int
  | 7 => .int
  | 8 => .int
  | 9 => .int
  | 10 => .int
  | 11 => .int
  | 12 => .array .boolean
  | 13 => .int
  | 14 => .int
  | 15 => .int
  | 16 => .int
  | 17 => .int
  | 18 => .int
  | 19 => .int
  | 20 => .int
  | 21 => .int
  | 22 => .int
  | 23 => .boolean
  | 24 => .array .int
  | 25 => .array .int
  | 26 => .array .int
  | 27 => .array .int
  | 28 => .array .boolean
  | 29 => .array .int
  | 30 => .array .int
  | 31 => .array .int
  | 32 => .array .int
  | 33 => .array .int
  | 34 => .array .int
  | 35 => .array .boolean
  | 36 => .array .boolean
  | 37 => .array .int
  | 38 => .array .int
  | 39 => .array .boolean
  | 40 => .array .boolean
  | 41 => .array .int
  | 42 => .array .int
  | 43 => .array .int
  | 44 => .array .boolean
  | 45 => .array .int
  | 46 => .array .int
  | 47 => .array .int
  | 48 => .array .int
  | 49 => .array .int
  | 50 => .int
  | 51 => .array .int
  | _ => .array .int
theorem nmX12 : ∀ a, a < 53 → ∀ b, b < 53 → a ≠ b → (TX12 a).2.1 ≠ (TX12 b).2.1 := by decide +kernel
theorem tyX12_ok : ∀ k, k < 53 → parseFieldDescriptor (TX12 k).2.2.1 = some (tyX12 k) := by decide +kernel
abbrev cX12_in : ByteArray := prog_13_method_1_code
def yX12_in : MethodName := ⟨RX12, "in", "(JJJ)Z"⟩
abbrev cX12_wrong : ByteArray := prog_13_method_2_code
def yX12_wrong : MethodName := ⟨RX12, "wrong", "(I)LTowerAppealModel$Stop;"⟩
abbrev cX12_byteAt : ByteArray := prog_13_method_3_code
def yX12_byteAt : MethodName := ⟨RX12, "byteAt", "(I)I"⟩
abbrev cX12_isLetter : ByteArray := prog_13_method_4_code
def yX12_isLetter : MethodName := ⟨RX12, "isLetter", "(I)Z"⟩
abbrev cX12_isDigit : ByteArray := prog_13_method_5_code
def yX12_isDigit : MethodName := ⟨RX12, "isDigit", "(I)Z"⟩
abbrev cX12_scan : ByteArray := prog_13_method_6_code
def yX12_scan : MethodName := ⟨RX12, "scan", "()V"⟩
abbrev cX12_is : ByteArray := prog_13_method_7_code
def yX12_is : MethodName := ⟨RX12, "is", "(Ljava/lang/String;)Z"⟩
abbrev cX12_number : ByteArray := prog_13_method_8_code
def yX12_number : MethodName := ⟨RX12, "number", "(II)I"⟩
abbrev cX12_key : ByteArray := prog_13_method_9_code
def yX12_key : MethodName := ⟨RX12, "key", "()I"⟩
abbrev cX12_readTrust : ByteArray := prog_13_method_10_code
def yX12_readTrust : MethodName := ⟨RX12, "readTrust", "()I"⟩
abbrev cX12_readLine : ByteArray := prog_13_method_11_code
def yX12_readLine : MethodName := ⟨RX12, "readLine", "(I)V"⟩
abbrev cX12_init : ByteArray := prog_13_method_12_code
def yX12_init : MethodName := ⟨RX12, "<init>", "()V"⟩
abbrev cX12_feed : ByteArray := prog_13_method_13_code
def yX12_feed : MethodName := ⟨RX12, "feed", "(IIIII)I"⟩
abbrev cX12_lay : ByteArray := prog_13_method_14_code
def yX12_lay : MethodName := ⟨RX12, "lay", "(I)V"⟩
abbrev cX12_end : ByteArray := prog_13_method_15_code
def yX12_end : MethodName := ⟨RX12, "end", "(I)I"⟩
abbrev cX12_trust : ByteArray := prog_13_method_16_code
def yX12_trust : MethodName := ⟨RX12, "trust", "()I"⟩
abbrev cX12_fault : ByteArray := prog_13_method_17_code
def yX12_fault : MethodName := ⟨RX12, "fault", "(I)I"⟩
abbrev cX12_rule : ByteArray := prog_13_method_18_code
def yX12_rule : MethodName := ⟨RX12, "rule", "(I)I"⟩
abbrev cX12_isGiver : ByteArray := prog_13_method_19_code
def yX12_isGiver : MethodName := ⟨RX12, "isGiver", "(I)Z"⟩
abbrev cX12_isMonth : ByteArray := prog_13_method_20_code
def yX12_isMonth : MethodName := ⟨RX12, "isMonth", "(I)Z"⟩
abbrev cX12_declare : ByteArray := prog_13_method_21_code
def yX12_declare : MethodName := ⟨RX12, "declare", "(III)I"⟩
abbrev cX12_nameless : ByteArray := prog_13_method_22_code
def yX12_nameless : MethodName := ⟨RX12, "nameless", "(IZ)I"⟩
abbrev cX12_monthOf : ByteArray := prog_13_method_23_code
def yX12_monthOf : MethodName := ⟨RX12, "monthOf", "(II)I"⟩
abbrev cX12_pledge : ByteArray := prog_13_method_24_code
def yX12_pledge : MethodName := ⟨RX12, "pledge", "(IIIII)I"⟩
abbrev cX12_isPledge : ByteArray := prog_13_method_25_code
def yX12_isPledge : MethodName := ⟨RX12, "isPledge", "(I)Z"⟩
abbrev cX12_change : ByteArray := prog_13_method_26_code
def yX12_change : MethodName := ⟨RX12, "change", "(II)I"⟩
abbrev cX12_unfilled : ByteArray := prog_13_method_27_code
def yX12_unfilled : MethodName := ⟨RX12, "unfilled", "(I)I"⟩
abbrev cX12_come : ByteArray := prog_13_method_28_code
def yX12_come : MethodName := ⟨RX12, "come", "(II)I"⟩
abbrev cX12_pay : ByteArray := prog_13_method_29_code
def yX12_pay : MethodName := ⟨RX12, "pay", "(II)I"⟩
abbrev cX12_gift : ByteArray := prog_13_method_30_code
def yX12_gift : MethodName := ⟨RX12, "gift", "(II)I"⟩
abbrev cX12_toCome : ByteArray := prog_13_method_31_code
def yX12_toCome : MethodName := ⟨RX12, "toCome", "(I)I"⟩
abbrev cX12_takeUp : ByteArray := prog_13_method_32_code
def yX12_takeUp : MethodName := ⟨RX12, "takeUp", "(I)I"⟩
abbrev cX12_claim : ByteArray := prog_13_method_33_code
def yX12_claim : MethodName := ⟨RX12, "claim", "()I"⟩
abbrev cX12_overdue : ByteArray := prog_13_method_34_code
def yX12_overdue : MethodName := ⟨RX12, "overdue", "(I)I"⟩
abbrev cX12_about : ByteArray := prog_13_method_35_code
def yX12_about : MethodName := ⟨RX12, "about", "(II)I"⟩
abbrev cX12_giver : ByteArray := prog_13_method_36_code
def yX12_giver : MethodName := ⟨RX12, "giver", "(II)I"⟩
abbrev cX12_stage : ByteArray := prog_13_method_37_code
def yX12_stage : MethodName := ⟨RX12, "stage", "(II)I"⟩
abbrev cX12_runs : ByteArray := prog_13_method_38_code
def yX12_runs : MethodName := ⟨RX12, "runs", "()Z"⟩
abbrev cX12_begin : ByteArray := prog_13_method_39_code
def yX12_begin : MethodName := ⟨RX12, "begin", "()I"⟩
abbrev cX12_built : ByteArray := prog_13_method_40_code
def yX12_built : MethodName := ⟨RX12, "built", "(II)I"⟩
abbrev cX12_lapse : ByteArray := prog_13_method_41_code
def yX12_lapse : MethodName := ⟨RX12, "lapse", "(I)V"⟩
abbrev cX12_build : ByteArray := prog_13_method_42_code
def yX12_build : MethodName := ⟨RX12, "build", "()V"⟩
abbrev cX12_endMonth : ByteArray := prog_13_method_43_code
def yX12_endMonth : MethodName := ⟨RX12, "endMonth", "()V"⟩
abbrev cX12_months : ByteArray := prog_13_method_44_code
def yX12_months : MethodName := ⟨RX12, "months", "(I)I"⟩
abbrev cX12_sure : ByteArray := prog_13_method_45_code
def yX12_sure : MethodName := ⟨RX12, "sure", "(I)I"⟩
abbrev cX12_carve : ByteArray := prog_13_method_46_code
def yX12_carve : MethodName := ⟨RX12, "carve", "()I"⟩
abbrev cX12_stone : ByteArray := prog_13_method_47_code
def yX12_stone : MethodName := ⟨RX12, "stone", "(I)I"⟩
abbrev cX12_allGiven : ByteArray := prog_13_method_48_code
def yX12_allGiven : MethodName := ⟨RX12, "allGiven", "()I"⟩
abbrev cX12_stop : ByteArray := prog_13_method_49_code
def yX12_stop : MethodName := ⟨RX12, "stop", "()I"⟩
abbrev cX12_back : ByteArray := prog_13_method_50_code
def yX12_back : MethodName := ⟨RX12, "back", "(I)I"⟩
abbrev cX12_count : ByteArray := prog_13_method_51_code
def yX12_count : MethodName := ⟨RX12, "count", "(I)I"⟩
def RJ9 : String := "java/lang/Math"
def TJ9 : u_T := fun k => match k with
  | _ => ("", "", "", false)
def tyJ9 : Nat → FieldType := fun k => match k with
  | _ => .int
abbrev cJ9_max_7cf53 : ByteArray := prog_16_method_65_code
def yJ9_max_7cf53 : MethodName := ⟨RJ9, "max", "(II)I"⟩
abbrev cJ9_max_f86c9 : ByteArray := prog_16_method_66_code
def yJ9_max_f86c9 : MethodName := ⟨RJ9, "max", "(JJ)J"⟩
abbrev cJ9_min_7cf53 : ByteArray := prog_16_method_69_code
def yJ9_min_7cf53 : MethodName := ⟨RJ9, "min", "(II)I"⟩
abbrev cJ9_min_f86c9 : ByteArray := prog_16_method_70_code
def yJ9_min_f86c9 : MethodName := ⟨RJ9, "min", "(JJ)J"⟩
def RJ0 : String := "java/lang/String"
def TJ0 : u_T := fun k => match k with
  | _ => ("", "", "", false)
def tyJ0 : Nat → FieldType := fun k => match k with
  | _ => .int
abbrev cJ0_length_8abf5 : ByteArray := prog_17_method_54_code
def yJ0_length_8abf5 : MethodName := ⟨RJ0, "length", "()I"⟩
abbrev cJ0_charAt_5068e : ByteArray := prog_17_method_56_code
def yJ0_charAt_5068e : MethodName := ⟨RJ0, "charAt", "(I)C"⟩
abbrev cJ0_coder_7d493 : ByteArray := prog_17_method_152_code
def yJ0_coder_7d493 : MethodName := ⟨RJ0, "coder", "()B"⟩
abbrev cJ0_isLatin1_aae02 : ByteArray := prog_17_method_154_code
def yJ0_isLatin1_aae02 : MethodName := ⟨RJ0, "isLatin1", "()Z"⟩
abbrev cJ0_checkIndex_df160 : ByteArray := prog_17_method_155_code
def yJ0_checkIndex_df160 : MethodName := ⟨RJ0, "checkIndex", "(II)V"⟩
def RJ1 : String := "java/lang/StringLatin1"
def TJ1 : u_T := fun k => match k with
  | _ => ("", "", "", false)
def tyJ1 : Nat → FieldType := fun k => match k with
  | _ => .int
abbrev cJ1_charAt_3b067 : ByteArray := prog_18_method_2_code
def yJ1_charAt_3b067 : MethodName := ⟨RJ1, "charAt", "([BI)C"⟩
def RJ2 : String := "java/lang/StringUTF16"
def TJ2 : u_T := fun k => match k with
  | _ => ("", "", "", false)
def tyJ2 : Nat → FieldType := fun k => match k with
  | _ => .int
abbrev cJ2_getChar_3b067 : ByteArray := prog_19_method_5_code
def yJ2_getChar_3b067 : MethodName := ⟨RJ2, "getChar", "([BI)C"⟩
abbrev cJ2_length_9d52b : ByteArray := prog_19_method_6_code
def yJ2_length_9d52b : MethodName := ⟨RJ2, "length", "([B)I"⟩
abbrev cJ2_charAt_3b067 : ByteArray := prog_19_method_83_code
def yJ2_charAt_3b067 : MethodName := ⟨RJ2, "charAt", "([BI)C"⟩
abbrev cJ2_checkIndex_2214a : ByteArray := prog_19_method_91_code
def yJ2_checkIndex_2214a : MethodName := ⟨RJ2, "checkIndex", "(I[B)V"⟩
def RJ10 : String := "java/lang/System"
def TJ10 : u_T := fun k => match k with
  | _ => ("", "", "", false)
def tyJ10 : Nat → FieldType := fun k => match k with
  | _ => .int
def RJ3 : String := "jdk/internal/util/Preconditions"
def TJ3 : u_T := fun k => match k with
  | _ => ("", "", "", false)
def tyJ3 : Nat → FieldType := fun k => match k with
  | _ => .int
abbrev cJ3_checkIndex_8e157 : ByteArray := prog_22_method_11_code
def yJ3_checkIndex_8e157 : MethodName := ⟨RJ3, "checkIndex", "(IILjava/util/function/BiFunction;)I"⟩
def RL : String := "TowerAppealLaw"
abbrev cL_law : ByteArray := code
def yL_law : MethodName := ⟨RL, "law", "([I)Z"⟩
abbrev vwCl : List vw_C := [(RX0, TX0, 6), (RX1, TX1, 12), (RX2, TX2, 2), (RX3, TX3, 6), (RX4, TX4, 6), (RX5, TX5, 6), (RX6, TX6, 2), (RX7, TX7, 3), (RX8, TX8, 1), (RX9, TX9, 8), (RX10, TX10, 10), (RX11, TX11, 6), (RX12, TX12, 53)]
def RE : String := "java/lang/Exception"
def RH : String := "java/lang/Throwable"
abbrev cE_init : ByteArray := prog_15_method_5_code
def yE_init : MethodName := ⟨RE, "<init>", "(Ljava/lang/String;Ljava/lang/Throwable;ZZ)V"⟩
abbrev cH_init : ByteArray := prog_21_method_5_code
def yH_init : MethodName := ⟨RH, "<init>", "(Ljava/lang/String;Ljava/lang/Throwable;ZZ)V"⟩
end
section
theorem dX0_init_0 : decode cX0_init 0 = .ok (.aload_n 0, 1) := by decide +kernel
theorem dX0_init_1 : decode cX0_init 1 = .ok (.invokespecial 3, 3) := by decide +kernel
theorem dX0_init_4 : decode cX0_init 4 = .ok (.aload_n 0, 1) := by decide +kernel
theorem dX0_init_5 : decode cX0_init 5 = .ok (.bipush 30, 2) := by decide +kernel
theorem dX0_init_7 : decode cX0_init 7 = .ok (.newarray .int, 2) := by decide +kernel
theorem dX0_init_9 : decode cX0_init 9 = .ok (.putfield 9, 3) := by decide +kernel
theorem dX0_init_12 : decode cX0_init 12 = .ok (.aload_n 0, 1) := by decide +kernel
theorem dX0_init_13 : decode cX0_init 13 = .ok (.bipush 30, 2) := by decide +kernel
theorem dX0_init_15 : decode cX0_init 15 = .ok (.newarray .int, 2) := by decide +kernel
theorem dX0_init_17 : decode cX0_init 17 = .ok (.putfield 15, 3) := by decide +kernel
theorem dX0_init_20 : decode cX0_init 20 = .ok (.aload_n 0, 1) := by decide +kernel
theorem dX0_init_21 : decode cX0_init 21 = .ok (.bipush 30, 2) := by decide +kernel
theorem dX0_init_23 : decode cX0_init 23 = .ok (.newarray .boolean, 2) := by decide +kernel
theorem dX0_init_25 : decode cX0_init 25 = .ok (.putfield 18, 3) := by decide +kernel
theorem dX0_init_28 : decode cX0_init 28 = .ok (.aload_n 0, 1) := by decide +kernel
theorem dX0_init_29 : decode cX0_init 29 = .ok (.bipush 30, 2) := by decide +kernel
theorem dX0_init_31 : decode cX0_init 31 = .ok (.newarray .int, 2) := by decide +kernel
theorem dX0_init_33 : decode cX0_init 33 = .ok (.putfield 22, 3) := by decide +kernel
theorem dX0_init_36 : decode cX0_init 36 = .ok (.aload_n 0, 1) := by decide +kernel
theorem dX0_init_37 : decode cX0_init 37 = .ok (.bipush 30, 2) := by decide +kernel
theorem dX0_init_39 : decode cX0_init 39 = .ok (.newarray .int, 2) := by decide +kernel
theorem dX0_init_41 : decode cX0_init 41 = .ok (.putfield 25, 3) := by decide +kernel
theorem dX0_init_44 : decode cX0_init 44 = .ok (.aload_n 0, 1) := by decide +kernel
theorem dX0_init_45 : decode cX0_init 45 = .ok (.bipush 30, 2) := by decide +kernel
theorem dX0_init_47 : decode cX0_init 47 = .ok (.newarray .int, 2) := by decide +kernel
theorem dX0_init_49 : decode cX0_init 49 = .ok (.putfield 28, 3) := by decide +kernel
theorem dX0_init_52 : decode cX0_init 52 = .ok (.iconst 0, 1) := by decide +kernel
theorem dX0_init_53 : decode cX0_init 53 = .ok (.istore_n 1, 1) := by decide +kernel
theorem dX0_init_54 : decode cX0_init 54 = .ok (.iload_n 1, 1) := by decide +kernel
theorem dX0_init_55 : decode cX0_init 55 = .ok (.bipush 30, 2) := by decide +kernel
theorem dX0_init_57 : decode cX0_init 57 = .ok (.if_icmp .ge 23, 3) := by decide +kernel
theorem dX0_init_60 : decode cX0_init 60 = .ok (.aload_n 0, 1) := by decide +kernel
theorem dX0_init_61 : decode cX0_init 61 = .ok (.getfield 9, 3) := by decide +kernel
theorem dX0_init_64 : decode cX0_init 64 = .ok (.iload_n 1, 1) := by decide +kernel
theorem dX0_init_65 : decode cX0_init 65 = .ok (.iconst (-1), 1) := by decide +kernel
theorem dX0_init_66 : decode cX0_init 66 = .ok (.iastore, 1) := by decide +kernel
theorem dX0_init_67 : decode cX0_init 67 = .ok (.aload_n 0, 1) := by decide +kernel
theorem dX0_init_68 : decode cX0_init 68 = .ok (.getfield 15, 3) := by decide +kernel
theorem dX0_init_71 : decode cX0_init 71 = .ok (.iload_n 1, 1) := by decide +kernel
theorem dX0_init_72 : decode cX0_init 72 = .ok (.iconst (-1), 1) := by decide +kernel
theorem dX0_init_73 : decode cX0_init 73 = .ok (.iastore, 1) := by decide +kernel
theorem dX0_init_74 : decode cX0_init 74 = .ok (.iinc 1 1, 3) := by decide +kernel
theorem dX0_init_77 : decode cX0_init 77 = .ok (.goto (-23), 3) := by decide +kernel
theorem dX0_init_80 : decode cX0_init 80 = .ok (.return_, 1) := by decide +kernel
theorem dX0_setDeclaration_0 : decode cX0_setDeclaration 0 = .ok (.iload_n 1, 1) := by decide +kernel
theorem dX0_setDeclaration_1 : decode cX0_setDeclaration 1 = .ok (.invokestatic 31, 3) := by decide +kernel
theorem dX0_setDeclaration_4 : decode cX0_setDeclaration 4 = .ok (.ifCond .eq 17, 3) := by decide +kernel
theorem dX0_setDeclaration_7 : decode cX0_setDeclaration 7 = .ok (.aload_n 0, 1) := by decide +kernel
theorem dX0_setDeclaration_8 : decode cX0_setDeclaration 8 = .ok (.getfield 9, 3) := by decide +kernel
theorem dX0_setDeclaration_11 : decode cX0_setDeclaration 11 = .ok (.iload_n 1, 1) := by decide +kernel
theorem dX0_setDeclaration_12 : decode cX0_setDeclaration 12 = .ok (.iload_n 2, 1) := by decide +kernel
theorem dX0_setDeclaration_13 : decode cX0_setDeclaration 13 = .ok (.iastore, 1) := by decide +kernel
theorem dX0_setDeclaration_14 : decode cX0_setDeclaration 14 = .ok (.aload_n 0, 1) := by decide +kernel
theorem dX0_setDeclaration_15 : decode cX0_setDeclaration 15 = .ok (.getfield 15, 3) := by decide +kernel
theorem dX0_setDeclaration_18 : decode cX0_setDeclaration 18 = .ok (.iload_n 1, 1) := by decide +kernel
theorem dX0_setDeclaration_19 : decode cX0_setDeclaration 19 = .ok (.iload_n 3, 1) := by decide +kernel
theorem dX0_setDeclaration_20 : decode cX0_setDeclaration 20 = .ok (.iastore, 1) := by decide +kernel
theorem dX0_setDeclaration_21 : decode cX0_setDeclaration 21 = .ok (.return_, 1) := by decide +kernel
theorem dX0_declaredFrom_0 : decode cX0_declaredFrom 0 = .ok (.iload_n 1, 1) := by decide +kernel
theorem dX0_declaredFrom_1 : decode cX0_declaredFrom 1 = .ok (.invokestatic 31, 3) := by decide +kernel
theorem dX0_declaredFrom_4 : decode cX0_declaredFrom 4 = .ok (.ifCond .eq 12, 3) := by decide +kernel
theorem dX0_declaredFrom_7 : decode cX0_declaredFrom 7 = .ok (.aload_n 0, 1) := by decide +kernel
theorem dX0_declaredFrom_8 : decode cX0_declaredFrom 8 = .ok (.getfield 9, 3) := by decide +kernel
theorem dX0_declaredFrom_11 : decode cX0_declaredFrom 11 = .ok (.iload_n 1, 1) := by decide +kernel
theorem dX0_declaredFrom_12 : decode cX0_declaredFrom 12 = .ok (.iaload, 1) := by decide +kernel
theorem dX0_declaredFrom_13 : decode cX0_declaredFrom 13 = .ok (.goto 4, 3) := by decide +kernel
theorem dX0_declaredFrom_16 : decode cX0_declaredFrom 16 = .ok (.iconst (-1), 1) := by decide +kernel
theorem dX0_declaredFrom_17 : decode cX0_declaredFrom 17 = .ok (.ireturn, 1) := by decide +kernel
theorem dX0_declaredTo_0 : decode cX0_declaredTo 0 = .ok (.iload_n 1, 1) := by decide +kernel
theorem dX0_declaredTo_1 : decode cX0_declaredTo 1 = .ok (.invokestatic 31, 3) := by decide +kernel
theorem dX0_declaredTo_4 : decode cX0_declaredTo 4 = .ok (.ifCond .eq 12, 3) := by decide +kernel
theorem dX0_declaredTo_7 : decode cX0_declaredTo 7 = .ok (.aload_n 0, 1) := by decide +kernel
theorem dX0_declaredTo_8 : decode cX0_declaredTo 8 = .ok (.getfield 15, 3) := by decide +kernel
theorem dX0_declaredTo_11 : decode cX0_declaredTo 11 = .ok (.iload_n 1, 1) := by decide +kernel
theorem dX0_declaredTo_12 : decode cX0_declaredTo 12 = .ok (.iaload, 1) := by decide +kernel
theorem dX0_declaredTo_13 : decode cX0_declaredTo 13 = .ok (.goto 4, 3) := by decide +kernel
theorem dX0_declaredTo_16 : decode cX0_declaredTo 16 = .ok (.iconst (-1), 1) := by decide +kernel
theorem dX0_declaredTo_17 : decode cX0_declaredTo 17 = .ok (.ireturn, 1) := by decide +kernel
theorem dX0_hasDeclared_0 : decode cX0_hasDeclared 0 = .ok (.iload_n 1, 1) := by decide +kernel
theorem dX0_hasDeclared_1 : decode cX0_hasDeclared 1 = .ok (.invokestatic 31, 3) := by decide +kernel
theorem dX0_hasDeclared_4 : decode cX0_hasDeclared 4 = .ok (.ifCond .eq 37, 3) := by decide +kernel
theorem dX0_hasDeclared_7 : decode cX0_hasDeclared 7 = .ok (.aload_n 0, 1) := by decide +kernel
theorem dX0_hasDeclared_8 : decode cX0_hasDeclared 8 = .ok (.getfield 9, 3) := by decide +kernel
theorem dX0_hasDeclared_11 : decode cX0_hasDeclared 11 = .ok (.iload_n 1, 1) := by decide +kernel
theorem dX0_hasDeclared_12 : decode cX0_hasDeclared 12 = .ok (.iaload, 1) := by decide +kernel
theorem dX0_hasDeclared_13 : decode cX0_hasDeclared 13 = .ok (.iconst (-1), 1) := by decide +kernel
theorem dX0_hasDeclared_14 : decode cX0_hasDeclared 14 = .ok (.if_icmp .eq 27, 3) := by decide +kernel
theorem dX0_hasDeclared_17 : decode cX0_hasDeclared 17 = .ok (.iload_n 2, 1) := by decide +kernel
theorem dX0_hasDeclared_18 : decode cX0_hasDeclared 18 = .ok (.aload_n 0, 1) := by decide +kernel
theorem dX0_hasDeclared_19 : decode cX0_hasDeclared 19 = .ok (.getfield 9, 3) := by decide +kernel
theorem dX0_hasDeclared_22 : decode cX0_hasDeclared 22 = .ok (.iload_n 1, 1) := by decide +kernel
theorem dX0_hasDeclared_23 : decode cX0_hasDeclared 23 = .ok (.iaload, 1) := by decide +kernel
theorem dX0_hasDeclared_24 : decode cX0_hasDeclared 24 = .ok (.if_icmp .lt 17, 3) := by decide +kernel
theorem dX0_hasDeclared_27 : decode cX0_hasDeclared 27 = .ok (.iload_n 2, 1) := by decide +kernel
theorem dX0_hasDeclared_28 : decode cX0_hasDeclared 28 = .ok (.aload_n 0, 1) := by decide +kernel
theorem dX0_hasDeclared_29 : decode cX0_hasDeclared 29 = .ok (.getfield 15, 3) := by decide +kernel
theorem dX0_hasDeclared_32 : decode cX0_hasDeclared 32 = .ok (.iload_n 1, 1) := by decide +kernel
theorem dX0_hasDeclared_33 : decode cX0_hasDeclared 33 = .ok (.iaload, 1) := by decide +kernel
theorem dX0_hasDeclared_34 : decode cX0_hasDeclared 34 = .ok (.if_icmp .gt 7, 3) := by decide +kernel
theorem dX0_hasDeclared_37 : decode cX0_hasDeclared 37 = .ok (.iconst 1, 1) := by decide +kernel
theorem dX0_hasDeclared_38 : decode cX0_hasDeclared 38 = .ok (.goto 4, 3) := by decide +kernel
theorem dX0_hasDeclared_41 : decode cX0_hasDeclared 41 = .ok (.iconst 0, 1) := by decide +kernel
theorem dX0_hasDeclared_42 : decode cX0_hasDeclared 42 = .ok (.ireturn, 1) := by decide +kernel
theorem dX0_setWithoutName_0 : decode cX0_setWithoutName 0 = .ok (.iload_n 1, 1) := by decide +kernel
theorem dX0_setWithoutName_1 : decode cX0_setWithoutName 1 = .ok (.invokestatic 31, 3) := by decide +kernel
theorem dX0_setWithoutName_4 : decode cX0_setWithoutName 4 = .ok (.ifCond .eq 13, 3) := by decide +kernel
theorem dX0_setWithoutName_7 : decode cX0_setWithoutName 7 = .ok (.aload_n 0, 1) := by decide +kernel
theorem dX0_setWithoutName_8 : decode cX0_setWithoutName 8 = .ok (.getfield 18, 3) := by decide +kernel
theorem dX0_setWithoutName_11 : decode cX0_setWithoutName 11 = .ok (.iload_n 1, 1) := by decide +kernel
theorem dX0_setWithoutName_12 : decode cX0_setWithoutName 12 = .ok (.baload, 1) := by decide +kernel
theorem dX0_setWithoutName_13 : decode cX0_setWithoutName 13 = .ok (.iload_n 2, 1) := by decide +kernel
theorem dX0_setWithoutName_14 : decode cX0_setWithoutName 14 = .ok (.if_icmp .ne 5, 3) := by decide +kernel
theorem dX0_setWithoutName_17 : decode cX0_setWithoutName 17 = .ok (.iconst 0, 1) := by decide +kernel
theorem dX0_setWithoutName_18 : decode cX0_setWithoutName 18 = .ok (.ireturn, 1) := by decide +kernel
theorem dX0_setWithoutName_19 : decode cX0_setWithoutName 19 = .ok (.aload_n 0, 1) := by decide +kernel
theorem dX0_setWithoutName_20 : decode cX0_setWithoutName 20 = .ok (.getfield 18, 3) := by decide +kernel
theorem dX0_setWithoutName_23 : decode cX0_setWithoutName 23 = .ok (.iload_n 1, 1) := by decide +kernel
theorem dX0_setWithoutName_24 : decode cX0_setWithoutName 24 = .ok (.iload_n 2, 1) := by decide +kernel
theorem dX0_setWithoutName_25 : decode cX0_setWithoutName 25 = .ok (.bastore, 1) := by decide +kernel
theorem dX0_setWithoutName_26 : decode cX0_setWithoutName 26 = .ok (.iconst 1, 1) := by decide +kernel
theorem dX0_setWithoutName_27 : decode cX0_setWithoutName 27 = .ok (.ireturn, 1) := by decide +kernel
theorem dX0_isWithoutName_0 : decode cX0_isWithoutName 0 = .ok (.iload_n 1, 1) := by decide +kernel
theorem dX0_isWithoutName_1 : decode cX0_isWithoutName 1 = .ok (.invokestatic 31, 3) := by decide +kernel
theorem dX0_isWithoutName_4 : decode cX0_isWithoutName 4 = .ok (.ifCond .eq 16, 3) := by decide +kernel
theorem dX0_isWithoutName_7 : decode cX0_isWithoutName 7 = .ok (.aload_n 0, 1) := by decide +kernel
theorem dX0_isWithoutName_8 : decode cX0_isWithoutName 8 = .ok (.getfield 18, 3) := by decide +kernel
theorem dX0_isWithoutName_11 : decode cX0_isWithoutName 11 = .ok (.iload_n 1, 1) := by decide +kernel
theorem dX0_isWithoutName_12 : decode cX0_isWithoutName 12 = .ok (.baload, 1) := by decide +kernel
theorem dX0_isWithoutName_13 : decode cX0_isWithoutName 13 = .ok (.ifCond .eq 7, 3) := by decide +kernel
theorem dX0_isWithoutName_16 : decode cX0_isWithoutName 16 = .ok (.iconst 1, 1) := by decide +kernel
theorem dX0_isWithoutName_17 : decode cX0_isWithoutName 17 = .ok (.goto 4, 3) := by decide +kernel
theorem dX0_isWithoutName_20 : decode cX0_isWithoutName 20 = .ok (.iconst 0, 1) := by decide +kernel
theorem dX0_isWithoutName_21 : decode cX0_isWithoutName 21 = .ok (.ireturn, 1) := by decide +kernel
theorem dX0_gotBack_0 : decode cX0_gotBack 0 = .ok (.iload_n 1, 1) := by decide +kernel
theorem dX0_gotBack_1 : decode cX0_gotBack 1 = .ok (.invokestatic 31, 3) := by decide +kernel
theorem dX0_gotBack_4 : decode cX0_gotBack 4 = .ok (.ifCond .eq 12, 3) := by decide +kernel
theorem dX0_gotBack_7 : decode cX0_gotBack 7 = .ok (.aload_n 0, 1) := by decide +kernel
theorem dX0_gotBack_8 : decode cX0_gotBack 8 = .ok (.getfield 22, 3) := by decide +kernel
theorem dX0_gotBack_11 : decode cX0_gotBack 11 = .ok (.iload_n 1, 1) := by decide +kernel
theorem dX0_gotBack_12 : decode cX0_gotBack 12 = .ok (.iaload, 1) := by decide +kernel
theorem dX0_gotBack_13 : decode cX0_gotBack 13 = .ok (.goto 4, 3) := by decide +kernel
theorem dX0_gotBack_16 : decode cX0_gotBack 16 = .ok (.iconst 0, 1) := by decide +kernel
theorem dX0_gotBack_17 : decode cX0_gotBack 17 = .ok (.ireturn, 1) := by decide +kernel
theorem dX0_ofStone_0 : decode cX0_ofStone 0 = .ok (.iload_n 1, 1) := by decide +kernel
theorem dX0_ofStone_1 : decode cX0_ofStone 1 = .ok (.ifCond .lt 18, 3) := by decide +kernel
theorem dX0_ofStone_4 : decode cX0_ofStone 4 = .ok (.iload_n 1, 1) := by decide +kernel
theorem dX0_ofStone_5 : decode cX0_ofStone 5 = .ok (.bipush 30, 2) := by decide +kernel
theorem dX0_ofStone_7 : decode cX0_ofStone 7 = .ok (.if_icmp .ge 12, 3) := by decide +kernel
theorem dX0_ofStone_10 : decode cX0_ofStone 10 = .ok (.aload_n 0, 1) := by decide +kernel
theorem dX0_ofStone_11 : decode cX0_ofStone 11 = .ok (.getfield 28, 3) := by decide +kernel
theorem dX0_ofStone_14 : decode cX0_ofStone 14 = .ok (.iload_n 1, 1) := by decide +kernel
theorem dX0_ofStone_15 : decode cX0_ofStone 15 = .ok (.iaload, 1) := by decide +kernel
theorem dX0_ofStone_16 : decode cX0_ofStone 16 = .ok (.goto 4, 3) := by decide +kernel
theorem dX0_ofStone_19 : decode cX0_ofStone 19 = .ok (.iconst (-1), 1) := by decide +kernel
theorem dX0_ofStone_20 : decode cX0_ofStone 20 = .ok (.ireturn, 1) := by decide +kernel
theorem dX0_orderStones_0 : decode cX0_orderStones 0 = .ok (.iconst 0, 1) := by decide +kernel
theorem dX0_orderStones_1 : decode cX0_orderStones 1 = .ok (.istore_n 3, 1) := by decide +kernel
theorem dX0_orderStones_2 : decode cX0_orderStones 2 = .ok (.iload_n 3, 1) := by decide +kernel
theorem dX0_orderStones_3 : decode cX0_orderStones 3 = .ok (.bipush 30, 2) := by decide +kernel
theorem dX0_orderStones_5 : decode cX0_orderStones 5 = .ok (.if_icmp .ge 16, 3) := by decide +kernel
theorem dX0_orderStones_8 : decode cX0_orderStones 8 = .ok (.aload_n 0, 1) := by decide +kernel
theorem dX0_orderStones_9 : decode cX0_orderStones 9 = .ok (.getfield 25, 3) := by decide +kernel
theorem dX0_orderStones_12 : decode cX0_orderStones 12 = .ok (.iload_n 3, 1) := by decide +kernel
theorem dX0_orderStones_13 : decode cX0_orderStones 13 = .ok (.iconst 0, 1) := by decide +kernel
theorem dX0_orderStones_14 : decode cX0_orderStones 14 = .ok (.iastore, 1) := by decide +kernel
theorem dX0_orderStones_15 : decode cX0_orderStones 15 = .ok (.iinc 3 1, 3) := by decide +kernel
theorem dX0_orderStones_18 : decode cX0_orderStones 18 = .ok (.goto (-16), 3) := by decide +kernel
theorem dX0_orderStones_21 : decode cX0_orderStones 21 = .ok (.iconst 0, 1) := by decide +kernel
theorem dX0_orderStones_22 : decode cX0_orderStones 22 = .ok (.istore_n 3, 1) := by decide +kernel
theorem dX0_orderStones_23 : decode cX0_orderStones 23 = .ok (.iconst 0, 1) := by decide +kernel
theorem dX0_orderStones_24 : decode cX0_orderStones 24 = .ok (.istore 4, 2) := by decide +kernel
theorem dX0_orderStones_26 : decode cX0_orderStones 26 = .ok (.iload 4, 2) := by decide +kernel
theorem dX0_orderStones_28 : decode cX0_orderStones 28 = .ok (.aload_n 1, 1) := by decide +kernel
theorem dX0_orderStones_29 : decode cX0_orderStones 29 = .ok (.invokevirtual 35, 3) := by decide +kernel
theorem dX0_orderStones_32 : decode cX0_orderStones 32 = .ok (.if_icmp .ge 114, 3) := by decide +kernel
theorem dX0_orderStones_35 : decode cX0_orderStones 35 = .ok (.aload_n 1, 1) := by decide +kernel
theorem dX0_orderStones_36 : decode cX0_orderStones 36 = .ok (.iload 4, 2) := by decide +kernel
theorem dX0_orderStones_38 : decode cX0_orderStones 38 = .ok (.invokevirtual 41, 3) := by decide +kernel
theorem dX0_orderStones_41 : decode cX0_orderStones 41 = .ok (.istore 5, 2) := by decide +kernel
theorem dX0_orderStones_43 : decode cX0_orderStones 43 = .ok (.iload 5, 2) := by decide +kernel
theorem dX0_orderStones_45 : decode cX0_orderStones 45 = .ok (.invokestatic 31, 3) := by decide +kernel
theorem dX0_orderStones_48 : decode cX0_orderStones 48 = .ok (.ifCond .eq 92, 3) := by decide +kernel
theorem dX0_orderStones_51 : decode cX0_orderStones 51 = .ok (.aload_n 0, 1) := by decide +kernel
theorem dX0_orderStones_52 : decode cX0_orderStones 52 = .ok (.getfield 25, 3) := by decide +kernel
theorem dX0_orderStones_55 : decode cX0_orderStones 55 = .ok (.iload 5, 2) := by decide +kernel
theorem dX0_orderStones_57 : decode cX0_orderStones 57 = .ok (.iaload, 1) := by decide +kernel
theorem dX0_orderStones_58 : decode cX0_orderStones 58 = .ok (.iload_n 2, 1) := by decide +kernel
theorem dX0_orderStones_59 : decode cX0_orderStones 59 = .ok (.if_icmp .lt 7, 3) := by decide +kernel
theorem dX0_orderStones_62 : decode cX0_orderStones 62 = .ok (.iconst 1, 1) := by decide +kernel
theorem dX0_orderStones_63 : decode cX0_orderStones 63 = .ok (.goto 4, 3) := by decide +kernel
theorem dX0_orderStones_66 : decode cX0_orderStones 66 = .ok (.iconst 0, 1) := by decide +kernel
theorem dX0_orderStones_67 : decode cX0_orderStones 67 = .ok (.istore 6, 2) := by decide +kernel
theorem dX0_orderStones_69 : decode cX0_orderStones 69 = .ok (.aload_n 0, 1) := by decide +kernel
theorem dX0_orderStones_70 : decode cX0_orderStones 70 = .ok (.getfield 25, 3) := by decide +kernel
theorem dX0_orderStones_73 : decode cX0_orderStones 73 = .ok (.iload 5, 2) := by decide +kernel
theorem dX0_orderStones_75 : decode cX0_orderStones 75 = .ok (.dup2, 1) := by decide +kernel
theorem dX0_orderStones_76 : decode cX0_orderStones 76 = .ok (.iaload, 1) := by decide +kernel
theorem dX0_orderStones_77 : decode cX0_orderStones 77 = .ok (.aload_n 1, 1) := by decide +kernel
theorem dX0_orderStones_78 : decode cX0_orderStones 78 = .ok (.iload 4, 2) := by decide +kernel
theorem dX0_orderStones_80 : decode cX0_orderStones 80 = .ok (.invokevirtual 45, 3) := by decide +kernel
theorem dX0_orderStones_83 : decode cX0_orderStones 83 = .ok (.iadd, 1) := by decide +kernel
theorem dX0_orderStones_84 : decode cX0_orderStones 84 = .ok (.iastore, 1) := by decide +kernel
theorem dX0_orderStones_85 : decode cX0_orderStones 85 = .ok (.iload 6, 2) := by decide +kernel
theorem dX0_orderStones_87 : decode cX0_orderStones 87 = .ok (.ifCond .ne 18, 3) := by decide +kernel
theorem dX0_orderStones_90 : decode cX0_orderStones 90 = .ok (.aload_n 0, 1) := by decide +kernel
theorem dX0_orderStones_91 : decode cX0_orderStones 91 = .ok (.getfield 25, 3) := by decide +kernel
theorem dX0_orderStones_94 : decode cX0_orderStones 94 = .ok (.iload 5, 2) := by decide +kernel
theorem dX0_orderStones_96 : decode cX0_orderStones 96 = .ok (.iaload, 1) := by decide +kernel
theorem dX0_orderStones_97 : decode cX0_orderStones 97 = .ok (.iload_n 2, 1) := by decide +kernel
theorem dX0_orderStones_98 : decode cX0_orderStones 98 = .ok (.if_icmp .lt 7, 3) := by decide +kernel
theorem dX0_orderStones_101 : decode cX0_orderStones 101 = .ok (.iconst 1, 1) := by decide +kernel
theorem dX0_orderStones_102 : decode cX0_orderStones 102 = .ok (.goto 4, 3) := by decide +kernel
theorem dX0_orderStones_105 : decode cX0_orderStones 105 = .ok (.iconst 0, 1) := by decide +kernel
theorem dX0_orderStones_106 : decode cX0_orderStones 106 = .ok (.istore 7, 2) := by decide +kernel
theorem dX0_orderStones_108 : decode cX0_orderStones 108 = .ok (.iload 7, 2) := by decide +kernel
theorem dX0_orderStones_110 : decode cX0_orderStones 110 = .ok (.ifCond .eq 30, 3) := by decide +kernel
theorem dX0_orderStones_113 : decode cX0_orderStones 113 = .ok (.aload_n 0, 1) := by decide +kernel
theorem dX0_orderStones_114 : decode cX0_orderStones 114 = .ok (.getfield 18, 3) := by decide +kernel
theorem dX0_orderStones_117 : decode cX0_orderStones 117 = .ok (.iload 5, 2) := by decide +kernel
theorem dX0_orderStones_119 : decode cX0_orderStones 119 = .ok (.baload, 1) := by decide +kernel
theorem dX0_orderStones_120 : decode cX0_orderStones 120 = .ok (.ifCond .ne 20, 3) := by decide +kernel
theorem dX0_orderStones_123 : decode cX0_orderStones 123 = .ok (.iload_n 3, 1) := by decide +kernel
theorem dX0_orderStones_124 : decode cX0_orderStones 124 = .ok (.bipush 30, 2) := by decide +kernel
theorem dX0_orderStones_126 : decode cX0_orderStones 126 = .ok (.if_icmp .ge 14, 3) := by decide +kernel
theorem dX0_orderStones_129 : decode cX0_orderStones 129 = .ok (.aload_n 0, 1) := by decide +kernel
theorem dX0_orderStones_130 : decode cX0_orderStones 130 = .ok (.getfield 28, 3) := by decide +kernel
theorem dX0_orderStones_133 : decode cX0_orderStones 133 = .ok (.iload_n 3, 1) := by decide +kernel
theorem dX0_orderStones_134 : decode cX0_orderStones 134 = .ok (.iload 5, 2) := by decide +kernel
theorem dX0_orderStones_136 : decode cX0_orderStones 136 = .ok (.iastore, 1) := by decide +kernel
theorem dX0_orderStones_137 : decode cX0_orderStones 137 = .ok (.iinc 3 1, 3) := by decide +kernel
theorem dX0_orderStones_140 : decode cX0_orderStones 140 = .ok (.iinc 4 1, 3) := by decide +kernel
theorem dX0_orderStones_143 : decode cX0_orderStones 143 = .ok (.goto (-117), 3) := by decide +kernel
theorem dX0_orderStones_146 : decode cX0_orderStones 146 = .ok (.iload_n 3, 1) := by decide +kernel
theorem dX0_orderStones_147 : decode cX0_orderStones 147 = .ok (.ireturn, 1) := by decide +kernel
theorem dX0_partCoin_0 : decode cX0_partCoin 0 = .ok (.aload_n 3, 1) := by decide +kernel
theorem dX0_partCoin_1 : decode cX0_partCoin 1 = .ok (.invokevirtual 48, 3) := by decide +kernel
theorem dX0_partCoin_4 : decode cX0_partCoin 4 = .ok (.lstore 5, 2) := by decide +kernel
theorem dX0_partCoin_6 : decode cX0_partCoin 6 = .ok (.iload 4, 2) := by decide +kernel
theorem dX0_partCoin_8 : decode cX0_partCoin 8 = .ok (.ifCond .eq 14, 3) := by decide +kernel
theorem dX0_partCoin_11 : decode cX0_partCoin 11 = .ok (.lload_n 1, 1) := by decide +kernel
theorem dX0_partCoin_12 : decode cX0_partCoin 12 = .ok (.lload 5, 2) := by decide +kernel
theorem dX0_partCoin_14 : decode cX0_partCoin 14 = .ok (.lcmp, 1) := by decide +kernel
theorem dX0_partCoin_15 : decode cX0_partCoin 15 = .ok (.ifCond .lt 7, 3) := by decide +kernel
theorem dX0_partCoin_18 : decode cX0_partCoin 18 = .ok (.iconst 1, 1) := by decide +kernel
theorem dX0_partCoin_19 : decode cX0_partCoin 19 = .ok (.goto 4, 3) := by decide +kernel
theorem dX0_partCoin_22 : decode cX0_partCoin 22 = .ok (.iconst 0, 1) := by decide +kernel
theorem dX0_partCoin_23 : decode cX0_partCoin 23 = .ok (.istore 7, 2) := by decide +kernel
theorem dX0_partCoin_25 : decode cX0_partCoin 25 = .ok (.iconst 0, 1) := by decide +kernel
theorem dX0_partCoin_26 : decode cX0_partCoin 26 = .ok (.istore 8, 2) := by decide +kernel
theorem dX0_partCoin_28 : decode cX0_partCoin 28 = .ok (.iconst 0, 1) := by decide +kernel
theorem dX0_partCoin_29 : decode cX0_partCoin 29 = .ok (.istore 9, 2) := by decide +kernel
theorem dX0_partCoin_31 : decode cX0_partCoin 31 = .ok (.iload 9, 2) := by decide +kernel
theorem dX0_partCoin_33 : decode cX0_partCoin 33 = .ok (.bipush 30, 2) := by decide +kernel
theorem dX0_partCoin_35 : decode cX0_partCoin 35 = .ok (.if_icmp .ge 69, 3) := by decide +kernel
theorem dX0_partCoin_38 : decode cX0_partCoin 38 = .ok (.aload_n 3, 1) := by decide +kernel
theorem dX0_partCoin_39 : decode cX0_partCoin 39 = .ok (.iload 9, 2) := by decide +kernel
theorem dX0_partCoin_41 : decode cX0_partCoin 41 = .ok (.invokevirtual 52, 3) := by decide +kernel
theorem dX0_partCoin_44 : decode cX0_partCoin 44 = .ok (.istore 10, 2) := by decide +kernel
theorem dX0_partCoin_46 : decode cX0_partCoin 46 = .ok (.iload 7, 2) := by decide +kernel
theorem dX0_partCoin_48 : decode cX0_partCoin 48 = .ok (.ifCond .eq 15, 3) := by decide +kernel
theorem dX0_partCoin_51 : decode cX0_partCoin 51 = .ok (.aload_n 0, 1) := by decide +kernel
theorem dX0_partCoin_52 : decode cX0_partCoin 52 = .ok (.getfield 22, 3) := by decide +kernel
theorem dX0_partCoin_55 : decode cX0_partCoin 55 = .ok (.iload 9, 2) := by decide +kernel
theorem dX0_partCoin_57 : decode cX0_partCoin 57 = .ok (.iload 10, 2) := by decide +kernel
theorem dX0_partCoin_59 : decode cX0_partCoin 59 = .ok (.iastore, 1) := by decide +kernel
theorem dX0_partCoin_60 : decode cX0_partCoin 60 = .ok (.goto 26, 3) := by decide +kernel
theorem dX0_partCoin_63 : decode cX0_partCoin 63 = .ok (.lload 5, 2) := by decide +kernel
theorem dX0_partCoin_65 : decode cX0_partCoin 65 = .ok (.lconst 0, 1) := by decide +kernel
theorem dX0_partCoin_66 : decode cX0_partCoin 66 = .ok (.lcmp, 1) := by decide +kernel
theorem dX0_partCoin_67 : decode cX0_partCoin 67 = .ok (.ifCond .le 19, 3) := by decide +kernel
theorem dX0_partCoin_70 : decode cX0_partCoin 70 = .ok (.aload_n 0, 1) := by decide +kernel
theorem dX0_partCoin_71 : decode cX0_partCoin 71 = .ok (.getfield 22, 3) := by decide +kernel
theorem dX0_partCoin_74 : decode cX0_partCoin 74 = .ok (.iload 9, 2) := by decide +kernel
theorem dX0_partCoin_76 : decode cX0_partCoin 76 = .ok (.lload_n 1, 1) := by decide +kernel
theorem dX0_partCoin_77 : decode cX0_partCoin 77 = .ok (.iload 10, 2) := by decide +kernel
theorem dX0_partCoin_79 : decode cX0_partCoin 79 = .ok (.i2l, 1) := by decide +kernel
theorem dX0_partCoin_80 : decode cX0_partCoin 80 = .ok (.lmul, 1) := by decide +kernel
theorem dX0_partCoin_81 : decode cX0_partCoin 81 = .ok (.lload 5, 2) := by decide +kernel
theorem dX0_partCoin_83 : decode cX0_partCoin 83 = .ok (.ldiv, 1) := by decide +kernel
theorem dX0_partCoin_84 : decode cX0_partCoin 84 = .ok (.l2i, 1) := by decide +kernel
theorem dX0_partCoin_85 : decode cX0_partCoin 85 = .ok (.iastore, 1) := by decide +kernel
theorem dX0_partCoin_86 : decode cX0_partCoin 86 = .ok (.iload 8, 2) := by decide +kernel
theorem dX0_partCoin_88 : decode cX0_partCoin 88 = .ok (.aload_n 0, 1) := by decide +kernel
theorem dX0_partCoin_89 : decode cX0_partCoin 89 = .ok (.getfield 22, 3) := by decide +kernel
theorem dX0_partCoin_92 : decode cX0_partCoin 92 = .ok (.iload 9, 2) := by decide +kernel
theorem dX0_partCoin_94 : decode cX0_partCoin 94 = .ok (.iaload, 1) := by decide +kernel
theorem dX0_partCoin_95 : decode cX0_partCoin 95 = .ok (.iadd, 1) := by decide +kernel
theorem dX0_partCoin_96 : decode cX0_partCoin 96 = .ok (.istore 8, 2) := by decide +kernel
theorem dX0_partCoin_98 : decode cX0_partCoin 98 = .ok (.iinc 9 1, 3) := by decide +kernel
theorem dX0_partCoin_101 : decode cX0_partCoin 101 = .ok (.goto (-70), 3) := by decide +kernel
theorem dX0_partCoin_104 : decode cX0_partCoin 104 = .ok (.iload 8, 2) := by decide +kernel
theorem dX0_partCoin_106 : decode cX0_partCoin 106 = .ok (.ireturn, 1) := by decide +kernel
theorem dX1_init_0 : decode cX1_init 0 = .ok (.aload_n 0, 1) := by decide +kernel
theorem dX1_init_1 : decode cX1_init 1 = .ok (.invokespecial 3, 3) := by decide +kernel
theorem dX1_init_4 : decode cX1_init 4 = .ok (.aload_n 0, 1) := by decide +kernel
theorem dX1_init_5 : decode cX1_init 5 = .ok (.iconst (-1), 1) := by decide +kernel
theorem dX1_init_6 : decode cX1_init 6 = .ok (.putfield 9, 3) := by decide +kernel
theorem dX1_init_9 : decode cX1_init 9 = .ok (.aload_n 0, 1) := by decide +kernel
theorem dX1_init_10 : decode cX1_init 10 = .ok (.iload_n 1, 1) := by decide +kernel
theorem dX1_init_11 : decode cX1_init 11 = .ok (.putfield 15, 3) := by decide +kernel
theorem dX1_init_14 : decode cX1_init 14 = .ok (.aload_n 0, 1) := by decide +kernel
theorem dX1_init_15 : decode cX1_init 15 = .ok (.iload_n 3, 1) := by decide +kernel
theorem dX1_init_16 : decode cX1_init 16 = .ok (.putfield 18, 3) := by decide +kernel
theorem dX1_init_19 : decode cX1_init 19 = .ok (.aload_n 0, 1) := by decide +kernel
theorem dX1_init_20 : decode cX1_init 20 = .ok (.iload 4, 2) := by decide +kernel
theorem dX1_init_22 : decode cX1_init 22 = .ok (.putfield 21, 3) := by decide +kernel
theorem dX1_init_25 : decode cX1_init 25 = .ok (.aload_n 0, 1) := by decide +kernel
theorem dX1_init_26 : decode cX1_init 26 = .ok (.iload_n 3, 1) := by decide +kernel
theorem dX1_init_27 : decode cX1_init 27 = .ok (.iload 4, 2) := by decide +kernel
theorem dX1_init_29 : decode cX1_init 29 = .ok (.iload 5, 2) := by decide +kernel
theorem dX1_init_31 : decode cX1_init 31 = .ok (.invokestatic 24, 3) := by decide +kernel
theorem dX1_init_34 : decode cX1_init 34 = .ok (.putfield 28, 3) := by decide +kernel
theorem dX1_init_37 : decode cX1_init 37 = .ok (.aload_n 0, 1) := by decide +kernel
theorem dX1_init_38 : decode cX1_init 38 = .ok (.aload_n 0, 1) := by decide +kernel
theorem dX1_init_39 : decode cX1_init 39 = .ok (.getfield 28, 3) := by decide +kernel
theorem dX1_init_42 : decode cX1_init 42 = .ok (.newarray .int, 2) := by decide +kernel
theorem dX1_init_44 : decode cX1_init 44 = .ok (.putfield 31, 3) := by decide +kernel
theorem dX1_init_47 : decode cX1_init 47 = .ok (.aload_n 0, 1) := by decide +kernel
theorem dX1_init_48 : decode cX1_init 48 = .ok (.aload_n 0, 1) := by decide +kernel
theorem dX1_init_49 : decode cX1_init 49 = .ok (.getfield 28, 3) := by decide +kernel
theorem dX1_init_52 : decode cX1_init 52 = .ok (.newarray .int, 2) := by decide +kernel
theorem dX1_init_54 : decode cX1_init 54 = .ok (.putfield 35, 3) := by decide +kernel
theorem dX1_init_57 : decode cX1_init 57 = .ok (.aload_n 0, 1) := by decide +kernel
theorem dX1_init_58 : decode cX1_init 58 = .ok (.aload_n 0, 1) := by decide +kernel
theorem dX1_init_59 : decode cX1_init 59 = .ok (.getfield 28, 3) := by decide +kernel
theorem dX1_init_62 : decode cX1_init 62 = .ok (.newarray .int, 2) := by decide +kernel
theorem dX1_init_64 : decode cX1_init 64 = .ok (.putfield 38, 3) := by decide +kernel
theorem dX1_init_67 : decode cX1_init 67 = .ok (.aload_n 0, 1) := by decide +kernel
theorem dX1_init_68 : decode cX1_init 68 = .ok (.iload_n 2, 1) := by decide +kernel
theorem dX1_init_69 : decode cX1_init 69 = .ok (.putfield 41, 3) := by decide +kernel
theorem dX1_init_72 : decode cX1_init 72 = .ok (.iconst 0, 1) := by decide +kernel
theorem dX1_init_73 : decode cX1_init 73 = .ok (.istore 6, 2) := by decide +kernel
theorem dX1_init_75 : decode cX1_init 75 = .ok (.iload 6, 2) := by decide +kernel
theorem dX1_init_77 : decode cX1_init 77 = .ok (.aload_n 0, 1) := by decide +kernel
theorem dX1_init_78 : decode cX1_init 78 = .ok (.getfield 28, 3) := by decide +kernel
theorem dX1_init_81 : decode cX1_init 81 = .ok (.if_icmp .ge 17, 3) := by decide +kernel
theorem dX1_init_84 : decode cX1_init 84 = .ok (.aload_n 0, 1) := by decide +kernel
theorem dX1_init_85 : decode cX1_init 85 = .ok (.getfield 31, 3) := by decide +kernel
theorem dX1_init_88 : decode cX1_init 88 = .ok (.iload 6, 2) := by decide +kernel
theorem dX1_init_90 : decode cX1_init 90 = .ok (.iload_n 2, 1) := by decide +kernel
theorem dX1_init_91 : decode cX1_init 91 = .ok (.iastore, 1) := by decide +kernel
theorem dX1_init_92 : decode cX1_init 92 = .ok (.iinc 6 1, 3) := by decide +kernel
theorem dX1_init_95 : decode cX1_init 95 = .ok (.goto (-20), 3) := by decide +kernel
theorem dX1_init_98 : decode cX1_init 98 = .ok (.return_, 1) := by decide +kernel
theorem dX1_duesThatCome_0 : decode cX1_duesThatCome 0 = .ok (.iconst 0, 1) := by decide +kernel
theorem dX1_duesThatCome_1 : decode cX1_duesThatCome 1 = .ok (.istore_n 3, 1) := by decide +kernel
theorem dX1_duesThatCome_2 : decode cX1_duesThatCome 2 = .ok (.iconst 0, 1) := by decide +kernel
theorem dX1_duesThatCome_3 : decode cX1_duesThatCome 3 = .ok (.istore 4, 2) := by decide +kernel
theorem dX1_duesThatCome_5 : decode cX1_duesThatCome 5 = .ok (.iload 4, 2) := by decide +kernel
theorem dX1_duesThatCome_7 : decode cX1_duesThatCome 7 = .ok (.iload_n 2, 1) := by decide +kernel
theorem dX1_duesThatCome_8 : decode cX1_duesThatCome 8 = .ok (.if_icmp .ge 30, 3) := by decide +kernel
theorem dX1_duesThatCome_11 : decode cX1_duesThatCome 11 = .ok (.iload 4, 2) := by decide +kernel
theorem dX1_duesThatCome_13 : decode cX1_duesThatCome 13 = .ok (.bipush 84, 2) := by decide +kernel
theorem dX1_duesThatCome_15 : decode cX1_duesThatCome 15 = .ok (.if_icmp .ge 23, 3) := by decide +kernel
theorem dX1_duesThatCome_18 : decode cX1_duesThatCome 18 = .ok (.iload_n 0, 1) := by decide +kernel
theorem dX1_duesThatCome_19 : decode cX1_duesThatCome 19 = .ok (.iload 4, 2) := by decide +kernel
theorem dX1_duesThatCome_21 : decode cX1_duesThatCome 21 = .ok (.iload_n 1, 1) := by decide +kernel
theorem dX1_duesThatCome_22 : decode cX1_duesThatCome 22 = .ok (.imul, 1) := by decide +kernel
theorem dX1_duesThatCome_23 : decode cX1_duesThatCome 23 = .ok (.iadd, 1) := by decide +kernel
theorem dX1_duesThatCome_24 : decode cX1_duesThatCome 24 = .ok (.bipush 119, 2) := by decide +kernel
theorem dX1_duesThatCome_26 : decode cX1_duesThatCome 26 = .ok (.if_icmp .gt 6, 3) := by decide +kernel
theorem dX1_duesThatCome_29 : decode cX1_duesThatCome 29 = .ok (.iinc 3 1, 3) := by decide +kernel
theorem dX1_duesThatCome_32 : decode cX1_duesThatCome 32 = .ok (.iinc 4 1, 3) := by decide +kernel
theorem dX1_duesThatCome_35 : decode cX1_duesThatCome 35 = .ok (.goto (-30), 3) := by decide +kernel
theorem dX1_duesThatCome_38 : decode cX1_duesThatCome 38 = .ok (.iload_n 3, 1) := by decide +kernel
theorem dX1_duesThatCome_39 : decode cX1_duesThatCome 39 = .ok (.ireturn, 1) := by decide +kernel
theorem dX1_monthOf_0 : decode cX1_monthOf 0 = .ok (.aload_n 0, 1) := by decide +kernel
theorem dX1_monthOf_1 : decode cX1_monthOf 1 = .ok (.getfield 18, 3) := by decide +kernel
theorem dX1_monthOf_4 : decode cX1_monthOf 4 = .ok (.iload_n 1, 1) := by decide +kernel
theorem dX1_monthOf_5 : decode cX1_monthOf 5 = .ok (.aload_n 0, 1) := by decide +kernel
theorem dX1_monthOf_6 : decode cX1_monthOf 6 = .ok (.getfield 21, 3) := by decide +kernel
theorem dX1_monthOf_9 : decode cX1_monthOf 9 = .ok (.imul, 1) := by decide +kernel
theorem dX1_monthOf_10 : decode cX1_monthOf 10 = .ok (.iadd, 1) := by decide +kernel
theorem dX1_monthOf_11 : decode cX1_monthOf 11 = .ok (.ireturn, 1) := by decide +kernel
theorem dX1_giverNumber_0 : decode cX1_giverNumber 0 = .ok (.aload_n 0, 1) := by decide +kernel
theorem dX1_giverNumber_1 : decode cX1_giverNumber 1 = .ok (.getfield 15, 3) := by decide +kernel
theorem dX1_giverNumber_4 : decode cX1_giverNumber 4 = .ok (.ireturn, 1) := by decide +kernel
theorem dX1_penceToCome_0 : decode cX1_penceToCome 0 = .ok (.aload_n 0, 1) := by decide +kernel
theorem dX1_penceToCome_1 : decode cX1_penceToCome 1 = .ok (.getfield 41, 3) := by decide +kernel
theorem dX1_penceToCome_4 : decode cX1_penceToCome 4 = .ok (.ireturn, 1) := by decide +kernel
theorem dX1_filledInAll_0 : decode cX1_filledInAll 0 = .ok (.aload_n 0, 1) := by decide +kernel
theorem dX1_filledInAll_1 : decode cX1_filledInAll 1 = .ok (.getfield 44, 3) := by decide +kernel
theorem dX1_filledInAll_4 : decode cX1_filledInAll 4 = .ok (.ireturn, 1) := by decide +kernel
theorem dX1_isLapsed_0 : decode cX1_isLapsed 0 = .ok (.aload_n 0, 1) := by decide +kernel
theorem dX1_isLapsed_1 : decode cX1_isLapsed 1 = .ok (.getfield 47, 3) := by decide +kernel
theorem dX1_isLapsed_4 : decode cX1_isLapsed 4 = .ok (.ireturn, 1) := by decide +kernel
theorem dX1_firstLapse_0 : decode cX1_firstLapse 0 = .ok (.aload_n 0, 1) := by decide +kernel
theorem dX1_firstLapse_1 : decode cX1_firstLapse 1 = .ok (.getfield 9, 3) := by decide +kernel
theorem dX1_firstLapse_4 : decode cX1_firstLapse 4 = .ok (.ireturn, 1) := by decide +kernel
theorem dX1_mayBeTakenUp_0 : decode cX1_mayBeTakenUp 0 = .ok (.aload_n 0, 1) := by decide +kernel
theorem dX1_mayBeTakenUp_1 : decode cX1_mayBeTakenUp 1 = .ok (.getfield 47, 3) := by decide +kernel
theorem dX1_mayBeTakenUp_4 : decode cX1_mayBeTakenUp 4 = .ok (.ifCond .eq 14, 3) := by decide +kernel
theorem dX1_mayBeTakenUp_7 : decode cX1_mayBeTakenUp 7 = .ok (.aload_n 0, 1) := by decide +kernel
theorem dX1_mayBeTakenUp_8 : decode cX1_mayBeTakenUp 8 = .ok (.getfield 51, 3) := by decide +kernel
theorem dX1_mayBeTakenUp_11 : decode cX1_mayBeTakenUp 11 = .ok (.ifCond .ne 7, 3) := by decide +kernel
theorem dX1_mayBeTakenUp_14 : decode cX1_mayBeTakenUp 14 = .ok (.iconst 1, 1) := by decide +kernel
theorem dX1_mayBeTakenUp_15 : decode cX1_mayBeTakenUp 15 = .ok (.goto 4, 3) := by decide +kernel
theorem dX1_mayBeTakenUp_18 : decode cX1_mayBeTakenUp 18 = .ok (.iconst 0, 1) := by decide +kernel
theorem dX1_mayBeTakenUp_19 : decode cX1_mayBeTakenUp 19 = .ok (.ireturn, 1) := by decide +kernel
theorem dX1_overdue_0 : decode cX1_overdue 0 = .ok (.iconst 0, 1) := by decide +kernel
theorem dX1_overdue_1 : decode cX1_overdue 1 = .ok (.istore_n 2, 1) := by decide +kernel
theorem dX1_overdue_2 : decode cX1_overdue 2 = .ok (.iconst 0, 1) := by decide +kernel
theorem dX1_overdue_3 : decode cX1_overdue 3 = .ok (.istore_n 3, 1) := by decide +kernel
theorem dX1_overdue_4 : decode cX1_overdue 4 = .ok (.iload_n 3, 1) := by decide +kernel
theorem dX1_overdue_5 : decode cX1_overdue 5 = .ok (.aload_n 0, 1) := by decide +kernel
theorem dX1_overdue_6 : decode cX1_overdue 6 = .ok (.getfield 28, 3) := by decide +kernel
theorem dX1_overdue_9 : decode cX1_overdue 9 = .ok (.if_icmp .ge 45, 3) := by decide +kernel
theorem dX1_overdue_12 : decode cX1_overdue 12 = .ok (.aload_n 0, 1) := by decide +kernel
theorem dX1_overdue_13 : decode cX1_overdue 13 = .ok (.iload_n 3, 1) := by decide +kernel
theorem dX1_overdue_14 : decode cX1_overdue 14 = .ok (.invokevirtual 54, 3) := by decide +kernel
theorem dX1_overdue_17 : decode cX1_overdue 17 = .ok (.iload_n 1, 1) := by decide +kernel
theorem dX1_overdue_18 : decode cX1_overdue 18 = .ok (.if_icmp .gt 36, 3) := by decide +kernel
theorem dX1_overdue_21 : decode cX1_overdue 21 = .ok (.aload_n 0, 1) := by decide +kernel
theorem dX1_overdue_22 : decode cX1_overdue 22 = .ok (.getfield 38, 3) := by decide +kernel
theorem dX1_overdue_25 : decode cX1_overdue 25 = .ok (.iload_n 3, 1) := by decide +kernel
theorem dX1_overdue_26 : decode cX1_overdue 26 = .ok (.iaload, 1) := by decide +kernel
theorem dX1_overdue_27 : decode cX1_overdue 27 = .ok (.ifCond .ne 21, 3) := by decide +kernel
theorem dX1_overdue_30 : decode cX1_overdue 30 = .ok (.aload_n 0, 1) := by decide +kernel
theorem dX1_overdue_31 : decode cX1_overdue 31 = .ok (.getfield 35, 3) := by decide +kernel
theorem dX1_overdue_34 : decode cX1_overdue 34 = .ok (.iload_n 3, 1) := by decide +kernel
theorem dX1_overdue_35 : decode cX1_overdue 35 = .ok (.iaload, 1) := by decide +kernel
theorem dX1_overdue_36 : decode cX1_overdue 36 = .ok (.aload_n 0, 1) := by decide +kernel
theorem dX1_overdue_37 : decode cX1_overdue 37 = .ok (.getfield 31, 3) := by decide +kernel
theorem dX1_overdue_40 : decode cX1_overdue 40 = .ok (.iload_n 3, 1) := by decide +kernel
theorem dX1_overdue_41 : decode cX1_overdue 41 = .ok (.iaload, 1) := by decide +kernel
theorem dX1_overdue_42 : decode cX1_overdue 42 = .ok (.if_icmp .ge 6, 3) := by decide +kernel
theorem dX1_overdue_45 : decode cX1_overdue 45 = .ok (.iinc 2 1, 3) := by decide +kernel
theorem dX1_overdue_48 : decode cX1_overdue 48 = .ok (.iinc 3 1, 3) := by decide +kernel
theorem dX1_overdue_51 : decode cX1_overdue 51 = .ok (.goto (-47), 3) := by decide +kernel
theorem dX1_overdue_54 : decode cX1_overdue 54 = .ok (.iload_n 2, 1) := by decide +kernel
theorem dX1_overdue_55 : decode cX1_overdue 55 = .ok (.ireturn, 1) := by decide +kernel
theorem dX1_unfilled_0 : decode cX1_unfilled 0 = .ok (.aload_n 0, 1) := by decide +kernel
theorem dX1_unfilled_1 : decode cX1_unfilled 1 = .ok (.iconst 0, 1) := by decide +kernel
theorem dX1_unfilled_2 : decode cX1_unfilled 2 = .ok (.bipush 119, 2) := by decide +kernel
theorem dX1_unfilled_4 : decode cX1_unfilled 4 = .ok (.invokevirtual 58, 3) := by decide +kernel
theorem dX1_unfilled_7 : decode cX1_unfilled 7 = .ok (.ireturn, 1) := by decide +kernel
theorem dX1_unfilledWithin_0 : decode cX1_unfilledWithin 0 = .ok (.iconst 0, 1) := by decide +kernel
theorem dX1_unfilledWithin_1 : decode cX1_unfilledWithin 1 = .ok (.istore_n 3, 1) := by decide +kernel
theorem dX1_unfilledWithin_2 : decode cX1_unfilledWithin 2 = .ok (.iconst 0, 1) := by decide +kernel
theorem dX1_unfilledWithin_3 : decode cX1_unfilledWithin 3 = .ok (.istore 4, 2) := by decide +kernel
theorem dX1_unfilledWithin_5 : decode cX1_unfilledWithin 5 = .ok (.iload 4, 2) := by decide +kernel
theorem dX1_unfilledWithin_7 : decode cX1_unfilledWithin 7 = .ok (.aload_n 0, 1) := by decide +kernel
theorem dX1_unfilledWithin_8 : decode cX1_unfilledWithin 8 = .ok (.getfield 28, 3) := by decide +kernel
theorem dX1_unfilledWithin_11 : decode cX1_unfilledWithin 11 = .ok (.if_icmp .ge 57, 3) := by decide +kernel
theorem dX1_unfilledWithin_14 : decode cX1_unfilledWithin 14 = .ok (.aload_n 0, 1) := by decide +kernel
theorem dX1_unfilledWithin_15 : decode cX1_unfilledWithin 15 = .ok (.iload 4, 2) := by decide +kernel
theorem dX1_unfilledWithin_17 : decode cX1_unfilledWithin 17 = .ok (.invokevirtual 54, 3) := by decide +kernel
theorem dX1_unfilledWithin_20 : decode cX1_unfilledWithin 20 = .ok (.iload_n 2, 1) := by decide +kernel
theorem dX1_unfilledWithin_21 : decode cX1_unfilledWithin 21 = .ok (.if_icmp .gt 47, 3) := by decide +kernel
theorem dX1_unfilledWithin_24 : decode cX1_unfilledWithin 24 = .ok (.aload_n 0, 1) := by decide +kernel
theorem dX1_unfilledWithin_25 : decode cX1_unfilledWithin 25 = .ok (.iload 4, 2) := by decide +kernel
theorem dX1_unfilledWithin_27 : decode cX1_unfilledWithin 27 = .ok (.invokevirtual 54, 3) := by decide +kernel
theorem dX1_unfilledWithin_30 : decode cX1_unfilledWithin 30 = .ok (.iload_n 1, 1) := by decide +kernel
theorem dX1_unfilledWithin_31 : decode cX1_unfilledWithin 31 = .ok (.if_icmp .lt 31, 3) := by decide +kernel
theorem dX1_unfilledWithin_34 : decode cX1_unfilledWithin 34 = .ok (.aload_n 0, 1) := by decide +kernel
theorem dX1_unfilledWithin_35 : decode cX1_unfilledWithin 35 = .ok (.getfield 38, 3) := by decide +kernel
theorem dX1_unfilledWithin_38 : decode cX1_unfilledWithin 38 = .ok (.iload 4, 2) := by decide +kernel
theorem dX1_unfilledWithin_40 : decode cX1_unfilledWithin 40 = .ok (.iaload, 1) := by decide +kernel
theorem dX1_unfilledWithin_41 : decode cX1_unfilledWithin 41 = .ok (.ifCond .ne 21, 3) := by decide +kernel
theorem dX1_unfilledWithin_44 : decode cX1_unfilledWithin 44 = .ok (.iload_n 3, 1) := by decide +kernel
theorem dX1_unfilledWithin_45 : decode cX1_unfilledWithin 45 = .ok (.aload_n 0, 1) := by decide +kernel
theorem dX1_unfilledWithin_46 : decode cX1_unfilledWithin 46 = .ok (.getfield 31, 3) := by decide +kernel
theorem dX1_unfilledWithin_49 : decode cX1_unfilledWithin 49 = .ok (.iload 4, 2) := by decide +kernel
theorem dX1_unfilledWithin_51 : decode cX1_unfilledWithin 51 = .ok (.iaload, 1) := by decide +kernel
theorem dX1_unfilledWithin_52 : decode cX1_unfilledWithin 52 = .ok (.aload_n 0, 1) := by decide +kernel
theorem dX1_unfilledWithin_53 : decode cX1_unfilledWithin 53 = .ok (.getfield 35, 3) := by decide +kernel
theorem dX1_unfilledWithin_56 : decode cX1_unfilledWithin 56 = .ok (.iload 4, 2) := by decide +kernel
theorem dX1_unfilledWithin_58 : decode cX1_unfilledWithin 58 = .ok (.iaload, 1) := by decide +kernel
theorem dX1_unfilledWithin_59 : decode cX1_unfilledWithin 59 = .ok (.isub, 1) := by decide +kernel
theorem dX1_unfilledWithin_60 : decode cX1_unfilledWithin 60 = .ok (.iadd, 1) := by decide +kernel
theorem dX1_unfilledWithin_61 : decode cX1_unfilledWithin 61 = .ok (.istore_n 3, 1) := by decide +kernel
theorem dX1_unfilledWithin_62 : decode cX1_unfilledWithin 62 = .ok (.iinc 4 1, 3) := by decide +kernel
theorem dX1_unfilledWithin_65 : decode cX1_unfilledWithin 65 = .ok (.goto (-60), 3) := by decide +kernel
theorem dX1_unfilledWithin_68 : decode cX1_unfilledWithin 68 = .ok (.iload_n 3, 1) := by decide +kernel
theorem dX1_unfilledWithin_69 : decode cX1_unfilledWithin 69 = .ok (.ireturn, 1) := by decide +kernel
theorem dX1_nextDue_0 : decode cX1_nextDue 0 = .ok (.aload_n 0, 1) := by decide +kernel
theorem dX1_nextDue_1 : decode cX1_nextDue 1 = .ok (.getfield 47, 3) := by decide +kernel
theorem dX1_nextDue_4 : decode cX1_nextDue 4 = .ok (.ifCond .eq 5, 3) := by decide +kernel
theorem dX1_nextDue_7 : decode cX1_nextDue 7 = .ok (.iconst (-1), 1) := by decide +kernel
theorem dX1_nextDue_8 : decode cX1_nextDue 8 = .ok (.ireturn, 1) := by decide +kernel
theorem dX1_nextDue_9 : decode cX1_nextDue 9 = .ok (.iconst 0, 1) := by decide +kernel
theorem dX1_nextDue_10 : decode cX1_nextDue 10 = .ok (.istore_n 2, 1) := by decide +kernel
theorem dX1_nextDue_11 : decode cX1_nextDue 11 = .ok (.iload_n 2, 1) := by decide +kernel
theorem dX1_nextDue_12 : decode cX1_nextDue 12 = .ok (.aload_n 0, 1) := by decide +kernel
theorem dX1_nextDue_13 : decode cX1_nextDue 13 = .ok (.getfield 28, 3) := by decide +kernel
theorem dX1_nextDue_16 : decode cX1_nextDue 16 = .ok (.if_icmp .ge 33, 3) := by decide +kernel
theorem dX1_nextDue_19 : decode cX1_nextDue 19 = .ok (.aload_n 0, 1) := by decide +kernel
theorem dX1_nextDue_20 : decode cX1_nextDue 20 = .ok (.iload_n 2, 1) := by decide +kernel
theorem dX1_nextDue_21 : decode cX1_nextDue 21 = .ok (.invokevirtual 54, 3) := by decide +kernel
theorem dX1_nextDue_24 : decode cX1_nextDue 24 = .ok (.iload_n 1, 1) := by decide +kernel
theorem dX1_nextDue_25 : decode cX1_nextDue 25 = .ok (.if_icmp .le 18, 3) := by decide +kernel
theorem dX1_nextDue_28 : decode cX1_nextDue 28 = .ok (.aload_n 0, 1) := by decide +kernel
theorem dX1_nextDue_29 : decode cX1_nextDue 29 = .ok (.getfield 38, 3) := by decide +kernel
theorem dX1_nextDue_32 : decode cX1_nextDue 32 = .ok (.iload_n 2, 1) := by decide +kernel
theorem dX1_nextDue_33 : decode cX1_nextDue 33 = .ok (.iaload, 1) := by decide +kernel
theorem dX1_nextDue_34 : decode cX1_nextDue 34 = .ok (.ifCond .ne 9, 3) := by decide +kernel
theorem dX1_nextDue_37 : decode cX1_nextDue 37 = .ok (.aload_n 0, 1) := by decide +kernel
theorem dX1_nextDue_38 : decode cX1_nextDue 38 = .ok (.iload_n 2, 1) := by decide +kernel
theorem dX1_nextDue_39 : decode cX1_nextDue 39 = .ok (.invokevirtual 54, 3) := by decide +kernel
theorem dX1_nextDue_42 : decode cX1_nextDue 42 = .ok (.ireturn, 1) := by decide +kernel
theorem dX1_nextDue_43 : decode cX1_nextDue 43 = .ok (.iinc 2 1, 3) := by decide +kernel
theorem dX1_nextDue_46 : decode cX1_nextDue 46 = .ok (.goto (-35), 3) := by decide +kernel
theorem dX1_nextDue_49 : decode cX1_nextDue 49 = .ok (.iconst (-1), 1) := by decide +kernel
theorem dX1_nextDue_50 : decode cX1_nextDue 50 = .ok (.ireturn, 1) := by decide +kernel
theorem dX1_duesToCome_0 : decode cX1_duesToCome 0 = .ok (.iconst 0, 1) := by decide +kernel
theorem dX1_duesToCome_1 : decode cX1_duesToCome 1 = .ok (.istore_n 2, 1) := by decide +kernel
theorem dX1_duesToCome_2 : decode cX1_duesToCome 2 = .ok (.iconst 0, 1) := by decide +kernel
theorem dX1_duesToCome_3 : decode cX1_duesToCome 3 = .ok (.istore_n 3, 1) := by decide +kernel
theorem dX1_duesToCome_4 : decode cX1_duesToCome 4 = .ok (.iload_n 3, 1) := by decide +kernel
theorem dX1_duesToCome_5 : decode cX1_duesToCome 5 = .ok (.aload_n 0, 1) := by decide +kernel
theorem dX1_duesToCome_6 : decode cX1_duesToCome 6 = .ok (.getfield 28, 3) := by decide +kernel
theorem dX1_duesToCome_9 : decode cX1_duesToCome 9 = .ok (.if_icmp .ge 30, 3) := by decide +kernel
theorem dX1_duesToCome_12 : decode cX1_duesToCome 12 = .ok (.aload_n 0, 1) := by decide +kernel
theorem dX1_duesToCome_13 : decode cX1_duesToCome 13 = .ok (.iload_n 3, 1) := by decide +kernel
theorem dX1_duesToCome_14 : decode cX1_duesToCome 14 = .ok (.invokevirtual 54, 3) := by decide +kernel
theorem dX1_duesToCome_17 : decode cX1_duesToCome 17 = .ok (.iload_n 1, 1) := by decide +kernel
theorem dX1_duesToCome_18 : decode cX1_duesToCome 18 = .ok (.if_icmp .le 15, 3) := by decide +kernel
theorem dX1_duesToCome_21 : decode cX1_duesToCome 21 = .ok (.aload_n 0, 1) := by decide +kernel
theorem dX1_duesToCome_22 : decode cX1_duesToCome 22 = .ok (.getfield 38, 3) := by decide +kernel
theorem dX1_duesToCome_25 : decode cX1_duesToCome 25 = .ok (.iload_n 3, 1) := by decide +kernel
theorem dX1_duesToCome_26 : decode cX1_duesToCome 26 = .ok (.iaload, 1) := by decide +kernel
theorem dX1_duesToCome_27 : decode cX1_duesToCome 27 = .ok (.ifCond .ne 6, 3) := by decide +kernel
theorem dX1_duesToCome_30 : decode cX1_duesToCome 30 = .ok (.iinc 2 1, 3) := by decide +kernel
theorem dX1_duesToCome_33 : decode cX1_duesToCome 33 = .ok (.iinc 3 1, 3) := by decide +kernel
theorem dX1_duesToCome_36 : decode cX1_duesToCome 36 = .ok (.goto (-32), 3) := by decide +kernel
theorem dX1_duesToCome_39 : decode cX1_duesToCome 39 = .ok (.iload_n 2, 1) := by decide +kernel
theorem dX1_duesToCome_40 : decode cX1_duesToCome 40 = .ok (.ireturn, 1) := by decide +kernel
theorem dX1_dueSoFar_0 : decode cX1_dueSoFar 0 = .ok (.iconst 0, 1) := by decide +kernel
theorem dX1_dueSoFar_1 : decode cX1_dueSoFar 1 = .ok (.istore_n 2, 1) := by decide +kernel
theorem dX1_dueSoFar_2 : decode cX1_dueSoFar 2 = .ok (.iconst 0, 1) := by decide +kernel
theorem dX1_dueSoFar_3 : decode cX1_dueSoFar 3 = .ok (.istore_n 3, 1) := by decide +kernel
theorem dX1_dueSoFar_4 : decode cX1_dueSoFar 4 = .ok (.iload_n 3, 1) := by decide +kernel
theorem dX1_dueSoFar_5 : decode cX1_dueSoFar 5 = .ok (.aload_n 0, 1) := by decide +kernel
theorem dX1_dueSoFar_6 : decode cX1_dueSoFar 6 = .ok (.getfield 28, 3) := by decide +kernel
theorem dX1_dueSoFar_9 : decode cX1_dueSoFar 9 = .ok (.if_icmp .ge 37, 3) := by decide +kernel
theorem dX1_dueSoFar_12 : decode cX1_dueSoFar 12 = .ok (.aload_n 0, 1) := by decide +kernel
theorem dX1_dueSoFar_13 : decode cX1_dueSoFar 13 = .ok (.iload_n 3, 1) := by decide +kernel
theorem dX1_dueSoFar_14 : decode cX1_dueSoFar 14 = .ok (.invokevirtual 54, 3) := by decide +kernel
theorem dX1_dueSoFar_17 : decode cX1_dueSoFar 17 = .ok (.iload_n 1, 1) := by decide +kernel
theorem dX1_dueSoFar_18 : decode cX1_dueSoFar 18 = .ok (.if_icmp .gt 28, 3) := by decide +kernel
theorem dX1_dueSoFar_21 : decode cX1_dueSoFar 21 = .ok (.aload_n 0, 1) := by decide +kernel
theorem dX1_dueSoFar_22 : decode cX1_dueSoFar 22 = .ok (.getfield 38, 3) := by decide +kernel
theorem dX1_dueSoFar_25 : decode cX1_dueSoFar 25 = .ok (.iload_n 3, 1) := by decide +kernel
theorem dX1_dueSoFar_26 : decode cX1_dueSoFar 26 = .ok (.iaload, 1) := by decide +kernel
theorem dX1_dueSoFar_27 : decode cX1_dueSoFar 27 = .ok (.iconst 2, 1) := by decide +kernel
theorem dX1_dueSoFar_28 : decode cX1_dueSoFar 28 = .ok (.if_icmp .eq 12, 3) := by decide +kernel
theorem dX1_dueSoFar_31 : decode cX1_dueSoFar 31 = .ok (.iload_n 2, 1) := by decide +kernel
theorem dX1_dueSoFar_32 : decode cX1_dueSoFar 32 = .ok (.aload_n 0, 1) := by decide +kernel
theorem dX1_dueSoFar_33 : decode cX1_dueSoFar 33 = .ok (.getfield 31, 3) := by decide +kernel
theorem dX1_dueSoFar_36 : decode cX1_dueSoFar 36 = .ok (.iload_n 3, 1) := by decide +kernel
theorem dX1_dueSoFar_37 : decode cX1_dueSoFar 37 = .ok (.iaload, 1) := by decide +kernel
theorem dX1_dueSoFar_38 : decode cX1_dueSoFar 38 = .ok (.iadd, 1) := by decide +kernel
theorem dX1_dueSoFar_39 : decode cX1_dueSoFar 39 = .ok (.istore_n 2, 1) := by decide +kernel
theorem dX1_dueSoFar_40 : decode cX1_dueSoFar 40 = .ok (.iinc 3 1, 3) := by decide +kernel
theorem dX1_dueSoFar_43 : decode cX1_dueSoFar 43 = .ok (.goto (-39), 3) := by decide +kernel
theorem dX1_dueSoFar_46 : decode cX1_dueSoFar 46 = .ok (.iload_n 2, 1) := by decide +kernel
theorem dX1_dueSoFar_47 : decode cX1_dueSoFar 47 = .ok (.ireturn, 1) := by decide +kernel
theorem dX1_filledSoFar_0 : decode cX1_filledSoFar 0 = .ok (.iconst 0, 1) := by decide +kernel
theorem dX1_filledSoFar_1 : decode cX1_filledSoFar 1 = .ok (.istore_n 2, 1) := by decide +kernel
theorem dX1_filledSoFar_2 : decode cX1_filledSoFar 2 = .ok (.iconst 0, 1) := by decide +kernel
theorem dX1_filledSoFar_3 : decode cX1_filledSoFar 3 = .ok (.istore_n 3, 1) := by decide +kernel
theorem dX1_filledSoFar_4 : decode cX1_filledSoFar 4 = .ok (.iload_n 3, 1) := by decide +kernel
theorem dX1_filledSoFar_5 : decode cX1_filledSoFar 5 = .ok (.aload_n 0, 1) := by decide +kernel
theorem dX1_filledSoFar_6 : decode cX1_filledSoFar 6 = .ok (.getfield 28, 3) := by decide +kernel
theorem dX1_filledSoFar_9 : decode cX1_filledSoFar 9 = .ok (.if_icmp .ge 37, 3) := by decide +kernel
theorem dX1_filledSoFar_12 : decode cX1_filledSoFar 12 = .ok (.aload_n 0, 1) := by decide +kernel
theorem dX1_filledSoFar_13 : decode cX1_filledSoFar 13 = .ok (.iload_n 3, 1) := by decide +kernel
theorem dX1_filledSoFar_14 : decode cX1_filledSoFar 14 = .ok (.invokevirtual 54, 3) := by decide +kernel
theorem dX1_filledSoFar_17 : decode cX1_filledSoFar 17 = .ok (.iload_n 1, 1) := by decide +kernel
theorem dX1_filledSoFar_18 : decode cX1_filledSoFar 18 = .ok (.if_icmp .gt 28, 3) := by decide +kernel
theorem dX1_filledSoFar_21 : decode cX1_filledSoFar 21 = .ok (.aload_n 0, 1) := by decide +kernel
theorem dX1_filledSoFar_22 : decode cX1_filledSoFar 22 = .ok (.getfield 38, 3) := by decide +kernel
theorem dX1_filledSoFar_25 : decode cX1_filledSoFar 25 = .ok (.iload_n 3, 1) := by decide +kernel
theorem dX1_filledSoFar_26 : decode cX1_filledSoFar 26 = .ok (.iaload, 1) := by decide +kernel
theorem dX1_filledSoFar_27 : decode cX1_filledSoFar 27 = .ok (.iconst 2, 1) := by decide +kernel
theorem dX1_filledSoFar_28 : decode cX1_filledSoFar 28 = .ok (.if_icmp .eq 12, 3) := by decide +kernel
theorem dX1_filledSoFar_31 : decode cX1_filledSoFar 31 = .ok (.iload_n 2, 1) := by decide +kernel
theorem dX1_filledSoFar_32 : decode cX1_filledSoFar 32 = .ok (.aload_n 0, 1) := by decide +kernel
theorem dX1_filledSoFar_33 : decode cX1_filledSoFar 33 = .ok (.getfield 35, 3) := by decide +kernel
theorem dX1_filledSoFar_36 : decode cX1_filledSoFar 36 = .ok (.iload_n 3, 1) := by decide +kernel
theorem dX1_filledSoFar_37 : decode cX1_filledSoFar 37 = .ok (.iaload, 1) := by decide +kernel
theorem dX1_filledSoFar_38 : decode cX1_filledSoFar 38 = .ok (.iadd, 1) := by decide +kernel
theorem dX1_filledSoFar_39 : decode cX1_filledSoFar 39 = .ok (.istore_n 2, 1) := by decide +kernel
theorem dX1_filledSoFar_40 : decode cX1_filledSoFar 40 = .ok (.iinc 3 1, 3) := by decide +kernel
theorem dX1_filledSoFar_43 : decode cX1_filledSoFar 43 = .ok (.goto (-39), 3) := by decide +kernel
theorem dX1_filledSoFar_46 : decode cX1_filledSoFar 46 = .ok (.iload_n 2, 1) := by decide +kernel
theorem dX1_filledSoFar_47 : decode cX1_filledSoFar 47 = .ok (.ireturn, 1) := by decide +kernel
theorem dX1_setPence_0 : decode cX1_setPence 0 = .ok (.aload_n 0, 1) := by decide +kernel
theorem dX1_setPence_1 : decode cX1_setPence 1 = .ok (.iload_n 1, 1) := by decide +kernel
theorem dX1_setPence_2 : decode cX1_setPence 2 = .ok (.putfield 41, 3) := by decide +kernel
theorem dX1_setPence_5 : decode cX1_setPence 5 = .ok (.iconst 0, 1) := by decide +kernel
theorem dX1_setPence_6 : decode cX1_setPence 6 = .ok (.istore_n 3, 1) := by decide +kernel
theorem dX1_setPence_7 : decode cX1_setPence 7 = .ok (.iload_n 3, 1) := by decide +kernel
theorem dX1_setPence_8 : decode cX1_setPence 8 = .ok (.aload_n 0, 1) := by decide +kernel
theorem dX1_setPence_9 : decode cX1_setPence 9 = .ok (.getfield 28, 3) := by decide +kernel
theorem dX1_setPence_12 : decode cX1_setPence 12 = .ok (.if_icmp .ge 34, 3) := by decide +kernel
theorem dX1_setPence_15 : decode cX1_setPence 15 = .ok (.aload_n 0, 1) := by decide +kernel
theorem dX1_setPence_16 : decode cX1_setPence 16 = .ok (.iload_n 3, 1) := by decide +kernel
theorem dX1_setPence_17 : decode cX1_setPence 17 = .ok (.invokevirtual 54, 3) := by decide +kernel
theorem dX1_setPence_20 : decode cX1_setPence 20 = .ok (.iload_n 2, 1) := by decide +kernel
theorem dX1_setPence_21 : decode cX1_setPence 21 = .ok (.if_icmp .le 19, 3) := by decide +kernel
theorem dX1_setPence_24 : decode cX1_setPence 24 = .ok (.aload_n 0, 1) := by decide +kernel
theorem dX1_setPence_25 : decode cX1_setPence 25 = .ok (.getfield 35, 3) := by decide +kernel
theorem dX1_setPence_28 : decode cX1_setPence 28 = .ok (.iload_n 3, 1) := by decide +kernel
theorem dX1_setPence_29 : decode cX1_setPence 29 = .ok (.iaload, 1) := by decide +kernel
theorem dX1_setPence_30 : decode cX1_setPence 30 = .ok (.ifCond .ne 10, 3) := by decide +kernel
theorem dX1_setPence_33 : decode cX1_setPence 33 = .ok (.aload_n 0, 1) := by decide +kernel
theorem dX1_setPence_34 : decode cX1_setPence 34 = .ok (.getfield 31, 3) := by decide +kernel
theorem dX1_setPence_37 : decode cX1_setPence 37 = .ok (.iload_n 3, 1) := by decide +kernel
theorem dX1_setPence_38 : decode cX1_setPence 38 = .ok (.iload_n 1, 1) := by decide +kernel
theorem dX1_setPence_39 : decode cX1_setPence 39 = .ok (.iastore, 1) := by decide +kernel
theorem dX1_setPence_40 : decode cX1_setPence 40 = .ok (.iinc 3 1, 3) := by decide +kernel
theorem dX1_setPence_43 : decode cX1_setPence 43 = .ok (.goto (-36), 3) := by decide +kernel
theorem dX1_setPence_46 : decode cX1_setPence 46 = .ok (.return_, 1) := by decide +kernel
theorem dX1_fill_0 : decode cX1_fill 0 = .ok (.iload_n 1, 1) := by decide +kernel
theorem dX1_fill_1 : decode cX1_fill 1 = .ok (.istore_n 2, 1) := by decide +kernel
theorem dX1_fill_2 : decode cX1_fill 2 = .ok (.iconst 0, 1) := by decide +kernel
theorem dX1_fill_3 : decode cX1_fill 3 = .ok (.istore_n 3, 1) := by decide +kernel
theorem dX1_fill_4 : decode cX1_fill 4 = .ok (.iload_n 3, 1) := by decide +kernel
theorem dX1_fill_5 : decode cX1_fill 5 = .ok (.aload_n 0, 1) := by decide +kernel
theorem dX1_fill_6 : decode cX1_fill 6 = .ok (.getfield 28, 3) := by decide +kernel
theorem dX1_fill_9 : decode cX1_fill 9 = .ok (.if_icmp .ge 57, 3) := by decide +kernel
theorem dX1_fill_12 : decode cX1_fill 12 = .ok (.iload_n 2, 1) := by decide +kernel
theorem dX1_fill_13 : decode cX1_fill 13 = .ok (.ifCond .le 53, 3) := by decide +kernel
theorem dX1_fill_16 : decode cX1_fill 16 = .ok (.aload_n 0, 1) := by decide +kernel
theorem dX1_fill_17 : decode cX1_fill 17 = .ok (.getfield 38, 3) := by decide +kernel
theorem dX1_fill_20 : decode cX1_fill 20 = .ok (.iload_n 3, 1) := by decide +kernel
theorem dX1_fill_21 : decode cX1_fill 21 = .ok (.iaload, 1) := by decide +kernel
theorem dX1_fill_22 : decode cX1_fill 22 = .ok (.ifCond .ne 38, 3) := by decide +kernel
theorem dX1_fill_25 : decode cX1_fill 25 = .ok (.iload_n 2, 1) := by decide +kernel
theorem dX1_fill_26 : decode cX1_fill 26 = .ok (.aload_n 0, 1) := by decide +kernel
theorem dX1_fill_27 : decode cX1_fill 27 = .ok (.getfield 31, 3) := by decide +kernel
theorem dX1_fill_30 : decode cX1_fill 30 = .ok (.iload_n 3, 1) := by decide +kernel
theorem dX1_fill_31 : decode cX1_fill 31 = .ok (.iaload, 1) := by decide +kernel
theorem dX1_fill_32 : decode cX1_fill 32 = .ok (.aload_n 0, 1) := by decide +kernel
theorem dX1_fill_33 : decode cX1_fill 33 = .ok (.getfield 35, 3) := by decide +kernel
theorem dX1_fill_36 : decode cX1_fill 36 = .ok (.iload_n 3, 1) := by decide +kernel
theorem dX1_fill_37 : decode cX1_fill 37 = .ok (.iaload, 1) := by decide +kernel
theorem dX1_fill_38 : decode cX1_fill 38 = .ok (.isub, 1) := by decide +kernel
theorem dX1_fill_39 : decode cX1_fill 39 = .ok (.invokestatic 62, 3) := by decide +kernel
theorem dX1_fill_42 : decode cX1_fill 42 = .ok (.istore 4, 2) := by decide +kernel
theorem dX1_fill_44 : decode cX1_fill 44 = .ok (.aload_n 0, 1) := by decide +kernel
theorem dX1_fill_45 : decode cX1_fill 45 = .ok (.getfield 35, 3) := by decide +kernel
theorem dX1_fill_48 : decode cX1_fill 48 = .ok (.iload_n 3, 1) := by decide +kernel
theorem dX1_fill_49 : decode cX1_fill 49 = .ok (.dup2, 1) := by decide +kernel
theorem dX1_fill_50 : decode cX1_fill 50 = .ok (.iaload, 1) := by decide +kernel
theorem dX1_fill_51 : decode cX1_fill 51 = .ok (.iload 4, 2) := by decide +kernel
theorem dX1_fill_53 : decode cX1_fill 53 = .ok (.iadd, 1) := by decide +kernel
theorem dX1_fill_54 : decode cX1_fill 54 = .ok (.iastore, 1) := by decide +kernel
theorem dX1_fill_55 : decode cX1_fill 55 = .ok (.iload_n 2, 1) := by decide +kernel
theorem dX1_fill_56 : decode cX1_fill 56 = .ok (.iload 4, 2) := by decide +kernel
theorem dX1_fill_58 : decode cX1_fill 58 = .ok (.isub, 1) := by decide +kernel
theorem dX1_fill_59 : decode cX1_fill 59 = .ok (.istore_n 2, 1) := by decide +kernel
theorem dX1_fill_60 : decode cX1_fill 60 = .ok (.iinc 3 1, 3) := by decide +kernel
theorem dX1_fill_63 : decode cX1_fill 63 = .ok (.goto (-59), 3) := by decide +kernel
theorem dX1_fill_66 : decode cX1_fill 66 = .ok (.aload_n 0, 1) := by decide +kernel
theorem dX1_fill_67 : decode cX1_fill 67 = .ok (.dup, 1) := by decide +kernel
theorem dX1_fill_68 : decode cX1_fill 68 = .ok (.getfield 44, 3) := by decide +kernel
theorem dX1_fill_71 : decode cX1_fill 71 = .ok (.iload_n 1, 1) := by decide +kernel
theorem dX1_fill_72 : decode cX1_fill 72 = .ok (.iload_n 2, 1) := by decide +kernel
theorem dX1_fill_73 : decode cX1_fill 73 = .ok (.isub, 1) := by decide +kernel
theorem dX1_fill_74 : decode cX1_fill 74 = .ok (.iadd, 1) := by decide +kernel
theorem dX1_fill_75 : decode cX1_fill 75 = .ok (.putfield 44, 3) := by decide +kernel
theorem dX1_fill_78 : decode cX1_fill 78 = .ok (.return_, 1) := by decide +kernel
theorem dX1_lapseIn_0 : decode cX1_lapseIn 0 = .ok (.aload_n 0, 1) := by decide +kernel
theorem dX1_lapseIn_1 : decode cX1_lapseIn 1 = .ok (.iconst 1, 1) := by decide +kernel
theorem dX1_lapseIn_2 : decode cX1_lapseIn 2 = .ok (.putfield 47, 3) := by decide +kernel
theorem dX1_lapseIn_5 : decode cX1_lapseIn 5 = .ok (.aload_n 0, 1) := by decide +kernel
theorem dX1_lapseIn_6 : decode cX1_lapseIn 6 = .ok (.getfield 9, 3) := by decide +kernel
theorem dX1_lapseIn_9 : decode cX1_lapseIn 9 = .ok (.iconst (-1), 1) := by decide +kernel
theorem dX1_lapseIn_10 : decode cX1_lapseIn 10 = .ok (.if_icmp .ne 8, 3) := by decide +kernel
theorem dX1_lapseIn_13 : decode cX1_lapseIn 13 = .ok (.aload_n 0, 1) := by decide +kernel
theorem dX1_lapseIn_14 : decode cX1_lapseIn 14 = .ok (.iload_n 1, 1) := by decide +kernel
theorem dX1_lapseIn_15 : decode cX1_lapseIn 15 = .ok (.putfield 9, 3) := by decide +kernel
theorem dX1_lapseIn_18 : decode cX1_lapseIn 18 = .ok (.iconst 0, 1) := by decide +kernel
theorem dX1_lapseIn_19 : decode cX1_lapseIn 19 = .ok (.istore_n 2, 1) := by decide +kernel
theorem dX1_lapseIn_20 : decode cX1_lapseIn 20 = .ok (.iload_n 2, 1) := by decide +kernel
theorem dX1_lapseIn_21 : decode cX1_lapseIn 21 = .ok (.aload_n 0, 1) := by decide +kernel
theorem dX1_lapseIn_22 : decode cX1_lapseIn 22 = .ok (.getfield 28, 3) := by decide +kernel
theorem dX1_lapseIn_25 : decode cX1_lapseIn 25 = .ok (.if_icmp .ge 53, 3) := by decide +kernel
theorem dX1_lapseIn_28 : decode cX1_lapseIn 28 = .ok (.aload_n 0, 1) := by decide +kernel
theorem dX1_lapseIn_29 : decode cX1_lapseIn 29 = .ok (.getfield 38, 3) := by decide +kernel
theorem dX1_lapseIn_32 : decode cX1_lapseIn 32 = .ok (.iload_n 2, 1) := by decide +kernel
theorem dX1_lapseIn_33 : decode cX1_lapseIn 33 = .ok (.iaload, 1) := by decide +kernel
theorem dX1_lapseIn_34 : decode cX1_lapseIn 34 = .ok (.ifCond .ne 38, 3) := by decide +kernel
theorem dX1_lapseIn_37 : decode cX1_lapseIn 37 = .ok (.aload_n 0, 1) := by decide +kernel
theorem dX1_lapseIn_38 : decode cX1_lapseIn 38 = .ok (.getfield 35, 3) := by decide +kernel
theorem dX1_lapseIn_41 : decode cX1_lapseIn 41 = .ok (.iload_n 2, 1) := by decide +kernel
theorem dX1_lapseIn_42 : decode cX1_lapseIn 42 = .ok (.iaload, 1) := by decide +kernel
theorem dX1_lapseIn_43 : decode cX1_lapseIn 43 = .ok (.aload_n 0, 1) := by decide +kernel
theorem dX1_lapseIn_44 : decode cX1_lapseIn 44 = .ok (.getfield 31, 3) := by decide +kernel
theorem dX1_lapseIn_47 : decode cX1_lapseIn 47 = .ok (.iload_n 2, 1) := by decide +kernel
theorem dX1_lapseIn_48 : decode cX1_lapseIn 48 = .ok (.iaload, 1) := by decide +kernel
theorem dX1_lapseIn_49 : decode cX1_lapseIn 49 = .ok (.if_icmp .ge 23, 3) := by decide +kernel
theorem dX1_lapseIn_52 : decode cX1_lapseIn 52 = .ok (.aload_n 0, 1) := by decide +kernel
theorem dX1_lapseIn_53 : decode cX1_lapseIn 53 = .ok (.getfield 38, 3) := by decide +kernel
theorem dX1_lapseIn_56 : decode cX1_lapseIn 56 = .ok (.iload_n 2, 1) := by decide +kernel
theorem dX1_lapseIn_57 : decode cX1_lapseIn 57 = .ok (.aload_n 0, 1) := by decide +kernel
theorem dX1_lapseIn_58 : decode cX1_lapseIn 58 = .ok (.iload_n 2, 1) := by decide +kernel
theorem dX1_lapseIn_59 : decode cX1_lapseIn 59 = .ok (.invokevirtual 54, 3) := by decide +kernel
theorem dX1_lapseIn_62 : decode cX1_lapseIn 62 = .ok (.iload_n 1, 1) := by decide +kernel
theorem dX1_lapseIn_63 : decode cX1_lapseIn 63 = .ok (.if_icmp .gt 7, 3) := by decide +kernel
theorem dX1_lapseIn_66 : decode cX1_lapseIn 66 = .ok (.iconst 1, 1) := by decide +kernel
theorem dX1_lapseIn_67 : decode cX1_lapseIn 67 = .ok (.goto 4, 3) := by decide +kernel
theorem dX1_lapseIn_70 : decode cX1_lapseIn 70 = .ok (.iconst 2, 1) := by decide +kernel
theorem dX1_lapseIn_71 : decode cX1_lapseIn 71 = .ok (.iastore, 1) := by decide +kernel
theorem dX1_lapseIn_72 : decode cX1_lapseIn 72 = .ok (.iinc 2 1, 3) := by decide +kernel
theorem dX1_lapseIn_75 : decode cX1_lapseIn 75 = .ok (.goto (-55), 3) := by decide +kernel
theorem dX1_lapseIn_78 : decode cX1_lapseIn 78 = .ok (.return_, 1) := by decide +kernel
theorem dX1_standAgain_0 : decode cX1_standAgain 0 = .ok (.aload_n 0, 1) := by decide +kernel
theorem dX1_standAgain_1 : decode cX1_standAgain 1 = .ok (.iconst 0, 1) := by decide +kernel
theorem dX1_standAgain_2 : decode cX1_standAgain 2 = .ok (.putfield 47, 3) := by decide +kernel
theorem dX1_standAgain_5 : decode cX1_standAgain 5 = .ok (.aload_n 0, 1) := by decide +kernel
theorem dX1_standAgain_6 : decode cX1_standAgain 6 = .ok (.iconst 1, 1) := by decide +kernel
theorem dX1_standAgain_7 : decode cX1_standAgain 7 = .ok (.putfield 51, 3) := by decide +kernel
theorem dX1_standAgain_10 : decode cX1_standAgain 10 = .ok (.iconst 0, 1) := by decide +kernel
theorem dX1_standAgain_11 : decode cX1_standAgain 11 = .ok (.istore_n 2, 1) := by decide +kernel
theorem dX1_standAgain_12 : decode cX1_standAgain 12 = .ok (.iload_n 2, 1) := by decide +kernel
theorem dX1_standAgain_13 : decode cX1_standAgain 13 = .ok (.aload_n 0, 1) := by decide +kernel
theorem dX1_standAgain_14 : decode cX1_standAgain 14 = .ok (.getfield 28, 3) := by decide +kernel
theorem dX1_standAgain_17 : decode cX1_standAgain 17 = .ok (.if_icmp .ge 35, 3) := by decide +kernel
theorem dX1_standAgain_20 : decode cX1_standAgain 20 = .ok (.aload_n 0, 1) := by decide +kernel
theorem dX1_standAgain_21 : decode cX1_standAgain 21 = .ok (.iload_n 2, 1) := by decide +kernel
theorem dX1_standAgain_22 : decode cX1_standAgain 22 = .ok (.invokevirtual 54, 3) := by decide +kernel
theorem dX1_standAgain_25 : decode cX1_standAgain 25 = .ok (.iload_n 1, 1) := by decide +kernel
theorem dX1_standAgain_26 : decode cX1_standAgain 26 = .ok (.if_icmp .le 20, 3) := by decide +kernel
theorem dX1_standAgain_29 : decode cX1_standAgain 29 = .ok (.aload_n 0, 1) := by decide +kernel
theorem dX1_standAgain_30 : decode cX1_standAgain 30 = .ok (.getfield 38, 3) := by decide +kernel
theorem dX1_standAgain_33 : decode cX1_standAgain 33 = .ok (.iload_n 2, 1) := by decide +kernel
theorem dX1_standAgain_34 : decode cX1_standAgain 34 = .ok (.iaload, 1) := by decide +kernel
theorem dX1_standAgain_35 : decode cX1_standAgain 35 = .ok (.iconst 2, 1) := by decide +kernel
theorem dX1_standAgain_36 : decode cX1_standAgain 36 = .ok (.if_icmp .ne 10, 3) := by decide +kernel
theorem dX1_standAgain_39 : decode cX1_standAgain 39 = .ok (.aload_n 0, 1) := by decide +kernel
theorem dX1_standAgain_40 : decode cX1_standAgain 40 = .ok (.getfield 38, 3) := by decide +kernel
theorem dX1_standAgain_43 : decode cX1_standAgain 43 = .ok (.iload_n 2, 1) := by decide +kernel
theorem dX1_standAgain_44 : decode cX1_standAgain 44 = .ok (.iconst 0, 1) := by decide +kernel
theorem dX1_standAgain_45 : decode cX1_standAgain 45 = .ok (.iastore, 1) := by decide +kernel
theorem dX1_standAgain_46 : decode cX1_standAgain 46 = .ok (.iinc 2 1, 3) := by decide +kernel
theorem dX1_standAgain_49 : decode cX1_standAgain 49 = .ok (.goto (-37), 3) := by decide +kernel
theorem dX1_standAgain_52 : decode cX1_standAgain 52 = .ok (.return_, 1) := by decide +kernel
theorem dX2_init_0 : decode cX2_init 0 = .ok (.aload_n 0, 1) := by decide +kernel
theorem dX2_init_1 : decode cX2_init 1 = .ok (.invokespecial 3, 3) := by decide +kernel
theorem dX2_init_4 : decode cX2_init 4 = .ok (.aload_n 0, 1) := by decide +kernel
theorem dX2_init_5 : decode cX2_init 5 = .ok (.bipush 60, 2) := by decide +kernel
theorem dX2_init_7 : decode cX2_init 7 = .ok (.anewarray 9, 3) := by decide +kernel
theorem dX2_init_10 : decode cX2_init 10 = .ok (.putfield 11, 3) := by decide +kernel
theorem dX2_init_13 : decode cX2_init 13 = .ok (.return_, 1) := by decide +kernel
theorem dX2_size_0 : decode cX2_size 0 = .ok (.aload_n 0, 1) := by decide +kernel
theorem dX2_size_1 : decode cX2_size 1 = .ok (.getfield 17, 3) := by decide +kernel
theorem dX2_size_4 : decode cX2_size 4 = .ok (.ireturn, 1) := by decide +kernel
theorem dX2_isFull_0 : decode cX2_isFull 0 = .ok (.aload_n 0, 1) := by decide +kernel
theorem dX2_isFull_1 : decode cX2_isFull 1 = .ok (.getfield 17, 3) := by decide +kernel
theorem dX2_isFull_4 : decode cX2_isFull 4 = .ok (.bipush 60, 2) := by decide +kernel
theorem dX2_isFull_6 : decode cX2_isFull 6 = .ok (.if_icmp .lt 7, 3) := by decide +kernel
theorem dX2_isFull_9 : decode cX2_isFull 9 = .ok (.iconst 1, 1) := by decide +kernel
theorem dX2_isFull_10 : decode cX2_isFull 10 = .ok (.goto 4, 3) := by decide +kernel
theorem dX2_isFull_13 : decode cX2_isFull 13 = .ok (.iconst 0, 1) := by decide +kernel
theorem dX2_isFull_14 : decode cX2_isFull 14 = .ok (.ireturn, 1) := by decide +kernel
theorem dX2_add_0 : decode cX2_add 0 = .ok (.aload_n 0, 1) := by decide +kernel
theorem dX2_add_1 : decode cX2_add 1 = .ok (.getfield 17, 3) := by decide +kernel
theorem dX2_add_4 : decode cX2_add 4 = .ok (.ifCond .lt 12, 3) := by decide +kernel
theorem dX2_add_7 : decode cX2_add 7 = .ok (.aload_n 0, 1) := by decide +kernel
theorem dX2_add_8 : decode cX2_add 8 = .ok (.getfield 17, 3) := by decide +kernel
theorem dX2_add_11 : decode cX2_add 11 = .ok (.bipush 60, 2) := by decide +kernel
theorem dX2_add_13 : decode cX2_add 13 = .ok (.if_icmp .lt 6, 3) := by decide +kernel
theorem dX2_add_16 : decode cX2_add 16 = .ok (.bipush (-3), 2) := by decide +kernel
theorem dX2_add_18 : decode cX2_add 18 = .ok (.ireturn, 1) := by decide +kernel
theorem dX2_add_19 : decode cX2_add 19 = .ok (.aload_n 0, 1) := by decide +kernel
theorem dX2_add_20 : decode cX2_add 20 = .ok (.getfield 11, 3) := by decide +kernel
theorem dX2_add_23 : decode cX2_add 23 = .ok (.aload_n 0, 1) := by decide +kernel
theorem dX2_add_24 : decode cX2_add 24 = .ok (.getfield 17, 3) := by decide +kernel
theorem dX2_add_27 : decode cX2_add 27 = .ok (.aload_n 1, 1) := by decide +kernel
theorem dX2_add_28 : decode cX2_add 28 = .ok (.aastore, 1) := by decide +kernel
theorem dX2_add_29 : decode cX2_add 29 = .ok (.aload_n 0, 1) := by decide +kernel
theorem dX2_add_30 : decode cX2_add 30 = .ok (.dup, 1) := by decide +kernel
theorem dX2_add_31 : decode cX2_add 31 = .ok (.getfield 17, 3) := by decide +kernel
theorem dX2_add_34 : decode cX2_add 34 = .ok (.iconst 1, 1) := by decide +kernel
theorem dX2_add_35 : decode cX2_add 35 = .ok (.iadd, 1) := by decide +kernel
theorem dX2_add_36 : decode cX2_add 36 = .ok (.putfield 17, 3) := by decide +kernel
theorem dX2_add_39 : decode cX2_add 39 = .ok (.aload_n 0, 1) := by decide +kernel
theorem dX2_add_40 : decode cX2_add 40 = .ok (.getfield 17, 3) := by decide +kernel
theorem dX2_add_43 : decode cX2_add 43 = .ok (.iconst 1, 1) := by decide +kernel
theorem dX2_add_44 : decode cX2_add 44 = .ok (.isub, 1) := by decide +kernel
theorem dX2_add_45 : decode cX2_add 45 = .ok (.ireturn, 1) := by decide +kernel
theorem dX2_at_0 : decode cX2_at 0 = .ok (.iload_n 1, 1) := by decide +kernel
theorem dX2_at_1 : decode cX2_at 1 = .ok (.ifCond .lt 26, 3) := by decide +kernel
theorem dX2_at_4 : decode cX2_at 4 = .ok (.iload_n 1, 1) := by decide +kernel
theorem dX2_at_5 : decode cX2_at 5 = .ok (.aload_n 0, 1) := by decide +kernel
theorem dX2_at_6 : decode cX2_at 6 = .ok (.getfield 17, 3) := by decide +kernel
theorem dX2_at_9 : decode cX2_at 9 = .ok (.if_icmp .ge 18, 3) := by decide +kernel
theorem dX2_at_12 : decode cX2_at 12 = .ok (.iload_n 1, 1) := by decide +kernel
theorem dX2_at_13 : decode cX2_at 13 = .ok (.bipush 60, 2) := by decide +kernel
theorem dX2_at_15 : decode cX2_at 15 = .ok (.if_icmp .ge 12, 3) := by decide +kernel
theorem dX2_at_18 : decode cX2_at 18 = .ok (.aload_n 0, 1) := by decide +kernel
theorem dX2_at_19 : decode cX2_at 19 = .ok (.getfield 11, 3) := by decide +kernel
theorem dX2_at_22 : decode cX2_at 22 = .ok (.iload_n 1, 1) := by decide +kernel
theorem dX2_at_23 : decode cX2_at 23 = .ok (.aaload, 1) := by decide +kernel
theorem dX2_at_24 : decode cX2_at 24 = .ok (.goto 4, 3) := by decide +kernel
theorem dX2_at_27 : decode cX2_at 27 = .ok (.aconst_null, 1) := by decide +kernel
theorem dX2_at_28 : decode cX2_at 28 = .ok (.areturn, 1) := by decide +kernel
theorem dX2_lapsedNow_0 : decode cX2_lapsedNow 0 = .ok (.iconst 0, 1) := by decide +kernel
theorem dX2_lapsedNow_1 : decode cX2_lapsedNow 1 = .ok (.istore_n 1, 1) := by decide +kernel
theorem dX2_lapsedNow_2 : decode cX2_lapsedNow 2 = .ok (.iconst 0, 1) := by decide +kernel
theorem dX2_lapsedNow_3 : decode cX2_lapsedNow 3 = .ok (.istore_n 2, 1) := by decide +kernel
theorem dX2_lapsedNow_4 : decode cX2_lapsedNow 4 = .ok (.iload_n 2, 1) := by decide +kernel
theorem dX2_lapsedNow_5 : decode cX2_lapsedNow 5 = .ok (.aload_n 0, 1) := by decide +kernel
theorem dX2_lapsedNow_6 : decode cX2_lapsedNow 6 = .ok (.getfield 17, 3) := by decide +kernel
theorem dX2_lapsedNow_9 : decode cX2_lapsedNow 9 = .ok (.if_icmp .ge 29, 3) := by decide +kernel
theorem dX2_lapsedNow_12 : decode cX2_lapsedNow 12 = .ok (.aload_n 0, 1) := by decide +kernel
theorem dX2_lapsedNow_13 : decode cX2_lapsedNow 13 = .ok (.iload_n 2, 1) := by decide +kernel
theorem dX2_lapsedNow_14 : decode cX2_lapsedNow 14 = .ok (.invokevirtual 21, 3) := by decide +kernel
theorem dX2_lapsedNow_17 : decode cX2_lapsedNow 17 = .ok (.astore_n 3, 1) := by decide +kernel
theorem dX2_lapsedNow_18 : decode cX2_lapsedNow 18 = .ok (.aload_n 3, 1) := by decide +kernel
theorem dX2_lapsedNow_19 : decode cX2_lapsedNow 19 = .ok (.ifnull 13, 3) := by decide +kernel
theorem dX2_lapsedNow_22 : decode cX2_lapsedNow 22 = .ok (.aload_n 3, 1) := by decide +kernel
theorem dX2_lapsedNow_23 : decode cX2_lapsedNow 23 = .ok (.invokevirtual 25, 3) := by decide +kernel
theorem dX2_lapsedNow_26 : decode cX2_lapsedNow 26 = .ok (.ifCond .eq 6, 3) := by decide +kernel
theorem dX2_lapsedNow_29 : decode cX2_lapsedNow 29 = .ok (.iinc 1 1, 3) := by decide +kernel
theorem dX2_lapsedNow_32 : decode cX2_lapsedNow 32 = .ok (.iinc 2 1, 3) := by decide +kernel
theorem dX2_lapsedNow_35 : decode cX2_lapsedNow 35 = .ok (.goto (-31), 3) := by decide +kernel
theorem dX2_lapsedNow_38 : decode cX2_lapsedNow 38 = .ok (.iload_n 1, 1) := by decide +kernel
theorem dX2_lapsedNow_39 : decode cX2_lapsedNow 39 = .ok (.ireturn, 1) := by decide +kernel
theorem dX2_lapseAll_0 : decode cX2_lapseAll 0 = .ok (.iconst 0, 1) := by decide +kernel
theorem dX2_lapseAll_1 : decode cX2_lapseAll 1 = .ok (.istore_n 3, 1) := by decide +kernel
theorem dX2_lapseAll_2 : decode cX2_lapseAll 2 = .ok (.iload_n 3, 1) := by decide +kernel
theorem dX2_lapseAll_3 : decode cX2_lapseAll 3 = .ok (.aload_n 0, 1) := by decide +kernel
theorem dX2_lapseAll_4 : decode cX2_lapseAll 4 = .ok (.getfield 17, 3) := by decide +kernel
theorem dX2_lapseAll_7 : decode cX2_lapseAll 7 = .ok (.if_icmp .ge 37, 3) := by decide +kernel
theorem dX2_lapseAll_10 : decode cX2_lapseAll 10 = .ok (.aload_n 0, 1) := by decide +kernel
theorem dX2_lapseAll_11 : decode cX2_lapseAll 11 = .ok (.iload_n 3, 1) := by decide +kernel
theorem dX2_lapseAll_12 : decode cX2_lapseAll 12 = .ok (.invokevirtual 21, 3) := by decide +kernel
theorem dX2_lapseAll_15 : decode cX2_lapseAll 15 = .ok (.astore 4, 2) := by decide +kernel
theorem dX2_lapseAll_17 : decode cX2_lapseAll 17 = .ok (.aload 4, 2) := by decide +kernel
theorem dX2_lapseAll_19 : decode cX2_lapseAll 19 = .ok (.ifnull 19, 3) := by decide +kernel
theorem dX2_lapseAll_22 : decode cX2_lapseAll 22 = .ok (.aload 4, 2) := by decide +kernel
theorem dX2_lapseAll_24 : decode cX2_lapseAll 24 = .ok (.iload_n 1, 1) := by decide +kernel
theorem dX2_lapseAll_25 : decode cX2_lapseAll 25 = .ok (.invokevirtual 29, 3) := by decide +kernel
theorem dX2_lapseAll_28 : decode cX2_lapseAll 28 = .ok (.iload_n 2, 1) := by decide +kernel
theorem dX2_lapseAll_29 : decode cX2_lapseAll 29 = .ok (.if_icmp .lt 9, 3) := by decide +kernel
theorem dX2_lapseAll_32 : decode cX2_lapseAll 32 = .ok (.aload 4, 2) := by decide +kernel
theorem dX2_lapseAll_34 : decode cX2_lapseAll 34 = .ok (.iload_n 1, 1) := by decide +kernel
theorem dX2_lapseAll_35 : decode cX2_lapseAll 35 = .ok (.invokevirtual 33, 3) := by decide +kernel
theorem dX2_lapseAll_38 : decode cX2_lapseAll 38 = .ok (.iinc 3 1, 3) := by decide +kernel
theorem dX2_lapseAll_41 : decode cX2_lapseAll 41 = .ok (.goto (-39), 3) := by decide +kernel
theorem dX2_lapseAll_44 : decode cX2_lapseAll 44 = .ok (.return_, 1) := by decide +kernel
theorem dX2_sureWithin_0 : decode cX2_sureWithin 0 = .ok (.lconst 0, 1) := by decide +kernel
theorem dX2_sureWithin_1 : decode cX2_sureWithin 1 = .ok (.lstore_n 3, 1) := by decide +kernel
theorem dX2_sureWithin_2 : decode cX2_sureWithin 2 = .ok (.lconst 0, 1) := by decide +kernel
theorem dX2_sureWithin_3 : decode cX2_sureWithin 3 = .ok (.lstore 5, 2) := by decide +kernel
theorem dX2_sureWithin_5 : decode cX2_sureWithin 5 = .ok (.lconst 0, 1) := by decide +kernel
theorem dX2_sureWithin_6 : decode cX2_sureWithin 6 = .ok (.lstore 7, 2) := by decide +kernel
theorem dX2_sureWithin_8 : decode cX2_sureWithin 8 = .ok (.iconst 0, 1) := by decide +kernel
theorem dX2_sureWithin_9 : decode cX2_sureWithin 9 = .ok (.istore 9, 2) := by decide +kernel
theorem dX2_sureWithin_11 : decode cX2_sureWithin 11 = .ok (.iload 9, 2) := by decide +kernel
theorem dX2_sureWithin_13 : decode cX2_sureWithin 13 = .ok (.aload_n 0, 1) := by decide +kernel
theorem dX2_sureWithin_14 : decode cX2_sureWithin 14 = .ok (.getfield 17, 3) := by decide +kernel
theorem dX2_sureWithin_17 : decode cX2_sureWithin 17 = .ok (.if_icmp .ge 61, 3) := by decide +kernel
theorem dX2_sureWithin_20 : decode cX2_sureWithin 20 = .ok (.aload_n 0, 1) := by decide +kernel
theorem dX2_sureWithin_21 : decode cX2_sureWithin 21 = .ok (.iload 9, 2) := by decide +kernel
theorem dX2_sureWithin_23 : decode cX2_sureWithin 23 = .ok (.invokevirtual 21, 3) := by decide +kernel
theorem dX2_sureWithin_26 : decode cX2_sureWithin 26 = .ok (.astore 10, 2) := by decide +kernel
theorem dX2_sureWithin_28 : decode cX2_sureWithin 28 = .ok (.aload 10, 2) := by decide +kernel
theorem dX2_sureWithin_30 : decode cX2_sureWithin 30 = .ok (.ifnull 42, 3) := by decide +kernel
theorem dX2_sureWithin_33 : decode cX2_sureWithin 33 = .ok (.lload_n 3, 1) := by decide +kernel
theorem dX2_sureWithin_34 : decode cX2_sureWithin 34 = .ok (.aload 10, 2) := by decide +kernel
theorem dX2_sureWithin_36 : decode cX2_sureWithin 36 = .ok (.iload_n 2, 1) := by decide +kernel
theorem dX2_sureWithin_37 : decode cX2_sureWithin 37 = .ok (.iconst 1, 1) := by decide +kernel
theorem dX2_sureWithin_38 : decode cX2_sureWithin 38 = .ok (.iadd, 1) := by decide +kernel
theorem dX2_sureWithin_39 : decode cX2_sureWithin 39 = .ok (.iload_n 2, 1) := by decide +kernel
theorem dX2_sureWithin_40 : decode cX2_sureWithin 40 = .ok (.iload_n 1, 1) := by decide +kernel
theorem dX2_sureWithin_41 : decode cX2_sureWithin 41 = .ok (.iadd, 1) := by decide +kernel
theorem dX2_sureWithin_42 : decode cX2_sureWithin 42 = .ok (.invokevirtual 37, 3) := by decide +kernel
theorem dX2_sureWithin_45 : decode cX2_sureWithin 45 = .ok (.i2l, 1) := by decide +kernel
theorem dX2_sureWithin_46 : decode cX2_sureWithin 46 = .ok (.ladd, 1) := by decide +kernel
theorem dX2_sureWithin_47 : decode cX2_sureWithin 47 = .ok (.lstore_n 3, 1) := by decide +kernel
theorem dX2_sureWithin_48 : decode cX2_sureWithin 48 = .ok (.lload 5, 2) := by decide +kernel
theorem dX2_sureWithin_50 : decode cX2_sureWithin 50 = .ok (.aload 10, 2) := by decide +kernel
theorem dX2_sureWithin_52 : decode cX2_sureWithin 52 = .ok (.iload_n 2, 1) := by decide +kernel
theorem dX2_sureWithin_53 : decode cX2_sureWithin 53 = .ok (.invokevirtual 41, 3) := by decide +kernel
theorem dX2_sureWithin_56 : decode cX2_sureWithin 56 = .ok (.i2l, 1) := by decide +kernel
theorem dX2_sureWithin_57 : decode cX2_sureWithin 57 = .ok (.ladd, 1) := by decide +kernel
theorem dX2_sureWithin_58 : decode cX2_sureWithin 58 = .ok (.lstore 5, 2) := by decide +kernel
theorem dX2_sureWithin_60 : decode cX2_sureWithin 60 = .ok (.lload 7, 2) := by decide +kernel
theorem dX2_sureWithin_62 : decode cX2_sureWithin 62 = .ok (.aload 10, 2) := by decide +kernel
theorem dX2_sureWithin_64 : decode cX2_sureWithin 64 = .ok (.iload_n 2, 1) := by decide +kernel
theorem dX2_sureWithin_65 : decode cX2_sureWithin 65 = .ok (.invokevirtual 44, 3) := by decide +kernel
theorem dX2_sureWithin_68 : decode cX2_sureWithin 68 = .ok (.i2l, 1) := by decide +kernel
theorem dX2_sureWithin_69 : decode cX2_sureWithin 69 = .ok (.ladd, 1) := by decide +kernel
theorem dX2_sureWithin_70 : decode cX2_sureWithin 70 = .ok (.lstore 7, 2) := by decide +kernel
theorem dX2_sureWithin_72 : decode cX2_sureWithin 72 = .ok (.iinc 9 1, 3) := by decide +kernel
theorem dX2_sureWithin_75 : decode cX2_sureWithin 75 = .ok (.goto (-64), 3) := by decide +kernel
theorem dX2_sureWithin_78 : decode cX2_sureWithin 78 = .ok (.lload 5, 2) := by decide +kernel
theorem dX2_sureWithin_80 : decode cX2_sureWithin 80 = .ok (.lconst 0, 1) := by decide +kernel
theorem dX2_sureWithin_81 : decode cX2_sureWithin 81 = .ok (.lcmp, 1) := by decide +kernel
theorem dX2_sureWithin_82 : decode cX2_sureWithin 82 = .ok (.ifCond .le 14, 3) := by decide +kernel
theorem dX2_sureWithin_85 : decode cX2_sureWithin 85 = .ok (.lload_n 3, 1) := by decide +kernel
theorem dX2_sureWithin_86 : decode cX2_sureWithin 86 = .ok (.lload 7, 2) := by decide +kernel
theorem dX2_sureWithin_88 : decode cX2_sureWithin 88 = .ok (.lmul, 1) := by decide +kernel
theorem dX2_sureWithin_89 : decode cX2_sureWithin 89 = .ok (.lload 5, 2) := by decide +kernel
theorem dX2_sureWithin_91 : decode cX2_sureWithin 91 = .ok (.ldiv, 1) := by decide +kernel
end
section
theorem dX2_sureWithin_92 : decode cX2_sureWithin 92 = .ok (.l2i, 1) := by decide +kernel
theorem dX2_sureWithin_93 : decode cX2_sureWithin 93 = .ok (.goto 4, 3) := by decide +kernel
theorem dX2_sureWithin_96 : decode cX2_sureWithin 96 = .ok (.iconst 0, 1) := by decide +kernel
theorem dX2_sureWithin_97 : decode cX2_sureWithin 97 = .ok (.ireturn, 1) := by decide +kernel
theorem dX3_init_0 : decode cX3_init 0 = .ok (.aload_n 0, 1) := by decide +kernel
theorem dX3_init_1 : decode cX3_init 1 = .ok (.invokespecial 1, 3) := by decide +kernel
theorem dX3_init_4 : decode cX3_init 4 = .ok (.return_, 1) := by decide +kernel
theorem dX3_coin_0 : decode cX3_coin 0 = .ok (.aload_n 0, 1) := by decide +kernel
theorem dX3_coin_1 : decode cX3_coin 1 = .ok (.getfield 7, 3) := by decide +kernel
theorem dX3_coin_4 : decode cX3_coin 4 = .ok (.lreturn, 1) := by decide +kernel
theorem dX3_loan_0 : decode cX3_loan 0 = .ok (.aload_n 0, 1) := by decide +kernel
theorem dX3_loan_1 : decode cX3_loan 1 = .ok (.getfield 13, 3) := by decide +kernel
theorem dX3_loan_4 : decode cX3_loan 4 = .ok (.lreturn, 1) := by decide +kernel
theorem dX3_matched_0 : decode cX3_matched 0 = .ok (.aload_n 0, 1) := by decide +kernel
theorem dX3_matched_1 : decode cX3_matched 1 = .ok (.getfield 16, 3) := by decide +kernel
theorem dX3_matched_4 : decode cX3_matched 4 = .ok (.lreturn, 1) := by decide +kernel
theorem dX3_tax_0 : decode cX3_tax 0 = .ok (.aload_n 0, 1) := by decide +kernel
theorem dX3_tax_1 : decode cX3_tax 1 = .ok (.getfield 19, 3) := by decide +kernel
theorem dX3_tax_4 : decode cX3_tax 4 = .ok (.lreturn, 1) := by decide +kernel
theorem dX3_paidForStages_0 : decode cX3_paidForStages 0 = .ok (.aload_n 0, 1) := by decide +kernel
theorem dX3_paidForStages_1 : decode cX3_paidForStages 1 = .ok (.getfield 22, 3) := by decide +kernel
theorem dX3_paidForStages_4 : decode cX3_paidForStages 4 = .ok (.lreturn, 1) := by decide +kernel
theorem dX3_grown_0 : decode cX3_grown 0 = .ok (.aload_n 0, 1) := by decide +kernel
theorem dX3_grown_1 : decode cX3_grown 1 = .ok (.getfield 25, 3) := by decide +kernel
theorem dX3_grown_4 : decode cX3_grown 4 = .ok (.lreturn, 1) := by decide +kernel
theorem dX3_takeSum_0 : decode cX3_takeSum 0 = .ok (.lconst 0, 1) := by decide +kernel
theorem dX3_takeSum_1 : decode cX3_takeSum 1 = .ok (.lstore 4, 2) := by decide +kernel
theorem dX3_takeSum_3 : decode cX3_takeSum 3 = .ok (.iload_n 2, 1) := by decide +kernel
theorem dX3_takeSum_4 : decode cX3_takeSum 4 = .ok (.aload_n 3, 1) := by decide +kernel
theorem dX3_takeSum_5 : decode cX3_takeSum 5 = .ok (.invokevirtual 28, 3) := by decide +kernel
theorem dX3_takeSum_8 : decode cX3_takeSum 8 = .ok (.if_icmp .gt 42, 3) := by decide +kernel
theorem dX3_takeSum_11 : decode cX3_takeSum 11 = .ok (.iload_n 1, 1) := by decide +kernel
theorem dX3_takeSum_12 : decode cX3_takeSum 12 = .ok (.i2l, 1) := by decide +kernel
theorem dX3_takeSum_13 : decode cX3_takeSum 13 = .ok (.aload_n 3, 1) := by decide +kernel
theorem dX3_takeSum_14 : decode cX3_takeSum 14 = .ok (.invokevirtual 34, 3) := by decide +kernel
theorem dX3_takeSum_17 : decode cX3_takeSum 17 = .ok (.i2l, 1) := by decide +kernel
theorem dX3_takeSum_18 : decode cX3_takeSum 18 = .ok (.lmul, 1) := by decide +kernel
theorem dX3_takeSum_19 : decode cX3_takeSum 19 = .ok (.ldc2_w 37, 3) := by decide +kernel
theorem dX3_takeSum_22 : decode cX3_takeSum 22 = .ok (.ldiv, 1) := by decide +kernel
theorem dX3_takeSum_23 : decode cX3_takeSum 23 = .ok (.lstore 6, 2) := by decide +kernel
theorem dX3_takeSum_25 : decode cX3_takeSum 25 = .ok (.lconst 0, 1) := by decide +kernel
theorem dX3_takeSum_26 : decode cX3_takeSum 26 = .ok (.aload_n 3, 1) := by decide +kernel
theorem dX3_takeSum_27 : decode cX3_takeSum 27 = .ok (.invokevirtual 39, 3) := by decide +kernel
theorem dX3_takeSum_30 : decode cX3_takeSum 30 = .ok (.i2l, 1) := by decide +kernel
theorem dX3_takeSum_31 : decode cX3_takeSum 31 = .ok (.aload_n 0, 1) := by decide +kernel
theorem dX3_takeSum_32 : decode cX3_takeSum 32 = .ok (.getfield 16, 3) := by decide +kernel
theorem dX3_takeSum_35 : decode cX3_takeSum 35 = .ok (.lsub, 1) := by decide +kernel
theorem dX3_takeSum_36 : decode cX3_takeSum 36 = .ok (.invokestatic 42, 3) := by decide +kernel
theorem dX3_takeSum_39 : decode cX3_takeSum 39 = .ok (.lstore 8, 2) := by decide +kernel
theorem dX3_takeSum_41 : decode cX3_takeSum 41 = .ok (.lload 6, 2) := by decide +kernel
theorem dX3_takeSum_43 : decode cX3_takeSum 43 = .ok (.lload 8, 2) := by decide +kernel
theorem dX3_takeSum_45 : decode cX3_takeSum 45 = .ok (.invokestatic 48, 3) := by decide +kernel
theorem dX3_takeSum_48 : decode cX3_takeSum 48 = .ok (.lstore 4, 2) := by decide +kernel
theorem dX3_takeSum_50 : decode cX3_takeSum 50 = .ok (.aload_n 0, 1) := by decide +kernel
theorem dX3_takeSum_51 : decode cX3_takeSum 51 = .ok (.dup, 1) := by decide +kernel
theorem dX3_takeSum_52 : decode cX3_takeSum 52 = .ok (.getfield 16, 3) := by decide +kernel
theorem dX3_takeSum_55 : decode cX3_takeSum 55 = .ok (.lload 4, 2) := by decide +kernel
theorem dX3_takeSum_57 : decode cX3_takeSum 57 = .ok (.ladd, 1) := by decide +kernel
theorem dX3_takeSum_58 : decode cX3_takeSum 58 = .ok (.putfield 16, 3) := by decide +kernel
theorem dX3_takeSum_61 : decode cX3_takeSum 61 = .ok (.aload_n 0, 1) := by decide +kernel
theorem dX3_takeSum_62 : decode cX3_takeSum 62 = .ok (.dup, 1) := by decide +kernel
theorem dX3_takeSum_63 : decode cX3_takeSum 63 = .ok (.getfield 7, 3) := by decide +kernel
theorem dX3_takeSum_66 : decode cX3_takeSum 66 = .ok (.iload_n 1, 1) := by decide +kernel
theorem dX3_takeSum_67 : decode cX3_takeSum 67 = .ok (.i2l, 1) := by decide +kernel
theorem dX3_takeSum_68 : decode cX3_takeSum 68 = .ok (.lload 4, 2) := by decide +kernel
theorem dX3_takeSum_70 : decode cX3_takeSum 70 = .ok (.ladd, 1) := by decide +kernel
theorem dX3_takeSum_71 : decode cX3_takeSum 71 = .ok (.ladd, 1) := by decide +kernel
theorem dX3_takeSum_72 : decode cX3_takeSum 72 = .ok (.putfield 7, 3) := by decide +kernel
theorem dX3_takeSum_75 : decode cX3_takeSum 75 = .ok (.lload 4, 2) := by decide +kernel
theorem dX3_takeSum_77 : decode cX3_takeSum 77 = .ok (.l2i, 1) := by decide +kernel
theorem dX3_takeSum_78 : decode cX3_takeSum 78 = .ok (.ireturn, 1) := by decide +kernel
theorem dX3_takeTax_0 : decode cX3_takeTax 0 = .ok (.aload_n 0, 1) := by decide +kernel
theorem dX3_takeTax_1 : decode cX3_takeTax 1 = .ok (.dup, 1) := by decide +kernel
theorem dX3_takeTax_2 : decode cX3_takeTax 2 = .ok (.getfield 19, 3) := by decide +kernel
theorem dX3_takeTax_5 : decode cX3_takeTax 5 = .ok (.iload_n 1, 1) := by decide +kernel
theorem dX3_takeTax_6 : decode cX3_takeTax 6 = .ok (.i2l, 1) := by decide +kernel
theorem dX3_takeTax_7 : decode cX3_takeTax 7 = .ok (.ladd, 1) := by decide +kernel
theorem dX3_takeTax_8 : decode cX3_takeTax 8 = .ok (.putfield 19, 3) := by decide +kernel
theorem dX3_takeTax_11 : decode cX3_takeTax 11 = .ok (.aload_n 0, 1) := by decide +kernel
theorem dX3_takeTax_12 : decode cX3_takeTax 12 = .ok (.dup, 1) := by decide +kernel
theorem dX3_takeTax_13 : decode cX3_takeTax 13 = .ok (.getfield 7, 3) := by decide +kernel
theorem dX3_takeTax_16 : decode cX3_takeTax 16 = .ok (.iload_n 1, 1) := by decide +kernel
theorem dX3_takeTax_17 : decode cX3_takeTax 17 = .ok (.i2l, 1) := by decide +kernel
theorem dX3_takeTax_18 : decode cX3_takeTax 18 = .ok (.ladd, 1) := by decide +kernel
theorem dX3_takeTax_19 : decode cX3_takeTax 19 = .ok (.putfield 7, 3) := by decide +kernel
theorem dX3_takeTax_22 : decode cX3_takeTax 22 = .ok (.return_, 1) := by decide +kernel
theorem dX3_growLoan_0 : decode cX3_growLoan 0 = .ok (.aload_n 0, 1) := by decide +kernel
theorem dX3_growLoan_1 : decode cX3_growLoan 1 = .ok (.getfield 13, 3) := by decide +kernel
theorem dX3_growLoan_4 : decode cX3_growLoan 4 = .ok (.iload_n 1, 1) := by decide +kernel
theorem dX3_growLoan_5 : decode cX3_growLoan 5 = .ok (.i2l, 1) := by decide +kernel
theorem dX3_growLoan_6 : decode cX3_growLoan 6 = .ok (.lmul, 1) := by decide +kernel
theorem dX3_growLoan_7 : decode cX3_growLoan 7 = .ok (.ldc2_w 51, 3) := by decide +kernel
theorem dX3_growLoan_10 : decode cX3_growLoan 10 = .ok (.ldiv, 1) := by decide +kernel
theorem dX3_growLoan_11 : decode cX3_growLoan 11 = .ok (.lstore_n 2, 1) := by decide +kernel
theorem dX3_growLoan_12 : decode cX3_growLoan 12 = .ok (.aload_n 0, 1) := by decide +kernel
theorem dX3_growLoan_13 : decode cX3_growLoan 13 = .ok (.dup, 1) := by decide +kernel
theorem dX3_growLoan_14 : decode cX3_growLoan 14 = .ok (.getfield 13, 3) := by decide +kernel
theorem dX3_growLoan_17 : decode cX3_growLoan 17 = .ok (.lload_n 2, 1) := by decide +kernel
theorem dX3_growLoan_18 : decode cX3_growLoan 18 = .ok (.ladd, 1) := by decide +kernel
theorem dX3_growLoan_19 : decode cX3_growLoan 19 = .ok (.putfield 13, 3) := by decide +kernel
theorem dX3_growLoan_22 : decode cX3_growLoan 22 = .ok (.aload_n 0, 1) := by decide +kernel
theorem dX3_growLoan_23 : decode cX3_growLoan 23 = .ok (.dup, 1) := by decide +kernel
theorem dX3_growLoan_24 : decode cX3_growLoan 24 = .ok (.getfield 25, 3) := by decide +kernel
theorem dX3_growLoan_27 : decode cX3_growLoan 27 = .ok (.lload_n 2, 1) := by decide +kernel
theorem dX3_growLoan_28 : decode cX3_growLoan 28 = .ok (.ladd, 1) := by decide +kernel
theorem dX3_growLoan_29 : decode cX3_growLoan 29 = .ok (.putfield 25, 3) := by decide +kernel
theorem dX3_growLoan_32 : decode cX3_growLoan 32 = .ok (.return_, 1) := by decide +kernel
theorem dX3_paysPart_0 : decode cX3_paysPart 0 = .ok (.lconst 0, 1) := by decide +kernel
theorem dX3_paysPart_1 : decode cX3_paysPart 1 = .ok (.iload_n 2, 1) := by decide +kernel
theorem dX3_paysPart_2 : decode cX3_paysPart 2 = .ok (.i2l, 1) := by decide +kernel
theorem dX3_paysPart_3 : decode cX3_paysPart 3 = .ok (.aload_n 0, 1) := by decide +kernel
theorem dX3_paysPart_4 : decode cX3_paysPart 4 = .ok (.getfield 13, 3) := by decide +kernel
theorem dX3_paysPart_7 : decode cX3_paysPart 7 = .ok (.lsub, 1) := by decide +kernel
theorem dX3_paysPart_8 : decode cX3_paysPart 8 = .ok (.invokestatic 42, 3) := by decide +kernel
theorem dX3_paysPart_11 : decode cX3_paysPart 11 = .ok (.lstore_n 3, 1) := by decide +kernel
theorem dX3_paysPart_12 : decode cX3_paysPart 12 = .ok (.aload_n 0, 1) := by decide +kernel
theorem dX3_paysPart_13 : decode cX3_paysPart 13 = .ok (.getfield 7, 3) := by decide +kernel
theorem dX3_paysPart_16 : decode cX3_paysPart 16 = .ok (.lload_n 3, 1) := by decide +kernel
theorem dX3_paysPart_17 : decode cX3_paysPart 17 = .ok (.ladd, 1) := by decide +kernel
theorem dX3_paysPart_18 : decode cX3_paysPart 18 = .ok (.iload_n 1, 1) := by decide +kernel
theorem dX3_paysPart_19 : decode cX3_paysPart 19 = .ok (.i2l, 1) := by decide +kernel
theorem dX3_paysPart_20 : decode cX3_paysPart 20 = .ok (.lcmp, 1) := by decide +kernel
theorem dX3_paysPart_21 : decode cX3_paysPart 21 = .ok (.ifCond .ge 5, 3) := by decide +kernel
theorem dX3_paysPart_24 : decode cX3_paysPart 24 = .ok (.iconst 0, 1) := by decide +kernel
theorem dX3_paysPart_25 : decode cX3_paysPart 25 = .ok (.ireturn, 1) := by decide +kernel
theorem dX3_paysPart_26 : decode cX3_paysPart 26 = .ok (.lconst 0, 1) := by decide +kernel
theorem dX3_paysPart_27 : decode cX3_paysPart 27 = .ok (.iload_n 1, 1) := by decide +kernel
theorem dX3_paysPart_28 : decode cX3_paysPart 28 = .ok (.i2l, 1) := by decide +kernel
theorem dX3_paysPart_29 : decode cX3_paysPart 29 = .ok (.aload_n 0, 1) := by decide +kernel
theorem dX3_paysPart_30 : decode cX3_paysPart 30 = .ok (.getfield 7, 3) := by decide +kernel
theorem dX3_paysPart_33 : decode cX3_paysPart 33 = .ok (.lsub, 1) := by decide +kernel
theorem dX3_paysPart_34 : decode cX3_paysPart 34 = .ok (.invokestatic 42, 3) := by decide +kernel
theorem dX3_paysPart_37 : decode cX3_paysPart 37 = .ok (.lstore 5, 2) := by decide +kernel
theorem dX3_paysPart_39 : decode cX3_paysPart 39 = .ok (.aload_n 0, 1) := by decide +kernel
theorem dX3_paysPart_40 : decode cX3_paysPart 40 = .ok (.dup, 1) := by decide +kernel
theorem dX3_paysPart_41 : decode cX3_paysPart 41 = .ok (.getfield 13, 3) := by decide +kernel
theorem dX3_paysPart_44 : decode cX3_paysPart 44 = .ok (.lload 5, 2) := by decide +kernel
theorem dX3_paysPart_46 : decode cX3_paysPart 46 = .ok (.ladd, 1) := by decide +kernel
theorem dX3_paysPart_47 : decode cX3_paysPart 47 = .ok (.putfield 13, 3) := by decide +kernel
theorem dX3_paysPart_50 : decode cX3_paysPart 50 = .ok (.aload_n 0, 1) := by decide +kernel
theorem dX3_paysPart_51 : decode cX3_paysPart 51 = .ok (.dup, 1) := by decide +kernel
theorem dX3_paysPart_52 : decode cX3_paysPart 52 = .ok (.getfield 7, 3) := by decide +kernel
theorem dX3_paysPart_55 : decode cX3_paysPart 55 = .ok (.lload 5, 2) := by decide +kernel
theorem dX3_paysPart_57 : decode cX3_paysPart 57 = .ok (.iload_n 1, 1) := by decide +kernel
theorem dX3_paysPart_58 : decode cX3_paysPart 58 = .ok (.i2l, 1) := by decide +kernel
theorem dX3_paysPart_59 : decode cX3_paysPart 59 = .ok (.lsub, 1) := by decide +kernel
theorem dX3_paysPart_60 : decode cX3_paysPart 60 = .ok (.ladd, 1) := by decide +kernel
theorem dX3_paysPart_61 : decode cX3_paysPart 61 = .ok (.putfield 7, 3) := by decide +kernel
theorem dX3_paysPart_64 : decode cX3_paysPart 64 = .ok (.aload_n 0, 1) := by decide +kernel
theorem dX3_paysPart_65 : decode cX3_paysPart 65 = .ok (.dup, 1) := by decide +kernel
theorem dX3_paysPart_66 : decode cX3_paysPart 66 = .ok (.getfield 22, 3) := by decide +kernel
theorem dX3_paysPart_69 : decode cX3_paysPart 69 = .ok (.iload_n 1, 1) := by decide +kernel
theorem dX3_paysPart_70 : decode cX3_paysPart 70 = .ok (.i2l, 1) := by decide +kernel
theorem dX3_paysPart_71 : decode cX3_paysPart 71 = .ok (.ladd, 1) := by decide +kernel
theorem dX3_paysPart_72 : decode cX3_paysPart 72 = .ok (.putfield 22, 3) := by decide +kernel
theorem dX3_paysPart_75 : decode cX3_paysPart 75 = .ok (.iconst 1, 1) := by decide +kernel
theorem dX3_paysPart_76 : decode cX3_paysPart 76 = .ok (.ireturn, 1) := by decide +kernel
theorem dX3_payBackLoan_0 : decode cX3_payBackLoan 0 = .ok (.aload_n 0, 1) := by decide +kernel
theorem dX3_payBackLoan_1 : decode cX3_payBackLoan 1 = .ok (.getfield 7, 3) := by decide +kernel
theorem dX3_payBackLoan_4 : decode cX3_payBackLoan 4 = .ok (.aload_n 0, 1) := by decide +kernel
theorem dX3_payBackLoan_5 : decode cX3_payBackLoan 5 = .ok (.getfield 13, 3) := by decide +kernel
theorem dX3_payBackLoan_8 : decode cX3_payBackLoan 8 = .ok (.invokestatic 48, 3) := by decide +kernel
theorem dX3_payBackLoan_11 : decode cX3_payBackLoan 11 = .ok (.lstore_n 1, 1) := by decide +kernel
theorem dX3_payBackLoan_12 : decode cX3_payBackLoan 12 = .ok (.aload_n 0, 1) := by decide +kernel
theorem dX3_payBackLoan_13 : decode cX3_payBackLoan 13 = .ok (.dup, 1) := by decide +kernel
theorem dX3_payBackLoan_14 : decode cX3_payBackLoan 14 = .ok (.getfield 7, 3) := by decide +kernel
theorem dX3_payBackLoan_17 : decode cX3_payBackLoan 17 = .ok (.lload_n 1, 1) := by decide +kernel
theorem dX3_payBackLoan_18 : decode cX3_payBackLoan 18 = .ok (.lsub, 1) := by decide +kernel
theorem dX3_payBackLoan_19 : decode cX3_payBackLoan 19 = .ok (.putfield 7, 3) := by decide +kernel
theorem dX3_payBackLoan_22 : decode cX3_payBackLoan 22 = .ok (.aload_n 0, 1) := by decide +kernel
theorem dX3_payBackLoan_23 : decode cX3_payBackLoan 23 = .ok (.dup, 1) := by decide +kernel
theorem dX3_payBackLoan_24 : decode cX3_payBackLoan 24 = .ok (.getfield 13, 3) := by decide +kernel
theorem dX3_payBackLoan_27 : decode cX3_payBackLoan 27 = .ok (.lload_n 1, 1) := by decide +kernel
theorem dX3_payBackLoan_28 : decode cX3_payBackLoan 28 = .ok (.lsub, 1) := by decide +kernel
theorem dX3_payBackLoan_29 : decode cX3_payBackLoan 29 = .ok (.putfield 13, 3) := by decide +kernel
theorem dX3_payBackLoan_32 : decode cX3_payBackLoan 32 = .ok (.return_, 1) := by decide +kernel
theorem dX3_giveBack_0 : decode cX3_giveBack 0 = .ok (.aload_n 0, 1) := by decide +kernel
theorem dX3_giveBack_1 : decode cX3_giveBack 1 = .ok (.dup, 1) := by decide +kernel
theorem dX3_giveBack_2 : decode cX3_giveBack 2 = .ok (.getfield 7, 3) := by decide +kernel
theorem dX3_giveBack_5 : decode cX3_giveBack 5 = .ok (.iload_n 1, 1) := by decide +kernel
theorem dX3_giveBack_6 : decode cX3_giveBack 6 = .ok (.i2l, 1) := by decide +kernel
theorem dX3_giveBack_7 : decode cX3_giveBack 7 = .ok (.lsub, 1) := by decide +kernel
theorem dX3_giveBack_8 : decode cX3_giveBack 8 = .ok (.putfield 7, 3) := by decide +kernel
theorem dX3_giveBack_11 : decode cX3_giveBack 11 = .ok (.return_, 1) := by decide +kernel
theorem dX4_init_0 : decode cX4_init 0 = .ok (.aload_n 0, 1) := by decide +kernel
theorem dX4_init_1 : decode cX4_init 1 = .ok (.invokespecial 1, 3) := by decide +kernel
theorem dX4_init_4 : decode cX4_init 4 = .ok (.aload_n 0, 1) := by decide +kernel
theorem dX4_init_5 : decode cX4_init 5 = .ok (.iconst 0, 1) := by decide +kernel
theorem dX4_init_6 : decode cX4_init 6 = .ok (.putfield 9, 3) := by decide +kernel
theorem dX4_init_9 : decode cX4_init 9 = .ok (.aload_n 0, 1) := by decide +kernel
theorem dX4_init_10 : decode cX4_init 10 = .ok (.iload_n 1, 1) := by decide +kernel
theorem dX4_init_11 : decode cX4_init 11 = .ok (.putfield 13, 3) := by decide +kernel
theorem dX4_init_14 : decode cX4_init 14 = .ok (.aload_n 0, 1) := by decide +kernel
theorem dX4_init_15 : decode cX4_init 15 = .ok (.iload_n 2, 1) := by decide +kernel
theorem dX4_init_16 : decode cX4_init 16 = .ok (.putfield 16, 3) := by decide +kernel
theorem dX4_init_19 : decode cX4_init 19 = .ok (.return_, 1) := by decide +kernel
theorem dX4_cost_0 : decode cX4_cost 0 = .ok (.aload_n 0, 1) := by decide +kernel
theorem dX4_cost_1 : decode cX4_cost 1 = .ok (.getfield 13, 3) := by decide +kernel
theorem dX4_cost_4 : decode cX4_cost 4 = .ok (.ireturn, 1) := by decide +kernel
theorem dX4_parts_0 : decode cX4_parts 0 = .ok (.aload_n 0, 1) := by decide +kernel
theorem dX4_parts_1 : decode cX4_parts 1 = .ok (.getfield 16, 3) := by decide +kernel
theorem dX4_parts_4 : decode cX4_parts 4 = .ok (.ireturn, 1) := by decide +kernel
theorem dX4_progress_0 : decode cX4_progress 0 = .ok (.aload_n 0, 1) := by decide +kernel
theorem dX4_progress_1 : decode cX4_progress 1 = .ok (.getfield 9, 3) := by decide +kernel
theorem dX4_progress_4 : decode cX4_progress 4 = .ok (.ireturn, 1) := by decide +kernel
theorem dX4_paid_0 : decode cX4_paid 0 = .ok (.aload_n 0, 1) := by decide +kernel
theorem dX4_paid_1 : decode cX4_paid 1 = .ok (.getfield 19, 3) := by decide +kernel
theorem dX4_paid_4 : decode cX4_paid 4 = .ok (.ireturn, 1) := by decide +kernel
theorem dX4_paused_0 : decode cX4_paused 0 = .ok (.aload_n 0, 1) := by decide +kernel
theorem dX4_paused_1 : decode cX4_paused 1 = .ok (.getfield 22, 3) := by decide +kernel
theorem dX4_paused_4 : decode cX4_paused 4 = .ok (.ireturn, 1) := by decide +kernel
theorem dX4_runs_0 : decode cX4_runs 0 = .ok (.aload_n 0, 1) := by decide +kernel
theorem dX4_runs_1 : decode cX4_runs 1 = .ok (.getfield 9, 3) := by decide +kernel
theorem dX4_runs_4 : decode cX4_runs 4 = .ok (.iconst 1, 1) := by decide +kernel
theorem dX4_runs_5 : decode cX4_runs 5 = .ok (.if_icmp .ne 7, 3) := by decide +kernel
theorem dX4_runs_8 : decode cX4_runs 8 = .ok (.iconst 1, 1) := by decide +kernel
theorem dX4_runs_9 : decode cX4_runs 9 = .ok (.goto 4, 3) := by decide +kernel
theorem dX4_runs_12 : decode cX4_runs 12 = .ok (.iconst 0, 1) := by decide +kernel
theorem dX4_runs_13 : decode cX4_runs 13 = .ok (.ireturn, 1) := by decide +kernel
theorem dX4_start_0 : decode cX4_start 0 = .ok (.aload_n 0, 1) := by decide +kernel
theorem dX4_start_1 : decode cX4_start 1 = .ok (.iconst 1, 1) := by decide +kernel
theorem dX4_start_2 : decode cX4_start 2 = .ok (.putfield 9, 3) := by decide +kernel
theorem dX4_start_5 : decode cX4_start 5 = .ok (.return_, 1) := by decide +kernel
theorem dX4_nextPart_0 : decode cX4_nextPart 0 = .ok (.aload_n 0, 1) := by decide +kernel
theorem dX4_nextPart_1 : decode cX4_nextPart 1 = .ok (.getfield 25, 3) := by decide +kernel
theorem dX4_nextPart_4 : decode cX4_nextPart 4 = .ok (.aload_n 0, 1) := by decide +kernel
theorem dX4_nextPart_5 : decode cX4_nextPart 5 = .ok (.getfield 16, 3) := by decide +kernel
theorem dX4_nextPart_8 : decode cX4_nextPart 8 = .ok (.iconst 1, 1) := by decide +kernel
theorem dX4_nextPart_9 : decode cX4_nextPart 9 = .ok (.isub, 1) := by decide +kernel
theorem dX4_nextPart_10 : decode cX4_nextPart 10 = .ok (.if_icmp .ge 11, 3) := by decide +kernel
theorem dX4_nextPart_13 : decode cX4_nextPart 13 = .ok (.aload_n 0, 1) := by decide +kernel
theorem dX4_nextPart_14 : decode cX4_nextPart 14 = .ok (.getfield 16, 3) := by decide +kernel
theorem dX4_nextPart_17 : decode cX4_nextPart 17 = .ok (.iconst 1, 1) := by decide +kernel
theorem dX4_nextPart_18 : decode cX4_nextPart 18 = .ok (.if_icmp .ge 13, 3) := by decide +kernel
theorem dX4_nextPart_21 : decode cX4_nextPart 21 = .ok (.aload_n 0, 1) := by decide +kernel
theorem dX4_nextPart_22 : decode cX4_nextPart 22 = .ok (.getfield 13, 3) := by decide +kernel
theorem dX4_nextPart_25 : decode cX4_nextPart 25 = .ok (.aload_n 0, 1) := by decide +kernel
theorem dX4_nextPart_26 : decode cX4_nextPart 26 = .ok (.getfield 19, 3) := by decide +kernel
theorem dX4_nextPart_29 : decode cX4_nextPart 29 = .ok (.isub, 1) := by decide +kernel
theorem dX4_nextPart_30 : decode cX4_nextPart 30 = .ok (.ireturn, 1) := by decide +kernel
theorem dX4_nextPart_31 : decode cX4_nextPart 31 = .ok (.aload_n 0, 1) := by decide +kernel
theorem dX4_nextPart_32 : decode cX4_nextPart 32 = .ok (.getfield 13, 3) := by decide +kernel
theorem dX4_nextPart_35 : decode cX4_nextPart 35 = .ok (.aload_n 0, 1) := by decide +kernel
theorem dX4_nextPart_36 : decode cX4_nextPart 36 = .ok (.getfield 16, 3) := by decide +kernel
theorem dX4_nextPart_39 : decode cX4_nextPart 39 = .ok (.idiv, 1) := by decide +kernel
theorem dX4_nextPart_40 : decode cX4_nextPart 40 = .ok (.ireturn, 1) := by decide +kernel
theorem dX4_bookPart_0 : decode cX4_bookPart 0 = .ok (.aload_n 0, 1) := by decide +kernel
theorem dX4_bookPart_1 : decode cX4_bookPart 1 = .ok (.dup, 1) := by decide +kernel
theorem dX4_bookPart_2 : decode cX4_bookPart 2 = .ok (.getfield 19, 3) := by decide +kernel
theorem dX4_bookPart_5 : decode cX4_bookPart 5 = .ok (.iload_n 1, 1) := by decide +kernel
theorem dX4_bookPart_6 : decode cX4_bookPart 6 = .ok (.iadd, 1) := by decide +kernel
theorem dX4_bookPart_7 : decode cX4_bookPart 7 = .ok (.putfield 19, 3) := by decide +kernel
theorem dX4_bookPart_10 : decode cX4_bookPart 10 = .ok (.aload_n 0, 1) := by decide +kernel
theorem dX4_bookPart_11 : decode cX4_bookPart 11 = .ok (.dup, 1) := by decide +kernel
theorem dX4_bookPart_12 : decode cX4_bookPart 12 = .ok (.getfield 25, 3) := by decide +kernel
theorem dX4_bookPart_15 : decode cX4_bookPart 15 = .ok (.iconst 1, 1) := by decide +kernel
theorem dX4_bookPart_16 : decode cX4_bookPart 16 = .ok (.iadd, 1) := by decide +kernel
theorem dX4_bookPart_17 : decode cX4_bookPart 17 = .ok (.putfield 25, 3) := by decide +kernel
theorem dX4_bookPart_20 : decode cX4_bookPart 20 = .ok (.aload_n 0, 1) := by decide +kernel
theorem dX4_bookPart_21 : decode cX4_bookPart 21 = .ok (.getfield 25, 3) := by decide +kernel
theorem dX4_bookPart_24 : decode cX4_bookPart 24 = .ok (.aload_n 0, 1) := by decide +kernel
theorem dX4_bookPart_25 : decode cX4_bookPart 25 = .ok (.getfield 16, 3) := by decide +kernel
theorem dX4_bookPart_28 : decode cX4_bookPart 28 = .ok (.if_icmp .lt 8, 3) := by decide +kernel
theorem dX4_bookPart_31 : decode cX4_bookPart 31 = .ok (.aload_n 0, 1) := by decide +kernel
theorem dX4_bookPart_32 : decode cX4_bookPart 32 = .ok (.iconst 2, 1) := by decide +kernel
theorem dX4_bookPart_33 : decode cX4_bookPart 33 = .ok (.putfield 9, 3) := by decide +kernel
theorem dX4_bookPart_36 : decode cX4_bookPart 36 = .ok (.return_, 1) := by decide +kernel
theorem dX4_bookPause_0 : decode cX4_bookPause 0 = .ok (.aload_n 0, 1) := by decide +kernel
theorem dX4_bookPause_1 : decode cX4_bookPause 1 = .ok (.dup, 1) := by decide +kernel
theorem dX4_bookPause_2 : decode cX4_bookPause 2 = .ok (.getfield 22, 3) := by decide +kernel
theorem dX4_bookPause_5 : decode cX4_bookPause 5 = .ok (.iconst 1, 1) := by decide +kernel
theorem dX4_bookPause_6 : decode cX4_bookPause 6 = .ok (.iadd, 1) := by decide +kernel
theorem dX4_bookPause_7 : decode cX4_bookPause 7 = .ok (.putfield 22, 3) := by decide +kernel
theorem dX4_bookPause_10 : decode cX4_bookPause 10 = .ok (.return_, 1) := by decide +kernel
theorem dX5_init_0 : decode cX5_init 0 = .ok (.aload_n 0, 1) := by decide +kernel
theorem dX5_init_1 : decode cX5_init 1 = .ok (.invokespecial 3, 3) := by decide +kernel
theorem dX5_init_4 : decode cX5_init 4 = .ok (.aload_n 0, 1) := by decide +kernel
theorem dX5_init_5 : decode cX5_init 5 = .ok (.sipush 250, 3) := by decide +kernel
theorem dX5_init_8 : decode cX5_init 8 = .ok (.newarray .int, 2) := by decide +kernel
theorem dX5_init_10 : decode cX5_init 10 = .ok (.putfield 9, 3) := by decide +kernel
theorem dX5_init_13 : decode cX5_init 13 = .ok (.aload_n 0, 1) := by decide +kernel
theorem dX5_init_14 : decode cX5_init 14 = .ok (.sipush 250, 3) := by decide +kernel
theorem dX5_init_17 : decode cX5_init 17 = .ok (.newarray .int, 2) := by decide +kernel
theorem dX5_init_19 : decode cX5_init 19 = .ok (.putfield 15, 3) := by decide +kernel
theorem dX5_init_22 : decode cX5_init 22 = .ok (.aload_n 0, 1) := by decide +kernel
theorem dX5_init_23 : decode cX5_init 23 = .ok (.sipush 250, 3) := by decide +kernel
theorem dX5_init_26 : decode cX5_init 26 = .ok (.newarray .int, 2) := by decide +kernel
theorem dX5_init_28 : decode cX5_init 28 = .ok (.putfield 18, 3) := by decide +kernel
theorem dX5_init_31 : decode cX5_init 31 = .ok (.aload_n 0, 1) := by decide +kernel
theorem dX5_init_32 : decode cX5_init 32 = .ok (.sipush 250, 3) := by decide +kernel
theorem dX5_init_35 : decode cX5_init 35 = .ok (.newarray .boolean, 2) := by decide +kernel
theorem dX5_init_37 : decode cX5_init 37 = .ok (.putfield 21, 3) := by decide +kernel
theorem dX5_init_40 : decode cX5_init 40 = .ok (.return_, 1) := by decide +kernel
theorem dX5_size_0 : decode cX5_size 0 = .ok (.aload_n 0, 1) := by decide +kernel
theorem dX5_size_1 : decode cX5_size 1 = .ok (.getfield 25, 3) := by decide +kernel
theorem dX5_size_4 : decode cX5_size 4 = .ok (.ireturn, 1) := by decide +kernel
theorem dX5_total_0 : decode cX5_total 0 = .ok (.aload_n 0, 1) := by decide +kernel
theorem dX5_total_1 : decode cX5_total 1 = .ok (.getfield 29, 3) := by decide +kernel
theorem dX5_total_4 : decode cX5_total 4 = .ok (.lreturn, 1) := by decide +kernel
theorem dX5_isFull_0 : decode cX5_isFull 0 = .ok (.aload_n 0, 1) := by decide +kernel
theorem dX5_isFull_1 : decode cX5_isFull 1 = .ok (.getfield 25, 3) := by decide +kernel
theorem dX5_isFull_4 : decode cX5_isFull 4 = .ok (.sipush 250, 3) := by decide +kernel
theorem dX5_isFull_7 : decode cX5_isFull 7 = .ok (.if_icmp .lt 7, 3) := by decide +kernel
theorem dX5_isFull_10 : decode cX5_isFull 10 = .ok (.iconst 1, 1) := by decide +kernel
theorem dX5_isFull_11 : decode cX5_isFull 11 = .ok (.goto 4, 3) := by decide +kernel
theorem dX5_isFull_14 : decode cX5_isFull 14 = .ok (.iconst 0, 1) := by decide +kernel
theorem dX5_isFull_15 : decode cX5_isFull 15 = .ok (.ireturn, 1) := by decide +kernel
theorem dX5_add_0 : decode cX5_add 0 = .ok (.aload_n 0, 1) := by decide +kernel
theorem dX5_add_1 : decode cX5_add 1 = .ok (.getfield 25, 3) := by decide +kernel
theorem dX5_add_4 : decode cX5_add 4 = .ok (.ifCond .lt 64, 3) := by decide +kernel
theorem dX5_add_7 : decode cX5_add 7 = .ok (.aload_n 0, 1) := by decide +kernel
theorem dX5_add_8 : decode cX5_add 8 = .ok (.getfield 25, 3) := by decide +kernel
theorem dX5_add_11 : decode cX5_add 11 = .ok (.sipush 250, 3) := by decide +kernel
theorem dX5_add_14 : decode cX5_add 14 = .ok (.if_icmp .ge 54, 3) := by decide +kernel
theorem dX5_add_17 : decode cX5_add 17 = .ok (.aload_n 0, 1) := by decide +kernel
theorem dX5_add_18 : decode cX5_add 18 = .ok (.getfield 9, 3) := by decide +kernel
theorem dX5_add_21 : decode cX5_add 21 = .ok (.aload_n 0, 1) := by decide +kernel
theorem dX5_add_22 : decode cX5_add 22 = .ok (.getfield 25, 3) := by decide +kernel
theorem dX5_add_25 : decode cX5_add 25 = .ok (.iload_n 1, 1) := by decide +kernel
theorem dX5_add_26 : decode cX5_add 26 = .ok (.iastore, 1) := by decide +kernel
theorem dX5_add_27 : decode cX5_add 27 = .ok (.aload_n 0, 1) := by decide +kernel
theorem dX5_add_28 : decode cX5_add 28 = .ok (.getfield 15, 3) := by decide +kernel
theorem dX5_add_31 : decode cX5_add 31 = .ok (.aload_n 0, 1) := by decide +kernel
theorem dX5_add_32 : decode cX5_add 32 = .ok (.getfield 25, 3) := by decide +kernel
theorem dX5_add_35 : decode cX5_add 35 = .ok (.iload_n 2, 1) := by decide +kernel
theorem dX5_add_36 : decode cX5_add 36 = .ok (.iastore, 1) := by decide +kernel
theorem dX5_add_37 : decode cX5_add 37 = .ok (.aload_n 0, 1) := by decide +kernel
theorem dX5_add_38 : decode cX5_add 38 = .ok (.getfield 18, 3) := by decide +kernel
theorem dX5_add_41 : decode cX5_add 41 = .ok (.aload_n 0, 1) := by decide +kernel
theorem dX5_add_42 : decode cX5_add 42 = .ok (.getfield 25, 3) := by decide +kernel
theorem dX5_add_45 : decode cX5_add 45 = .ok (.iload_n 3, 1) := by decide +kernel
theorem dX5_add_46 : decode cX5_add 46 = .ok (.iastore, 1) := by decide +kernel
theorem dX5_add_47 : decode cX5_add 47 = .ok (.aload_n 0, 1) := by decide +kernel
theorem dX5_add_48 : decode cX5_add 48 = .ok (.dup, 1) := by decide +kernel
theorem dX5_add_49 : decode cX5_add 49 = .ok (.getfield 25, 3) := by decide +kernel
theorem dX5_add_52 : decode cX5_add 52 = .ok (.iconst 1, 1) := by decide +kernel
theorem dX5_add_53 : decode cX5_add 53 = .ok (.iadd, 1) := by decide +kernel
theorem dX5_add_54 : decode cX5_add 54 = .ok (.putfield 25, 3) := by decide +kernel
theorem dX5_add_57 : decode cX5_add 57 = .ok (.aload_n 0, 1) := by decide +kernel
theorem dX5_add_58 : decode cX5_add 58 = .ok (.dup, 1) := by decide +kernel
theorem dX5_add_59 : decode cX5_add 59 = .ok (.getfield 29, 3) := by decide +kernel
theorem dX5_add_62 : decode cX5_add 62 = .ok (.iload_n 2, 1) := by decide +kernel
theorem dX5_add_63 : decode cX5_add 63 = .ok (.i2l, 1) := by decide +kernel
theorem dX5_add_64 : decode cX5_add 64 = .ok (.ladd, 1) := by decide +kernel
theorem dX5_add_65 : decode cX5_add 65 = .ok (.putfield 29, 3) := by decide +kernel
theorem dX5_add_68 : decode cX5_add 68 = .ok (.return_, 1) := by decide +kernel
theorem dX5_giverOf_0 : decode cX5_giverOf 0 = .ok (.iload_n 1, 1) := by decide +kernel
theorem dX5_giverOf_1 : decode cX5_giverOf 1 = .ok (.ifCond .lt 27, 3) := by decide +kernel
theorem dX5_giverOf_4 : decode cX5_giverOf 4 = .ok (.iload_n 1, 1) := by decide +kernel
theorem dX5_giverOf_5 : decode cX5_giverOf 5 = .ok (.aload_n 0, 1) := by decide +kernel
theorem dX5_giverOf_6 : decode cX5_giverOf 6 = .ok (.getfield 25, 3) := by decide +kernel
theorem dX5_giverOf_9 : decode cX5_giverOf 9 = .ok (.if_icmp .ge 19, 3) := by decide +kernel
theorem dX5_giverOf_12 : decode cX5_giverOf 12 = .ok (.iload_n 1, 1) := by decide +kernel
theorem dX5_giverOf_13 : decode cX5_giverOf 13 = .ok (.sipush 250, 3) := by decide +kernel
theorem dX5_giverOf_16 : decode cX5_giverOf 16 = .ok (.if_icmp .ge 12, 3) := by decide +kernel
theorem dX5_giverOf_19 : decode cX5_giverOf 19 = .ok (.aload_n 0, 1) := by decide +kernel
theorem dX5_giverOf_20 : decode cX5_giverOf 20 = .ok (.getfield 9, 3) := by decide +kernel
theorem dX5_giverOf_23 : decode cX5_giverOf 23 = .ok (.iload_n 1, 1) := by decide +kernel
theorem dX5_giverOf_24 : decode cX5_giverOf 24 = .ok (.iaload, 1) := by decide +kernel
theorem dX5_giverOf_25 : decode cX5_giverOf 25 = .ok (.goto 4, 3) := by decide +kernel
theorem dX5_giverOf_28 : decode cX5_giverOf 28 = .ok (.iconst (-1), 1) := by decide +kernel
theorem dX5_giverOf_29 : decode cX5_giverOf 29 = .ok (.ireturn, 1) := by decide +kernel
theorem dX5_penceOf_0 : decode cX5_penceOf 0 = .ok (.iload_n 1, 1) := by decide +kernel
theorem dX5_penceOf_1 : decode cX5_penceOf 1 = .ok (.ifCond .lt 27, 3) := by decide +kernel
theorem dX5_penceOf_4 : decode cX5_penceOf 4 = .ok (.iload_n 1, 1) := by decide +kernel
theorem dX5_penceOf_5 : decode cX5_penceOf 5 = .ok (.aload_n 0, 1) := by decide +kernel
theorem dX5_penceOf_6 : decode cX5_penceOf 6 = .ok (.getfield 25, 3) := by decide +kernel
theorem dX5_penceOf_9 : decode cX5_penceOf 9 = .ok (.if_icmp .ge 19, 3) := by decide +kernel
theorem dX5_penceOf_12 : decode cX5_penceOf 12 = .ok (.iload_n 1, 1) := by decide +kernel
theorem dX5_penceOf_13 : decode cX5_penceOf 13 = .ok (.sipush 250, 3) := by decide +kernel
theorem dX5_penceOf_16 : decode cX5_penceOf 16 = .ok (.if_icmp .ge 12, 3) := by decide +kernel
theorem dX5_penceOf_19 : decode cX5_penceOf 19 = .ok (.aload_n 0, 1) := by decide +kernel
theorem dX5_penceOf_20 : decode cX5_penceOf 20 = .ok (.getfield 15, 3) := by decide +kernel
theorem dX5_penceOf_23 : decode cX5_penceOf 23 = .ok (.iload_n 1, 1) := by decide +kernel
theorem dX5_penceOf_24 : decode cX5_penceOf 24 = .ok (.iaload, 1) := by decide +kernel
theorem dX5_penceOf_25 : decode cX5_penceOf 25 = .ok (.goto 4, 3) := by decide +kernel
theorem dX5_penceOf_28 : decode cX5_penceOf 28 = .ok (.iconst 0, 1) := by decide +kernel
theorem dX5_penceOf_29 : decode cX5_penceOf 29 = .ok (.ireturn, 1) := by decide +kernel
theorem dX5_givenBy_0 : decode cX5_givenBy 0 = .ok (.iconst 0, 1) := by decide +kernel
theorem dX5_givenBy_1 : decode cX5_givenBy 1 = .ok (.istore_n 2, 1) := by decide +kernel
theorem dX5_givenBy_2 : decode cX5_givenBy 2 = .ok (.iconst 0, 1) := by decide +kernel
theorem dX5_givenBy_3 : decode cX5_givenBy 3 = .ok (.istore_n 3, 1) := by decide +kernel
theorem dX5_givenBy_4 : decode cX5_givenBy 4 = .ok (.iload_n 3, 1) := by decide +kernel
theorem dX5_givenBy_5 : decode cX5_givenBy 5 = .ok (.aload_n 0, 1) := by decide +kernel
theorem dX5_givenBy_6 : decode cX5_givenBy 6 = .ok (.getfield 25, 3) := by decide +kernel
theorem dX5_givenBy_9 : decode cX5_givenBy 9 = .ok (.if_icmp .ge 35, 3) := by decide +kernel
theorem dX5_givenBy_12 : decode cX5_givenBy 12 = .ok (.iload_n 3, 1) := by decide +kernel
theorem dX5_givenBy_13 : decode cX5_givenBy 13 = .ok (.sipush 250, 3) := by decide +kernel
theorem dX5_givenBy_16 : decode cX5_givenBy 16 = .ok (.if_icmp .ge 28, 3) := by decide +kernel
theorem dX5_givenBy_19 : decode cX5_givenBy 19 = .ok (.aload_n 0, 1) := by decide +kernel
theorem dX5_givenBy_20 : decode cX5_givenBy 20 = .ok (.getfield 9, 3) := by decide +kernel
theorem dX5_givenBy_23 : decode cX5_givenBy 23 = .ok (.iload_n 3, 1) := by decide +kernel
theorem dX5_givenBy_24 : decode cX5_givenBy 24 = .ok (.iaload, 1) := by decide +kernel
theorem dX5_givenBy_25 : decode cX5_givenBy 25 = .ok (.iload_n 1, 1) := by decide +kernel
theorem dX5_givenBy_26 : decode cX5_givenBy 26 = .ok (.if_icmp .ne 12, 3) := by decide +kernel
theorem dX5_givenBy_29 : decode cX5_givenBy 29 = .ok (.iload_n 2, 1) := by decide +kernel
theorem dX5_givenBy_30 : decode cX5_givenBy 30 = .ok (.aload_n 0, 1) := by decide +kernel
theorem dX5_givenBy_31 : decode cX5_givenBy 31 = .ok (.getfield 15, 3) := by decide +kernel
theorem dX5_givenBy_34 : decode cX5_givenBy 34 = .ok (.iload_n 3, 1) := by decide +kernel
theorem dX5_givenBy_35 : decode cX5_givenBy 35 = .ok (.iaload, 1) := by decide +kernel
theorem dX5_givenBy_36 : decode cX5_givenBy 36 = .ok (.iadd, 1) := by decide +kernel
theorem dX5_givenBy_37 : decode cX5_givenBy 37 = .ok (.istore_n 2, 1) := by decide +kernel
theorem dX5_givenBy_38 : decode cX5_givenBy 38 = .ok (.iinc 3 1, 3) := by decide +kernel
theorem dX5_givenBy_41 : decode cX5_givenBy 41 = .ok (.goto (-37), 3) := by decide +kernel
theorem dX5_givenBy_44 : decode cX5_givenBy 44 = .ok (.iload_n 2, 1) := by decide +kernel
theorem dX5_givenBy_45 : decode cX5_givenBy 45 = .ok (.ireturn, 1) := by decide +kernel
theorem dX5_unclaimedOf_0 : decode cX5_unclaimedOf 0 = .ok (.iconst 0, 1) := by decide +kernel
theorem dX5_unclaimedOf_1 : decode cX5_unclaimedOf 1 = .ok (.istore_n 2, 1) := by decide +kernel
theorem dX5_unclaimedOf_2 : decode cX5_unclaimedOf 2 = .ok (.iconst 0, 1) := by decide +kernel
theorem dX5_unclaimedOf_3 : decode cX5_unclaimedOf 3 = .ok (.istore_n 3, 1) := by decide +kernel
theorem dX5_unclaimedOf_4 : decode cX5_unclaimedOf 4 = .ok (.iload_n 3, 1) := by decide +kernel
theorem dX5_unclaimedOf_5 : decode cX5_unclaimedOf 5 = .ok (.aload_n 0, 1) := by decide +kernel
theorem dX5_unclaimedOf_6 : decode cX5_unclaimedOf 6 = .ok (.getfield 25, 3) := by decide +kernel
theorem dX5_unclaimedOf_9 : decode cX5_unclaimedOf 9 = .ok (.if_icmp .ge 44, 3) := by decide +kernel
theorem dX5_unclaimedOf_12 : decode cX5_unclaimedOf 12 = .ok (.iload_n 3, 1) := by decide +kernel
theorem dX5_unclaimedOf_13 : decode cX5_unclaimedOf 13 = .ok (.sipush 250, 3) := by decide +kernel
theorem dX5_unclaimedOf_16 : decode cX5_unclaimedOf 16 = .ok (.if_icmp .ge 37, 3) := by decide +kernel
theorem dX5_unclaimedOf_19 : decode cX5_unclaimedOf 19 = .ok (.aload_n 0, 1) := by decide +kernel
theorem dX5_unclaimedOf_20 : decode cX5_unclaimedOf 20 = .ok (.getfield 9, 3) := by decide +kernel
theorem dX5_unclaimedOf_23 : decode cX5_unclaimedOf 23 = .ok (.iload_n 3, 1) := by decide +kernel
theorem dX5_unclaimedOf_24 : decode cX5_unclaimedOf 24 = .ok (.iaload, 1) := by decide +kernel
theorem dX5_unclaimedOf_25 : decode cX5_unclaimedOf 25 = .ok (.iload_n 1, 1) := by decide +kernel
theorem dX5_unclaimedOf_26 : decode cX5_unclaimedOf 26 = .ok (.if_icmp .ne 21, 3) := by decide +kernel
theorem dX5_unclaimedOf_29 : decode cX5_unclaimedOf 29 = .ok (.aload_n 0, 1) := by decide +kernel
theorem dX5_unclaimedOf_30 : decode cX5_unclaimedOf 30 = .ok (.getfield 21, 3) := by decide +kernel
theorem dX5_unclaimedOf_33 : decode cX5_unclaimedOf 33 = .ok (.iload_n 3, 1) := by decide +kernel
theorem dX5_unclaimedOf_34 : decode cX5_unclaimedOf 34 = .ok (.baload, 1) := by decide +kernel
theorem dX5_unclaimedOf_35 : decode cX5_unclaimedOf 35 = .ok (.ifCond .ne 12, 3) := by decide +kernel
theorem dX5_unclaimedOf_38 : decode cX5_unclaimedOf 38 = .ok (.iload_n 2, 1) := by decide +kernel
theorem dX5_unclaimedOf_39 : decode cX5_unclaimedOf 39 = .ok (.aload_n 0, 1) := by decide +kernel
theorem dX5_unclaimedOf_40 : decode cX5_unclaimedOf 40 = .ok (.getfield 15, 3) := by decide +kernel
theorem dX5_unclaimedOf_43 : decode cX5_unclaimedOf 43 = .ok (.iload_n 3, 1) := by decide +kernel
theorem dX5_unclaimedOf_44 : decode cX5_unclaimedOf 44 = .ok (.iaload, 1) := by decide +kernel
theorem dX5_unclaimedOf_45 : decode cX5_unclaimedOf 45 = .ok (.iadd, 1) := by decide +kernel
theorem dX5_unclaimedOf_46 : decode cX5_unclaimedOf 46 = .ok (.istore_n 2, 1) := by decide +kernel
theorem dX5_unclaimedOf_47 : decode cX5_unclaimedOf 47 = .ok (.iinc 3 1, 3) := by decide +kernel
theorem dX5_unclaimedOf_50 : decode cX5_unclaimedOf 50 = .ok (.goto (-46), 3) := by decide +kernel
theorem dX5_unclaimedOf_53 : decode cX5_unclaimedOf 53 = .ok (.iload_n 2, 1) := by decide +kernel
theorem dX5_unclaimedOf_54 : decode cX5_unclaimedOf 54 = .ok (.ireturn, 1) := by decide +kernel
theorem dX5_claimTax_0 : decode cX5_claimTax 0 = .ok (.iload_n 1, 1) := by decide +kernel
theorem dX5_claimTax_1 : decode cX5_claimTax 1 = .ok (.ifCond .ne 5, 3) := by decide +kernel
theorem dX5_claimTax_4 : decode cX5_claimTax 4 = .ok (.iconst 0, 1) := by decide +kernel
theorem dX5_claimTax_5 : decode cX5_claimTax 5 = .ok (.ireturn, 1) := by decide +kernel
theorem dX5_claimTax_6 : decode cX5_claimTax 6 = .ok (.lconst 0, 1) := by decide +kernel
theorem dX5_claimTax_7 : decode cX5_claimTax 7 = .ok (.lstore_n 3, 1) := by decide +kernel
theorem dX5_claimTax_8 : decode cX5_claimTax 8 = .ok (.iconst 0, 1) := by decide +kernel
theorem dX5_claimTax_9 : decode cX5_claimTax 9 = .ok (.istore 5, 2) := by decide +kernel
theorem dX5_claimTax_11 : decode cX5_claimTax 11 = .ok (.iload 5, 2) := by decide +kernel
theorem dX5_claimTax_13 : decode cX5_claimTax 13 = .ok (.aload_n 0, 1) := by decide +kernel
theorem dX5_claimTax_14 : decode cX5_claimTax 14 = .ok (.getfield 25, 3) := by decide +kernel
theorem dX5_claimTax_17 : decode cX5_claimTax 17 = .ok (.if_icmp .ge 74, 3) := by decide +kernel
theorem dX5_claimTax_20 : decode cX5_claimTax 20 = .ok (.iload 5, 2) := by decide +kernel
theorem dX5_claimTax_22 : decode cX5_claimTax 22 = .ok (.sipush 250, 3) := by decide +kernel
theorem dX5_claimTax_25 : decode cX5_claimTax 25 = .ok (.if_icmp .ge 66, 3) := by decide +kernel
theorem dX5_claimTax_28 : decode cX5_claimTax 28 = .ok (.aload_n 0, 1) := by decide +kernel
theorem dX5_claimTax_29 : decode cX5_claimTax 29 = .ok (.getfield 21, 3) := by decide +kernel
theorem dX5_claimTax_32 : decode cX5_claimTax 32 = .ok (.iload 5, 2) := by decide +kernel
theorem dX5_claimTax_34 : decode cX5_claimTax 34 = .ok (.baload, 1) := by decide +kernel
theorem dX5_claimTax_35 : decode cX5_claimTax 35 = .ok (.ifCond .ne 50, 3) := by decide +kernel
theorem dX5_claimTax_38 : decode cX5_claimTax 38 = .ok (.aload_n 2, 1) := by decide +kernel
theorem dX5_claimTax_39 : decode cX5_claimTax 39 = .ok (.aload_n 0, 1) := by decide +kernel
theorem dX5_claimTax_40 : decode cX5_claimTax 40 = .ok (.getfield 9, 3) := by decide +kernel
theorem dX5_claimTax_43 : decode cX5_claimTax 43 = .ok (.iload 5, 2) := by decide +kernel
theorem dX5_claimTax_45 : decode cX5_claimTax 45 = .ok (.iaload, 1) := by decide +kernel
theorem dX5_claimTax_46 : decode cX5_claimTax 46 = .ok (.aload_n 0, 1) := by decide +kernel
theorem dX5_claimTax_47 : decode cX5_claimTax 47 = .ok (.getfield 18, 3) := by decide +kernel
theorem dX5_claimTax_50 : decode cX5_claimTax 50 = .ok (.iload 5, 2) := by decide +kernel
theorem dX5_claimTax_52 : decode cX5_claimTax 52 = .ok (.iaload, 1) := by decide +kernel
theorem dX5_claimTax_53 : decode cX5_claimTax 53 = .ok (.invokevirtual 33, 3) := by decide +kernel
theorem dX5_claimTax_56 : decode cX5_claimTax 56 = .ok (.ifCond .eq 29, 3) := by decide +kernel
theorem dX5_claimTax_59 : decode cX5_claimTax 59 = .ok (.aload_n 0, 1) := by decide +kernel
theorem dX5_claimTax_60 : decode cX5_claimTax 60 = .ok (.getfield 21, 3) := by decide +kernel
theorem dX5_claimTax_63 : decode cX5_claimTax 63 = .ok (.iload 5, 2) := by decide +kernel
theorem dX5_claimTax_65 : decode cX5_claimTax 65 = .ok (.iconst 1, 1) := by decide +kernel
theorem dX5_claimTax_66 : decode cX5_claimTax 66 = .ok (.bastore, 1) := by decide +kernel
theorem dX5_claimTax_67 : decode cX5_claimTax 67 = .ok (.lload_n 3, 1) := by decide +kernel
theorem dX5_claimTax_68 : decode cX5_claimTax 68 = .ok (.aload_n 0, 1) := by decide +kernel
theorem dX5_claimTax_69 : decode cX5_claimTax 69 = .ok (.getfield 15, 3) := by decide +kernel
theorem dX5_claimTax_72 : decode cX5_claimTax 72 = .ok (.iload 5, 2) := by decide +kernel
theorem dX5_claimTax_74 : decode cX5_claimTax 74 = .ok (.iaload, 1) := by decide +kernel
theorem dX5_claimTax_75 : decode cX5_claimTax 75 = .ok (.i2l, 1) := by decide +kernel
theorem dX5_claimTax_76 : decode cX5_claimTax 76 = .ok (.iload_n 1, 1) := by decide +kernel
theorem dX5_claimTax_77 : decode cX5_claimTax 77 = .ok (.i2l, 1) := by decide +kernel
theorem dX5_claimTax_78 : decode cX5_claimTax 78 = .ok (.lmul, 1) := by decide +kernel
theorem dX5_claimTax_79 : decode cX5_claimTax 79 = .ok (.ldc2_w 39, 3) := by decide +kernel
theorem dX5_claimTax_82 : decode cX5_claimTax 82 = .ok (.ldiv, 1) := by decide +kernel
theorem dX5_claimTax_83 : decode cX5_claimTax 83 = .ok (.ladd, 1) := by decide +kernel
theorem dX5_claimTax_84 : decode cX5_claimTax 84 = .ok (.lstore_n 3, 1) := by decide +kernel
theorem dX5_claimTax_85 : decode cX5_claimTax 85 = .ok (.iinc 5 1, 3) := by decide +kernel
theorem dX5_claimTax_88 : decode cX5_claimTax 88 = .ok (.goto (-77), 3) := by decide +kernel
theorem dX5_claimTax_91 : decode cX5_claimTax 91 = .ok (.lload_n 3, 1) := by decide +kernel
theorem dX5_claimTax_92 : decode cX5_claimTax 92 = .ok (.l2i, 1) := by decide +kernel
theorem dX5_claimTax_93 : decode cX5_claimTax 93 = .ok (.ireturn, 1) := by decide +kernel
theorem dX6_init_0 : decode cX6_init 0 = .ok (.aload_n 0, 1) := by decide +kernel
theorem dX6_init_1 : decode cX6_init 1 = .ok (.invokespecial 3, 3) := by decide +kernel
theorem dX6_init_4 : decode cX6_init 4 = .ok (.aload_n 0, 1) := by decide +kernel
theorem dX6_init_5 : decode cX6_init 5 = .ok (.sipush 400, 3) := by decide +kernel
theorem dX6_init_8 : decode cX6_init 8 = .ok (.newarray .byte, 2) := by decide +kernel
theorem dX6_init_10 : decode cX6_init 10 = .ok (.putfield 11, 3) := by decide +kernel
theorem dX6_init_13 : decode cX6_init 13 = .ok (.return_, 1) := by decide +kernel
theorem dX6_length_0 : decode cX6_length 0 = .ok (.aload_n 0, 1) := by decide +kernel
theorem dX6_length_1 : decode cX6_length 1 = .ok (.getfield 15, 3) := by decide +kernel
theorem dX6_length_4 : decode cX6_length 4 = .ok (.ireturn, 1) := by decide +kernel
theorem dX6_hasRoomForTwenty_0 : decode cX6_hasRoomForTwenty 0 = .ok (.aload_n 0, 1) := by decide +kernel
theorem dX6_hasRoomForTwenty_1 : decode cX6_hasRoomForTwenty 1 = .ok (.getfield 15, 3) := by decide +kernel
theorem dX6_hasRoomForTwenty_4 : decode cX6_hasRoomForTwenty 4 = .ok (.sipush 380, 3) := by decide +kernel
theorem dX6_hasRoomForTwenty_7 : decode cX6_hasRoomForTwenty 7 = .ok (.if_icmp .gt 7, 3) := by decide +kernel
theorem dX6_hasRoomForTwenty_10 : decode cX6_hasRoomForTwenty 10 = .ok (.iconst 1, 1) := by decide +kernel
theorem dX6_hasRoomForTwenty_11 : decode cX6_hasRoomForTwenty 11 = .ok (.goto 4, 3) := by decide +kernel
theorem dX6_hasRoomForTwenty_14 : decode cX6_hasRoomForTwenty 14 = .ok (.iconst 0, 1) := by decide +kernel
theorem dX6_hasRoomForTwenty_15 : decode cX6_hasRoomForTwenty 15 = .ok (.ireturn, 1) := by decide +kernel
theorem dX6_putFour_0 : decode cX6_putFour 0 = .ok (.bipush 24, 2) := by decide +kernel
theorem dX6_putFour_2 : decode cX6_putFour 2 = .ok (.istore_n 2, 1) := by decide +kernel
theorem dX6_putFour_3 : decode cX6_putFour 3 = .ok (.iload_n 2, 1) := by decide +kernel
theorem dX6_putFour_4 : decode cX6_putFour 4 = .ok (.ifCond .lt 49, 3) := by decide +kernel
theorem dX6_putFour_7 : decode cX6_putFour 7 = .ok (.aload_n 0, 1) := by decide +kernel
theorem dX6_putFour_8 : decode cX6_putFour 8 = .ok (.getfield 15, 3) := by decide +kernel
theorem dX6_putFour_11 : decode cX6_putFour 11 = .ok (.ifCond .lt 36, 3) := by decide +kernel
theorem dX6_putFour_14 : decode cX6_putFour 14 = .ok (.aload_n 0, 1) := by decide +kernel
theorem dX6_putFour_15 : decode cX6_putFour 15 = .ok (.getfield 15, 3) := by decide +kernel
theorem dX6_putFour_18 : decode cX6_putFour 18 = .ok (.sipush 400, 3) := by decide +kernel
theorem dX6_putFour_21 : decode cX6_putFour 21 = .ok (.if_icmp .ge 26, 3) := by decide +kernel
theorem dX6_putFour_24 : decode cX6_putFour 24 = .ok (.aload_n 0, 1) := by decide +kernel
theorem dX6_putFour_25 : decode cX6_putFour 25 = .ok (.getfield 11, 3) := by decide +kernel
theorem dX6_putFour_28 : decode cX6_putFour 28 = .ok (.aload_n 0, 1) := by decide +kernel
theorem dX6_putFour_29 : decode cX6_putFour 29 = .ok (.getfield 15, 3) := by decide +kernel
theorem dX6_putFour_32 : decode cX6_putFour 32 = .ok (.iload_n 1, 1) := by decide +kernel
theorem dX6_putFour_33 : decode cX6_putFour 33 = .ok (.iload_n 2, 1) := by decide +kernel
theorem dX6_putFour_34 : decode cX6_putFour 34 = .ok (.iushr, 1) := by decide +kernel
theorem dX6_putFour_35 : decode cX6_putFour 35 = .ok (.i2b, 1) := by decide +kernel
theorem dX6_putFour_36 : decode cX6_putFour 36 = .ok (.bastore, 1) := by decide +kernel
theorem dX6_putFour_37 : decode cX6_putFour 37 = .ok (.aload_n 0, 1) := by decide +kernel
theorem dX6_putFour_38 : decode cX6_putFour 38 = .ok (.dup, 1) := by decide +kernel
theorem dX6_putFour_39 : decode cX6_putFour 39 = .ok (.getfield 15, 3) := by decide +kernel
theorem dX6_putFour_42 : decode cX6_putFour 42 = .ok (.iconst 1, 1) := by decide +kernel
theorem dX6_putFour_43 : decode cX6_putFour 43 = .ok (.iadd, 1) := by decide +kernel
theorem dX6_putFour_44 : decode cX6_putFour 44 = .ok (.putfield 15, 3) := by decide +kernel
theorem dX6_putFour_47 : decode cX6_putFour 47 = .ok (.iinc 2 (-8), 3) := by decide +kernel
theorem dX6_putFour_50 : decode cX6_putFour 50 = .ok (.goto (-47), 3) := by decide +kernel
theorem dX6_putFour_53 : decode cX6_putFour 53 = .ok (.return_, 1) := by decide +kernel
theorem dX6_cutTo_0 : decode cX6_cutTo 0 = .ok (.aload_n 0, 1) := by decide +kernel
theorem dX6_cutTo_1 : decode cX6_cutTo 1 = .ok (.iload_n 1, 1) := by decide +kernel
theorem dX6_cutTo_2 : decode cX6_cutTo 2 = .ok (.putfield 15, 3) := by decide +kernel
theorem dX6_cutTo_5 : decode cX6_cutTo 5 = .ok (.return_, 1) := by decide +kernel
theorem dX6_at_0 : decode cX6_at 0 = .ok (.iload_n 1, 1) := by decide +kernel
theorem dX6_at_1 : decode cX6_at 1 = .ok (.ifCond .lt 31, 3) := by decide +kernel
theorem dX6_at_4 : decode cX6_at 4 = .ok (.iload_n 1, 1) := by decide +kernel
theorem dX6_at_5 : decode cX6_at 5 = .ok (.aload_n 0, 1) := by decide +kernel
theorem dX6_at_6 : decode cX6_at 6 = .ok (.getfield 15, 3) := by decide +kernel
theorem dX6_at_9 : decode cX6_at 9 = .ok (.if_icmp .ge 23, 3) := by decide +kernel
theorem dX6_at_12 : decode cX6_at 12 = .ok (.iload_n 1, 1) := by decide +kernel
theorem dX6_at_13 : decode cX6_at 13 = .ok (.sipush 400, 3) := by decide +kernel
theorem dX6_at_16 : decode cX6_at 16 = .ok (.if_icmp .ge 16, 3) := by decide +kernel
theorem dX6_at_19 : decode cX6_at 19 = .ok (.aload_n 0, 1) := by decide +kernel
theorem dX6_at_20 : decode cX6_at 20 = .ok (.getfield 11, 3) := by decide +kernel
theorem dX6_at_23 : decode cX6_at 23 = .ok (.iload_n 1, 1) := by decide +kernel
theorem dX6_at_24 : decode cX6_at 24 = .ok (.baload, 1) := by decide +kernel
theorem dX6_at_25 : decode cX6_at 25 = .ok (.sipush 255, 3) := by decide +kernel
theorem dX6_at_28 : decode cX6_at 28 = .ok (.iand, 1) := by decide +kernel
theorem dX6_at_29 : decode cX6_at 29 = .ok (.goto 4, 3) := by decide +kernel
theorem dX6_at_32 : decode cX6_at 32 = .ok (.iconst (-1), 1) := by decide +kernel
theorem dX6_at_33 : decode cX6_at 33 = .ok (.ireturn, 1) := by decide +kernel
theorem dX7_init_0 : decode cX7_init 0 = .ok (.aload_n 0, 1) := by decide +kernel
theorem dX7_init_1 : decode cX7_init 1 = .ok (.invokespecial 3, 3) := by decide +kernel
theorem dX7_init_4 : decode cX7_init 4 = .ok (.aload_n 0, 1) := by decide +kernel
theorem dX7_init_5 : decode cX7_init 5 = .ok (.bipush 8, 2) := by decide +kernel
theorem dX7_init_7 : decode cX7_init 7 = .ok (.anewarray 9, 3) := by decide +kernel
theorem dX7_init_10 : decode cX7_init 10 = .ok (.putfield 11, 3) := by decide +kernel
theorem dX7_init_13 : decode cX7_init 13 = .ok (.return_, 1) := by decide +kernel
theorem dX7_size_0 : decode cX7_size 0 = .ok (.aload_n 0, 1) := by decide +kernel
theorem dX7_size_1 : decode cX7_size 1 = .ok (.getfield 17, 3) := by decide +kernel
theorem dX7_size_4 : decode cX7_size 4 = .ok (.ireturn, 1) := by decide +kernel
theorem dX7_isFull_0 : decode cX7_isFull 0 = .ok (.aload_n 0, 1) := by decide +kernel
theorem dX7_isFull_1 : decode cX7_isFull 1 = .ok (.getfield 17, 3) := by decide +kernel
theorem dX7_isFull_4 : decode cX7_isFull 4 = .ok (.bipush 8, 2) := by decide +kernel
theorem dX7_isFull_6 : decode cX7_isFull 6 = .ok (.if_icmp .lt 7, 3) := by decide +kernel
theorem dX7_isFull_9 : decode cX7_isFull 9 = .ok (.iconst 1, 1) := by decide +kernel
theorem dX7_isFull_10 : decode cX7_isFull 10 = .ok (.goto 4, 3) := by decide +kernel
theorem dX7_isFull_13 : decode cX7_isFull 13 = .ok (.iconst 0, 1) := by decide +kernel
theorem dX7_isFull_14 : decode cX7_isFull 14 = .ok (.ireturn, 1) := by decide +kernel
theorem dX7_add_0 : decode cX7_add 0 = .ok (.aload_n 0, 1) := by decide +kernel
theorem dX7_add_1 : decode cX7_add 1 = .ok (.getfield 17, 3) := by decide +kernel
theorem dX7_add_4 : decode cX7_add 4 = .ok (.ifCond .lt 12, 3) := by decide +kernel
theorem dX7_add_7 : decode cX7_add 7 = .ok (.aload_n 0, 1) := by decide +kernel
theorem dX7_add_8 : decode cX7_add 8 = .ok (.getfield 17, 3) := by decide +kernel
theorem dX7_add_11 : decode cX7_add 11 = .ok (.bipush 8, 2) := by decide +kernel
theorem dX7_add_13 : decode cX7_add 13 = .ok (.if_icmp .lt 6, 3) := by decide +kernel
theorem dX7_add_16 : decode cX7_add 16 = .ok (.bipush (-3), 2) := by decide +kernel
theorem dX7_add_18 : decode cX7_add 18 = .ok (.ireturn, 1) := by decide +kernel
theorem dX7_add_19 : decode cX7_add 19 = .ok (.aload_n 0, 1) := by decide +kernel
theorem dX7_add_20 : decode cX7_add 20 = .ok (.getfield 11, 3) := by decide +kernel
theorem dX7_add_23 : decode cX7_add 23 = .ok (.aload_n 0, 1) := by decide +kernel
theorem dX7_add_24 : decode cX7_add 24 = .ok (.getfield 17, 3) := by decide +kernel
theorem dX7_add_27 : decode cX7_add 27 = .ok (.aload_n 1, 1) := by decide +kernel
theorem dX7_add_28 : decode cX7_add 28 = .ok (.aastore, 1) := by decide +kernel
theorem dX7_add_29 : decode cX7_add 29 = .ok (.aload_n 0, 1) := by decide +kernel
theorem dX7_add_30 : decode cX7_add 30 = .ok (.dup, 1) := by decide +kernel
theorem dX7_add_31 : decode cX7_add 31 = .ok (.getfield 17, 3) := by decide +kernel
theorem dX7_add_34 : decode cX7_add 34 = .ok (.iconst 1, 1) := by decide +kernel
theorem dX7_add_35 : decode cX7_add 35 = .ok (.iadd, 1) := by decide +kernel
theorem dX7_add_36 : decode cX7_add 36 = .ok (.putfield 17, 3) := by decide +kernel
theorem dX7_add_39 : decode cX7_add 39 = .ok (.aload_n 0, 1) := by decide +kernel
theorem dX7_add_40 : decode cX7_add 40 = .ok (.getfield 17, 3) := by decide +kernel
theorem dX7_add_43 : decode cX7_add 43 = .ok (.iconst 1, 1) := by decide +kernel
theorem dX7_add_44 : decode cX7_add 44 = .ok (.isub, 1) := by decide +kernel
theorem dX7_add_45 : decode cX7_add 45 = .ok (.ireturn, 1) := by decide +kernel
theorem dX7_at_0 : decode cX7_at 0 = .ok (.iload_n 1, 1) := by decide +kernel
theorem dX7_at_1 : decode cX7_at 1 = .ok (.ifCond .lt 26, 3) := by decide +kernel
theorem dX7_at_4 : decode cX7_at 4 = .ok (.iload_n 1, 1) := by decide +kernel
theorem dX7_at_5 : decode cX7_at 5 = .ok (.aload_n 0, 1) := by decide +kernel
theorem dX7_at_6 : decode cX7_at 6 = .ok (.getfield 17, 3) := by decide +kernel
theorem dX7_at_9 : decode cX7_at 9 = .ok (.if_icmp .ge 18, 3) := by decide +kernel
theorem dX7_at_12 : decode cX7_at 12 = .ok (.iload_n 1, 1) := by decide +kernel
theorem dX7_at_13 : decode cX7_at 13 = .ok (.bipush 8, 2) := by decide +kernel
theorem dX7_at_15 : decode cX7_at 15 = .ok (.if_icmp .ge 12, 3) := by decide +kernel
theorem dX7_at_18 : decode cX7_at 18 = .ok (.aload_n 0, 1) := by decide +kernel
theorem dX7_at_19 : decode cX7_at 19 = .ok (.getfield 11, 3) := by decide +kernel
theorem dX7_at_22 : decode cX7_at 22 = .ok (.iload_n 1, 1) := by decide +kernel
theorem dX7_at_23 : decode cX7_at 23 = .ok (.aaload, 1) := by decide +kernel
theorem dX7_at_24 : decode cX7_at 24 = .ok (.goto 4, 3) := by decide +kernel
theorem dX7_at_27 : decode cX7_at 27 = .ok (.aconst_null, 1) := by decide +kernel
theorem dX7_at_28 : decode cX7_at 28 = .ok (.areturn, 1) := by decide +kernel
theorem dX7_running_0 : decode cX7_running 0 = .ok (.aload_n 0, 1) := by decide +kernel
theorem dX7_running_1 : decode cX7_running 1 = .ok (.aload_n 0, 1) := by decide +kernel
theorem dX7_running_2 : decode cX7_running 2 = .ok (.getfield 21, 3) := by decide +kernel
theorem dX7_running_5 : decode cX7_running 5 = .ok (.iconst 1, 1) := by decide +kernel
theorem dX7_running_6 : decode cX7_running 6 = .ok (.isub, 1) := by decide +kernel
theorem dX7_running_7 : decode cX7_running 7 = .ok (.invokevirtual 24, 3) := by decide +kernel
theorem dX7_running_10 : decode cX7_running 10 = .ok (.astore_n 1, 1) := by decide +kernel
theorem dX7_running_11 : decode cX7_running 11 = .ok (.aload_n 1, 1) := by decide +kernel
theorem dX7_running_12 : decode cX7_running 12 = .ok (.ifnull 14, 3) := by decide +kernel
theorem dX7_running_15 : decode cX7_running 15 = .ok (.aload_n 1, 1) := by decide +kernel
theorem dX7_running_16 : decode cX7_running 16 = .ok (.invokevirtual 28, 3) := by decide +kernel
theorem dX7_running_19 : decode cX7_running 19 = .ok (.ifCond .eq 7, 3) := by decide +kernel
theorem dX7_running_22 : decode cX7_running 22 = .ok (.aload_n 1, 1) := by decide +kernel
theorem dX7_running_23 : decode cX7_running 23 = .ok (.goto 4, 3) := by decide +kernel
theorem dX7_running_26 : decode cX7_running 26 = .ok (.aconst_null, 1) := by decide +kernel
theorem dX7_running_27 : decode cX7_running 27 = .ok (.areturn, 1) := by decide +kernel
theorem dX7_mayStartNext_0 : decode cX7_mayStartNext 0 = .ok (.aload_n 0, 1) := by decide +kernel
theorem dX7_mayStartNext_1 : decode cX7_mayStartNext 1 = .ok (.invokevirtual 32, 3) := by decide +kernel
theorem dX7_mayStartNext_4 : decode cX7_mayStartNext 4 = .ok (.ifnonnull 18, 3) := by decide +kernel
theorem dX7_mayStartNext_7 : decode cX7_mayStartNext 7 = .ok (.aload_n 0, 1) := by decide +kernel
theorem dX7_mayStartNext_8 : decode cX7_mayStartNext 8 = .ok (.getfield 21, 3) := by decide +kernel
theorem dX7_mayStartNext_11 : decode cX7_mayStartNext 11 = .ok (.aload_n 0, 1) := by decide +kernel
theorem dX7_mayStartNext_12 : decode cX7_mayStartNext 12 = .ok (.getfield 17, 3) := by decide +kernel
theorem dX7_mayStartNext_15 : decode cX7_mayStartNext 15 = .ok (.if_icmp .ge 7, 3) := by decide +kernel
theorem dX7_mayStartNext_18 : decode cX7_mayStartNext 18 = .ok (.iconst 1, 1) := by decide +kernel
theorem dX7_mayStartNext_19 : decode cX7_mayStartNext 19 = .ok (.goto 4, 3) := by decide +kernel
theorem dX7_mayStartNext_22 : decode cX7_mayStartNext 22 = .ok (.iconst 0, 1) := by decide +kernel
theorem dX7_mayStartNext_23 : decode cX7_mayStartNext 23 = .ok (.ireturn, 1) := by decide +kernel
theorem dX7_startNext_0 : decode cX7_startNext 0 = .ok (.aload_n 0, 1) := by decide +kernel
theorem dX7_startNext_1 : decode cX7_startNext 1 = .ok (.aload_n 0, 1) := by decide +kernel
theorem dX7_startNext_2 : decode cX7_startNext 2 = .ok (.getfield 21, 3) := by decide +kernel
theorem dX7_startNext_5 : decode cX7_startNext 5 = .ok (.invokevirtual 24, 3) := by decide +kernel
theorem dX7_startNext_8 : decode cX7_startNext 8 = .ok (.astore_n 1, 1) := by decide +kernel
theorem dX7_startNext_9 : decode cX7_startNext 9 = .ok (.aload_n 1, 1) := by decide +kernel
theorem dX7_startNext_10 : decode cX7_startNext 10 = .ok (.ifnonnull 6, 3) := by decide +kernel
theorem dX7_startNext_13 : decode cX7_startNext 13 = .ok (.bipush (-4), 2) := by decide +kernel
theorem dX7_startNext_15 : decode cX7_startNext 15 = .ok (.ireturn, 1) := by decide +kernel
theorem dX7_startNext_16 : decode cX7_startNext 16 = .ok (.aload_n 1, 1) := by decide +kernel
theorem dX7_startNext_17 : decode cX7_startNext 17 = .ok (.invokevirtual 36, 3) := by decide +kernel
theorem dX7_startNext_20 : decode cX7_startNext 20 = .ok (.aload_n 0, 1) := by decide +kernel
theorem dX7_startNext_21 : decode cX7_startNext 21 = .ok (.dup, 1) := by decide +kernel
theorem dX7_startNext_22 : decode cX7_startNext 22 = .ok (.getfield 21, 3) := by decide +kernel
theorem dX7_startNext_25 : decode cX7_startNext 25 = .ok (.iconst 1, 1) := by decide +kernel
theorem dX7_startNext_26 : decode cX7_startNext 26 = .ok (.iadd, 1) := by decide +kernel
theorem dX7_startNext_27 : decode cX7_startNext 27 = .ok (.putfield 21, 3) := by decide +kernel
theorem dX7_startNext_30 : decode cX7_startNext 30 = .ok (.aload_n 0, 1) := by decide +kernel
theorem dX7_startNext_31 : decode cX7_startNext 31 = .ok (.getfield 21, 3) := by decide +kernel
theorem dX7_startNext_34 : decode cX7_startNext 34 = .ok (.iconst 1, 1) := by decide +kernel
theorem dX7_startNext_35 : decode cX7_startNext 35 = .ok (.isub, 1) := by decide +kernel
theorem dX7_startNext_36 : decode cX7_startNext 36 = .ok (.ireturn, 1) := by decide +kernel
theorem dX7_payPart_0 : decode cX7_payPart 0 = .ok (.aload_n 0, 1) := by decide +kernel
theorem dX7_payPart_1 : decode cX7_payPart 1 = .ok (.invokevirtual 32, 3) := by decide +kernel
theorem dX7_payPart_4 : decode cX7_payPart 4 = .ok (.astore_n 3, 1) := by decide +kernel
theorem dX7_payPart_5 : decode cX7_payPart 5 = .ok (.aload_n 3, 1) := by decide +kernel
theorem dX7_payPart_6 : decode cX7_payPart 6 = .ok (.ifnonnull 4, 3) := by decide +kernel
theorem dX7_payPart_9 : decode cX7_payPart 9 = .ok (.return_, 1) := by decide +kernel
theorem dX7_payPart_10 : decode cX7_payPart 10 = .ok (.aload_n 3, 1) := by decide +kernel
theorem dX7_payPart_11 : decode cX7_payPart 11 = .ok (.invokevirtual 39, 3) := by decide +kernel
theorem dX7_payPart_14 : decode cX7_payPart 14 = .ok (.istore 4, 2) := by decide +kernel
theorem dX7_payPart_16 : decode cX7_payPart 16 = .ok (.aload_n 1, 1) := by decide +kernel
theorem dX7_payPart_17 : decode cX7_payPart 17 = .ok (.iload 4, 2) := by decide +kernel
theorem dX7_payPart_19 : decode cX7_payPart 19 = .ok (.iload_n 2, 1) := by decide +kernel
theorem dX7_payPart_20 : decode cX7_payPart 20 = .ok (.invokevirtual 43, 3) := by decide +kernel
theorem dX7_payPart_23 : decode cX7_payPart 23 = .ok (.ifCond .eq 12, 3) := by decide +kernel
theorem dX7_payPart_26 : decode cX7_payPart 26 = .ok (.aload_n 3, 1) := by decide +kernel
theorem dX7_payPart_27 : decode cX7_payPart 27 = .ok (.iload 4, 2) := by decide +kernel
theorem dX7_payPart_29 : decode cX7_payPart 29 = .ok (.invokevirtual 49, 3) := by decide +kernel
theorem dX7_payPart_32 : decode cX7_payPart 32 = .ok (.goto 7, 3) := by decide +kernel
theorem dX7_payPart_35 : decode cX7_payPart 35 = .ok (.aload_n 3, 1) := by decide +kernel
theorem dX7_payPart_36 : decode cX7_payPart 36 = .ok (.invokevirtual 53, 3) := by decide +kernel
theorem dX7_payPart_39 : decode cX7_payPart 39 = .ok (.return_, 1) := by decide +kernel
theorem dX8_init_0 : decode cX8_init 0 = .ok (.aload_n 0, 1) := by decide +kernel
theorem dX8_init_1 : decode cX8_init 1 = .ok (.invokespecial 3, 3) := by decide +kernel
theorem dX8_init_4 : decode cX8_init 4 = .ok (.aload_n 0, 1) := by decide +kernel
theorem dX8_init_5 : decode cX8_init 5 = .ok (.bipush 9, 2) := by decide +kernel
theorem dX8_init_7 : decode cX8_init 7 = .ok (.newarray .int, 2) := by decide +kernel
theorem dX8_init_9 : decode cX8_init 9 = .ok (.putfield 11, 3) := by decide +kernel
theorem dX8_init_12 : decode cX8_init 12 = .ok (.getstatic 15, 3) := by decide +kernel
theorem dX8_init_15 : decode cX8_init 15 = .ok (.iconst 0, 1) := by decide +kernel
theorem dX8_init_16 : decode cX8_init 16 = .ok (.aload_n 0, 1) := by decide +kernel
theorem dX8_init_17 : decode cX8_init 17 = .ok (.getfield 11, 3) := by decide +kernel
theorem dX8_init_20 : decode cX8_init 20 = .ok (.iconst 0, 1) := by decide +kernel
theorem dX8_init_21 : decode cX8_init 21 = .ok (.bipush 9, 2) := by decide +kernel
theorem dX8_init_23 : decode cX8_init 23 = .ok (.invokestatic 18, 3) := by decide +kernel
theorem dX8_init_26 : decode cX8_init 26 = .ok (.return_, 1) := by decide +kernel
theorem dX8_forget_0 : decode cX8_forget 0 = .ok (.getstatic 15, 3) := by decide +kernel
theorem dX8_forget_3 : decode cX8_forget 3 = .ok (.iconst 0, 1) := by decide +kernel
theorem dX8_forget_4 : decode cX8_forget 4 = .ok (.aload_n 0, 1) := by decide +kernel
theorem dX8_forget_5 : decode cX8_forget 5 = .ok (.getfield 11, 3) := by decide +kernel
theorem dX8_forget_8 : decode cX8_forget 8 = .ok (.iconst 0, 1) := by decide +kernel
theorem dX8_forget_9 : decode cX8_forget 9 = .ok (.bipush 9, 2) := by decide +kernel
theorem dX8_forget_11 : decode cX8_forget 11 = .ok (.invokestatic 18, 3) := by decide +kernel
theorem dX8_forget_14 : decode cX8_forget 14 = .ok (.return_, 1) := by decide +kernel
theorem dX8_takeOver_0 : decode cX8_takeOver 0 = .ok (.aload_n 1, 1) := by decide +kernel
theorem dX8_takeOver_1 : decode cX8_takeOver 1 = .ok (.getfield 11, 3) := by decide +kernel
theorem dX8_takeOver_4 : decode cX8_takeOver 4 = .ok (.iconst 0, 1) := by decide +kernel
theorem dX8_takeOver_5 : decode cX8_takeOver 5 = .ok (.aload_n 0, 1) := by decide +kernel
theorem dX8_takeOver_6 : decode cX8_takeOver 6 = .ok (.getfield 11, 3) := by decide +kernel
theorem dX8_takeOver_9 : decode cX8_takeOver 9 = .ok (.iconst 0, 1) := by decide +kernel
theorem dX8_takeOver_10 : decode cX8_takeOver 10 = .ok (.bipush 9, 2) := by decide +kernel
theorem dX8_takeOver_12 : decode cX8_takeOver 12 = .ok (.invokestatic 18, 3) := by decide +kernel
theorem dX8_takeOver_15 : decode cX8_takeOver 15 = .ok (.return_, 1) := by decide +kernel
theorem dX8_at_0 : decode cX8_at 0 = .ok (.iload_n 1, 1) := by decide +kernel
theorem dX8_at_1 : decode cX8_at 1 = .ok (.ifCond .lt 18, 3) := by decide +kernel
theorem dX8_at_4 : decode cX8_at 4 = .ok (.iload_n 1, 1) := by decide +kernel
theorem dX8_at_5 : decode cX8_at 5 = .ok (.bipush 9, 2) := by decide +kernel
theorem dX8_at_7 : decode cX8_at 7 = .ok (.if_icmp .ge 12, 3) := by decide +kernel
theorem dX8_at_10 : decode cX8_at 10 = .ok (.aload_n 0, 1) := by decide +kernel
theorem dX8_at_11 : decode cX8_at 11 = .ok (.getfield 11, 3) := by decide +kernel
theorem dX8_at_14 : decode cX8_at 14 = .ok (.iload_n 1, 1) := by decide +kernel
theorem dX8_at_15 : decode cX8_at 15 = .ok (.iaload, 1) := by decide +kernel
theorem dX8_at_16 : decode cX8_at 16 = .ok (.goto 4, 3) := by decide +kernel
theorem dX8_at_19 : decode cX8_at 19 = .ok (.iconst 0, 1) := by decide +kernel
theorem dX8_at_20 : decode cX8_at 20 = .ok (.ireturn, 1) := by decide +kernel
theorem dX8_put_0 : decode cX8_put 0 = .ok (.iload_n 1, 1) := by decide +kernel
theorem dX8_put_1 : decode cX8_put 1 = .ok (.ifCond .lt 16, 3) := by decide +kernel
theorem dX8_put_4 : decode cX8_put 4 = .ok (.iload_n 1, 1) := by decide +kernel
theorem dX8_put_5 : decode cX8_put 5 = .ok (.bipush 9, 2) := by decide +kernel
theorem dX8_put_7 : decode cX8_put 7 = .ok (.if_icmp .ge 10, 3) := by decide +kernel
theorem dX8_put_10 : decode cX8_put 10 = .ok (.aload_n 0, 1) := by decide +kernel
theorem dX8_put_11 : decode cX8_put 11 = .ok (.getfield 11, 3) := by decide +kernel
theorem dX8_put_14 : decode cX8_put 14 = .ok (.iload_n 1, 1) := by decide +kernel
theorem dX8_put_15 : decode cX8_put 15 = .ok (.iload_n 2, 1) := by decide +kernel
theorem dX8_put_16 : decode cX8_put 16 = .ok (.iastore, 1) := by decide +kernel
theorem dX8_put_17 : decode cX8_put 17 = .ok (.return_, 1) := by decide +kernel
theorem dX8_matchHundredths_0 : decode cX8_matchHundredths 0 = .ok (.aload_n 0, 1) := by decide +kernel
theorem dX8_matchHundredths_1 : decode cX8_matchHundredths 1 = .ok (.getfield 11, 3) := by decide +kernel
theorem dX8_matchHundredths_4 : decode cX8_matchHundredths 4 = .ok (.iconst 0, 1) := by decide +kernel
theorem dX8_matchHundredths_5 : decode cX8_matchHundredths 5 = .ok (.iaload, 1) := by decide +kernel
theorem dX8_matchHundredths_6 : decode cX8_matchHundredths 6 = .ok (.ireturn, 1) := by decide +kernel
theorem dX8_matchCapPence_0 : decode cX8_matchCapPence 0 = .ok (.aload_n 0, 1) := by decide +kernel
theorem dX8_matchCapPence_1 : decode cX8_matchCapPence 1 = .ok (.getfield 11, 3) := by decide +kernel
theorem dX8_matchCapPence_4 : decode cX8_matchCapPence 4 = .ok (.iconst 1, 1) := by decide +kernel
theorem dX8_matchCapPence_5 : decode cX8_matchCapPence 5 = .ok (.iaload, 1) := by decide +kernel
theorem dX8_matchCapPence_6 : decode cX8_matchCapPence 6 = .ok (.bipush 100, 2) := by decide +kernel
theorem dX8_matchCapPence_8 : decode cX8_matchCapPence 8 = .ok (.imul, 1) := by decide +kernel
theorem dX8_matchCapPence_9 : decode cX8_matchCapPence 9 = .ok (.ireturn, 1) := by decide +kernel
theorem dX8_matchTill_0 : decode cX8_matchTill 0 = .ok (.aload_n 0, 1) := by decide +kernel
theorem dX8_matchTill_1 : decode cX8_matchTill 1 = .ok (.getfield 11, 3) := by decide +kernel
theorem dX8_matchTill_4 : decode cX8_matchTill 4 = .ok (.iconst 2, 1) := by decide +kernel
theorem dX8_matchTill_5 : decode cX8_matchTill 5 = .ok (.iaload, 1) := by decide +kernel
theorem dX8_matchTill_6 : decode cX8_matchTill 6 = .ok (.ireturn, 1) := by decide +kernel
theorem dX8_taxHundredths_0 : decode cX8_taxHundredths 0 = .ok (.aload_n 0, 1) := by decide +kernel
theorem dX8_taxHundredths_1 : decode cX8_taxHundredths 1 = .ok (.getfield 11, 3) := by decide +kernel
theorem dX8_taxHundredths_4 : decode cX8_taxHundredths 4 = .ok (.iconst 3, 1) := by decide +kernel
theorem dX8_taxHundredths_5 : decode cX8_taxHundredths 5 = .ok (.iaload, 1) := by decide +kernel
theorem dX8_taxHundredths_6 : decode cX8_taxHundredths 6 = .ok (.ireturn, 1) := by decide +kernel
theorem dX8_lapseDues_0 : decode cX8_lapseDues 0 = .ok (.aload_n 0, 1) := by decide +kernel
theorem dX8_lapseDues_1 : decode cX8_lapseDues 1 = .ok (.getfield 11, 3) := by decide +kernel
theorem dX8_lapseDues_4 : decode cX8_lapseDues 4 = .ok (.iconst 4, 1) := by decide +kernel
theorem dX8_lapseDues_5 : decode cX8_lapseDues 5 = .ok (.iaload, 1) := by decide +kernel
theorem dX8_lapseDues_6 : decode cX8_lapseDues 6 = .ok (.ireturn, 1) := by decide +kernel
theorem dX8_loanPence_0 : decode cX8_loanPence 0 = .ok (.aload_n 0, 1) := by decide +kernel
theorem dX8_loanPence_1 : decode cX8_loanPence 1 = .ok (.getfield 11, 3) := by decide +kernel
theorem dX8_loanPence_4 : decode cX8_loanPence 4 = .ok (.iconst 5, 1) := by decide +kernel
theorem dX8_loanPence_5 : decode cX8_loanPence 5 = .ok (.iaload, 1) := by decide +kernel
theorem dX8_loanPence_6 : decode cX8_loanPence 6 = .ok (.bipush 100, 2) := by decide +kernel
theorem dX8_loanPence_8 : decode cX8_loanPence 8 = .ok (.imul, 1) := by decide +kernel
theorem dX8_loanPence_9 : decode cX8_loanPence 9 = .ok (.ireturn, 1) := by decide +kernel
theorem dX8_loanThousandths_0 : decode cX8_loanThousandths 0 = .ok (.aload_n 0, 1) := by decide +kernel
theorem dX8_loanThousandths_1 : decode cX8_loanThousandths 1 = .ok (.getfield 11, 3) := by decide +kernel
theorem dX8_loanThousandths_4 : decode cX8_loanThousandths 4 = .ok (.bipush 6, 2) := by decide +kernel
theorem dX8_loanThousandths_6 : decode cX8_loanThousandths 6 = .ok (.iaload, 1) := by decide +kernel
theorem dX8_loanThousandths_7 : decode cX8_loanThousandths 7 = .ok (.ireturn, 1) := by decide +kernel
theorem dX8_stonePence_0 : decode cX8_stonePence 0 = .ok (.aload_n 0, 1) := by decide +kernel
theorem dX8_stonePence_1 : decode cX8_stonePence 1 = .ok (.getfield 11, 3) := by decide +kernel
theorem dX8_stonePence_4 : decode cX8_stonePence 4 = .ok (.bipush 7, 2) := by decide +kernel
theorem dX8_stonePence_6 : decode cX8_stonePence 6 = .ok (.iaload, 1) := by decide +kernel
theorem dX8_stonePence_7 : decode cX8_stonePence 7 = .ok (.bipush 100, 2) := by decide +kernel
theorem dX8_stonePence_9 : decode cX8_stonePence 9 = .ok (.imul, 1) := by decide +kernel
theorem dX8_stonePence_10 : decode cX8_stonePence 10 = .ok (.ireturn, 1) := by decide +kernel
theorem dX8_givesAllBack_0 : decode cX8_givesAllBack 0 = .ok (.aload_n 0, 1) := by decide +kernel
theorem dX8_givesAllBack_1 : decode cX8_givesAllBack 1 = .ok (.getfield 11, 3) := by decide +kernel
theorem dX8_givesAllBack_4 : decode cX8_givesAllBack 4 = .ok (.bipush 8, 2) := by decide +kernel
theorem dX8_givesAllBack_6 : decode cX8_givesAllBack 6 = .ok (.iaload, 1) := by decide +kernel
theorem dX8_givesAllBack_7 : decode cX8_givesAllBack 7 = .ok (.iconst 1, 1) := by decide +kernel
theorem dX8_givesAllBack_8 : decode cX8_givesAllBack 8 = .ok (.if_icmp .ne 7, 3) := by decide +kernel
theorem dX8_givesAllBack_11 : decode cX8_givesAllBack 11 = .ok (.iconst 1, 1) := by decide +kernel
theorem dX8_givesAllBack_12 : decode cX8_givesAllBack 12 = .ok (.goto 4, 3) := by decide +kernel
theorem dX8_givesAllBack_15 : decode cX8_givesAllBack 15 = .ok (.iconst 0, 1) := by decide +kernel
theorem dX8_givesAllBack_16 : decode cX8_givesAllBack 16 = .ok (.ireturn, 1) := by decide +kernel
theorem dX9_init_0 : decode cX9_init 0 = .ok (.aload_n 0, 1) := by decide +kernel
theorem dX9_init_1 : decode cX9_init 1 = .ok (.invokespecial 3, 3) := by decide +kernel
theorem dX9_init_4 : decode cX9_init 4 = .ok (.aload_n 0, 1) := by decide +kernel
theorem dX9_init_5 : decode cX9_init 5 = .ok (.new 9, 3) := by decide +kernel
theorem dX9_init_8 : decode cX9_init 8 = .ok (.dup, 1) := by decide +kernel
theorem dX9_init_9 : decode cX9_init 9 = .ok (.invokespecial 11, 3) := by decide +kernel
theorem dX9_init_12 : decode cX9_init 12 = .ok (.putfield 12, 3) := by decide +kernel
theorem dX9_init_15 : decode cX9_init 15 = .ok (.aload_n 0, 1) := by decide +kernel
theorem dX9_init_16 : decode cX9_init 16 = .ok (.bipush 6, 2) := by decide +kernel
theorem dX9_init_18 : decode cX9_init 18 = .ok (.newarray .boolean, 2) := by decide +kernel
theorem dX9_init_20 : decode cX9_init 20 = .ok (.putfield 18, 3) := by decide +kernel
theorem dX9_init_23 : decode cX9_init 23 = .ok (.aload_n 0, 1) := by decide +kernel
theorem dX9_init_24 : decode cX9_init 24 = .ok (.iconst (-1), 1) := by decide +kernel
theorem dX9_init_25 : decode cX9_init 25 = .ok (.putfield 22, 3) := by decide +kernel
theorem dX9_init_28 : decode cX9_init 28 = .ok (.return_, 1) := by decide +kernel
theorem dX9_draft_0 : decode cX9_draft 0 = .ok (.aload_n 0, 1) := by decide +kernel
theorem dX9_draft_1 : decode cX9_draft 1 = .ok (.getfield 12, 3) := by decide +kernel
theorem dX9_draft_4 : decode cX9_draft 4 = .ok (.areturn, 1) := by decide +kernel
theorem dX9_faultKind_0 : decode cX9_faultKind 0 = .ok (.aload_n 0, 1) := by decide +kernel
theorem dX9_faultKind_1 : decode cX9_faultKind 1 = .ok (.getfield 26, 3) := by decide +kernel
theorem dX9_faultKind_4 : decode cX9_faultKind 4 = .ok (.ireturn, 1) := by decide +kernel
theorem dX9_faultPlace_0 : decode cX9_faultPlace 0 = .ok (.aload_n 0, 1) := by decide +kernel
theorem dX9_faultPlace_1 : decode cX9_faultPlace 1 = .ok (.getfield 22, 3) := by decide +kernel
theorem dX9_faultPlace_4 : decode cX9_faultPlace 4 = .ok (.ireturn, 1) := by decide +kernel
theorem dX9_read_0 : decode cX9_read 0 = .ok (.aload_n 0, 1) := by decide +kernel
theorem dX9_read_1 : decode cX9_read 1 = .ok (.invokevirtual 29, 3) := by decide +kernel
theorem dX9_read_4 : decode cX9_read 4 = .ok (.iconst 0, 1) := by decide +kernel
theorem dX9_read_5 : decode cX9_read 5 = .ok (.istore_n 2, 1) := by decide +kernel
theorem dX9_read_6 : decode cX9_read 6 = .ok (.iconst 0, 1) := by decide +kernel
theorem dX9_read_7 : decode cX9_read 7 = .ok (.istore_n 3, 1) := by decide +kernel
theorem dX9_read_8 : decode cX9_read 8 = .ok (.iload_n 3, 1) := by decide +kernel
theorem dX9_read_9 : decode cX9_read 9 = .ok (.bipush 6, 2) := by decide +kernel
theorem dX9_read_11 : decode cX9_read 11 = .ok (.if_icmp .gt 40, 3) := by decide +kernel
theorem dX9_read_14 : decode cX9_read 14 = .ok (.aload_n 0, 1) := by decide +kernel
theorem dX9_read_15 : decode cX9_read 15 = .ok (.aload_n 1, 1) := by decide +kernel
theorem dX9_read_16 : decode cX9_read 16 = .ok (.invokevirtual 32, 3) := by decide +kernel
theorem dX9_read_19 : decode cX9_read 19 = .ok (.aload_n 0, 1) := by decide +kernel
theorem dX9_read_20 : decode cX9_read 20 = .ok (.getfield 36, 3) := by decide +kernel
theorem dX9_read_23 : decode cX9_read 23 = .ok (.ifCond .ne 5, 3) := by decide +kernel
theorem dX9_read_26 : decode cX9_read 26 = .ok (.iload_n 2, 1) := by decide +kernel
theorem dX9_read_27 : decode cX9_read 27 = .ok (.ireturn, 1) := by decide +kernel
theorem dX9_read_28 : decode cX9_read 28 = .ok (.aload_n 0, 1) := by decide +kernel
theorem dX9_read_29 : decode cX9_read 29 = .ok (.aload_n 1, 1) := by decide +kernel
theorem dX9_read_30 : decode cX9_read 30 = .ok (.invokevirtual 39, 3) := by decide +kernel
theorem dX9_read_33 : decode cX9_read 33 = .ok (.aload_n 0, 1) := by decide +kernel
theorem dX9_read_34 : decode cX9_read 34 = .ok (.getfield 26, 3) := by decide +kernel
theorem dX9_read_37 : decode cX9_read 37 = .ok (.ifCond .eq 5, 3) := by decide +kernel
theorem dX9_read_40 : decode cX9_read 40 = .ok (.iconst (-1), 1) := by decide +kernel
theorem dX9_read_41 : decode cX9_read 41 = .ok (.ireturn, 1) := by decide +kernel
theorem dX9_read_42 : decode cX9_read 42 = .ok (.iinc 2 1, 3) := by decide +kernel
theorem dX9_read_45 : decode cX9_read 45 = .ok (.iinc 3 1, 3) := by decide +kernel
theorem dX9_read_48 : decode cX9_read 48 = .ok (.goto (-40), 3) := by decide +kernel
theorem dX9_read_51 : decode cX9_read 51 = .ok (.iconst (-1), 1) := by decide +kernel
theorem dX9_read_52 : decode cX9_read 52 = .ok (.ireturn, 1) := by decide +kernel
theorem dX9_startAnew_0 : decode cX9_startAnew 0 = .ok (.aload_n 0, 1) := by decide +kernel
theorem dX9_startAnew_1 : decode cX9_startAnew 1 = .ok (.getfield 12, 3) := by decide +kernel
theorem dX9_startAnew_4 : decode cX9_startAnew 4 = .ok (.invokevirtual 42, 3) := by decide +kernel
theorem dX9_startAnew_7 : decode cX9_startAnew 7 = .ok (.iconst 0, 1) := by decide +kernel
theorem dX9_startAnew_8 : decode cX9_startAnew 8 = .ok (.istore_n 1, 1) := by decide +kernel
theorem dX9_startAnew_9 : decode cX9_startAnew 9 = .ok (.iload_n 1, 1) := by decide +kernel
theorem dX9_startAnew_10 : decode cX9_startAnew 10 = .ok (.bipush 6, 2) := by decide +kernel
theorem dX9_startAnew_12 : decode cX9_startAnew 12 = .ok (.if_icmp .ge 16, 3) := by decide +kernel
theorem dX9_startAnew_15 : decode cX9_startAnew 15 = .ok (.aload_n 0, 1) := by decide +kernel
theorem dX9_startAnew_16 : decode cX9_startAnew 16 = .ok (.getfield 18, 3) := by decide +kernel
theorem dX9_startAnew_19 : decode cX9_startAnew 19 = .ok (.iload_n 1, 1) := by decide +kernel
theorem dX9_startAnew_20 : decode cX9_startAnew 20 = .ok (.iconst 0, 1) := by decide +kernel
theorem dX9_startAnew_21 : decode cX9_startAnew 21 = .ok (.bastore, 1) := by decide +kernel
theorem dX9_startAnew_22 : decode cX9_startAnew 22 = .ok (.iinc 1 1, 3) := by decide +kernel
theorem dX9_startAnew_25 : decode cX9_startAnew 25 = .ok (.goto (-16), 3) := by decide +kernel
theorem dX9_startAnew_28 : decode cX9_startAnew 28 = .ok (.aload_n 0, 1) := by decide +kernel
theorem dX9_startAnew_29 : decode cX9_startAnew 29 = .ok (.iconst 0, 1) := by decide +kernel
theorem dX9_startAnew_30 : decode cX9_startAnew 30 = .ok (.putfield 45, 3) := by decide +kernel
theorem dX9_startAnew_33 : decode cX9_startAnew 33 = .ok (.aload_n 0, 1) := by decide +kernel
theorem dX9_startAnew_34 : decode cX9_startAnew 34 = .ok (.iconst 0, 1) := by decide +kernel
theorem dX9_startAnew_35 : decode cX9_startAnew 35 = .ok (.putfield 26, 3) := by decide +kernel
theorem dX9_startAnew_38 : decode cX9_startAnew 38 = .ok (.aload_n 0, 1) := by decide +kernel
theorem dX9_startAnew_39 : decode cX9_startAnew 39 = .ok (.iconst (-1), 1) := by decide +kernel
theorem dX9_startAnew_40 : decode cX9_startAnew 40 = .ok (.putfield 22, 3) := by decide +kernel
theorem dX9_startAnew_43 : decode cX9_startAnew 43 = .ok (.return_, 1) := by decide +kernel
theorem dX9_refuse_0 : decode cX9_refuse 0 = .ok (.aload_n 0, 1) := by decide +kernel
theorem dX9_refuse_1 : decode cX9_refuse 1 = .ok (.iload_n 1, 1) := by decide +kernel
theorem dX9_refuse_2 : decode cX9_refuse 2 = .ok (.putfield 26, 3) := by decide +kernel
theorem dX9_refuse_5 : decode cX9_refuse 5 = .ok (.aload_n 0, 1) := by decide +kernel
theorem dX9_refuse_6 : decode cX9_refuse 6 = .ok (.aload_n 0, 1) := by decide +kernel
theorem dX9_refuse_7 : decode cX9_refuse 7 = .ok (.getfield 48, 3) := by decide +kernel
theorem dX9_refuse_10 : decode cX9_refuse 10 = .ok (.putfield 22, 3) := by decide +kernel
theorem dX9_refuse_13 : decode cX9_refuse 13 = .ok (.return_, 1) := by decide +kernel
theorem dX9_readLine_0 : decode cX9_readLine 0 = .ok (.aload_n 0, 1) := by decide +kernel
theorem dX9_readLine_1 : decode cX9_readLine 1 = .ok (.getfield 36, 3) := by decide +kernel
theorem dX9_readLine_4 : decode cX9_readLine 4 = .ok (.iconst 1, 1) := by decide +kernel
theorem dX9_readLine_5 : decode cX9_readLine 5 = .ok (.if_icmp .ne 11, 3) := by decide +kernel
theorem dX9_readLine_8 : decode cX9_readLine 8 = .ok (.aload_n 0, 1) := by decide +kernel
theorem dX9_readLine_9 : decode cX9_readLine 9 = .ok (.aload_n 1, 1) := by decide +kernel
theorem dX9_readLine_10 : decode cX9_readLine 10 = .ok (.invokevirtual 51, 3) := by decide +kernel
theorem dX9_readLine_13 : decode cX9_readLine 13 = .ok (.goto 4, 3) := by decide +kernel
theorem dX9_readLine_16 : decode cX9_readLine 16 = .ok (.iconst (-1), 1) := by decide +kernel
theorem dX9_readLine_17 : decode cX9_readLine 17 = .ok (.istore_n 2, 1) := by decide +kernel
end
section
theorem dX9_readLine_18 : decode cX9_readLine 18 = .ok (.iload_n 2, 1) := by decide +kernel
theorem dX9_readLine_19 : decode cX9_readLine 19 = .ok (.ifCond .lt 9, 3) := by decide +kernel
theorem dX9_readLine_22 : decode cX9_readLine 22 = .ok (.iload_n 2, 1) := by decide +kernel
theorem dX9_readLine_23 : decode cX9_readLine 23 = .ok (.bipush 6, 2) := by decide +kernel
theorem dX9_readLine_25 : decode cX9_readLine 25 = .ok (.if_icmp .lt 9, 3) := by decide +kernel
theorem dX9_readLine_28 : decode cX9_readLine 28 = .ok (.aload_n 0, 1) := by decide +kernel
theorem dX9_readLine_29 : decode cX9_readLine 29 = .ok (.iconst 1, 1) := by decide +kernel
theorem dX9_readLine_30 : decode cX9_readLine 30 = .ok (.invokevirtual 55, 3) := by decide +kernel
theorem dX9_readLine_33 : decode cX9_readLine 33 = .ok (.return_, 1) := by decide +kernel
theorem dX9_readLine_34 : decode cX9_readLine 34 = .ok (.aload_n 0, 1) := by decide +kernel
theorem dX9_readLine_35 : decode cX9_readLine 35 = .ok (.getfield 18, 3) := by decide +kernel
theorem dX9_readLine_38 : decode cX9_readLine 38 = .ok (.iload_n 2, 1) := by decide +kernel
theorem dX9_readLine_39 : decode cX9_readLine 39 = .ok (.baload, 1) := by decide +kernel
theorem dX9_readLine_40 : decode cX9_readLine 40 = .ok (.ifCond .eq 9, 3) := by decide +kernel
theorem dX9_readLine_43 : decode cX9_readLine 43 = .ok (.aload_n 0, 1) := by decide +kernel
theorem dX9_readLine_44 : decode cX9_readLine 44 = .ok (.iconst 3, 1) := by decide +kernel
theorem dX9_readLine_45 : decode cX9_readLine 45 = .ok (.invokevirtual 55, 3) := by decide +kernel
theorem dX9_readLine_48 : decode cX9_readLine 48 = .ok (.return_, 1) := by decide +kernel
theorem dX9_readLine_49 : decode cX9_readLine 49 = .ok (.aload_n 0, 1) := by decide +kernel
theorem dX9_readLine_50 : decode cX9_readLine 50 = .ok (.getfield 18, 3) := by decide +kernel
theorem dX9_readLine_53 : decode cX9_readLine 53 = .ok (.iload_n 2, 1) := by decide +kernel
theorem dX9_readLine_54 : decode cX9_readLine 54 = .ok (.iconst 1, 1) := by decide +kernel
theorem dX9_readLine_55 : decode cX9_readLine 55 = .ok (.bastore, 1) := by decide +kernel
theorem dX9_readLine_56 : decode cX9_readLine 56 = .ok (.iload_n 2, 1) := by decide +kernel
theorem dX9_readLine_57 : decode cX9_readLine 57 = .ok (.iconst 5, 1) := by decide +kernel
theorem dX9_readLine_58 : decode cX9_readLine 58 = .ok (.if_icmp .ne 11, 3) := by decide +kernel
theorem dX9_readLine_61 : decode cX9_readLine 61 = .ok (.aload_n 0, 1) := by decide +kernel
theorem dX9_readLine_62 : decode cX9_readLine 62 = .ok (.aload_n 1, 1) := by decide +kernel
theorem dX9_readLine_63 : decode cX9_readLine 63 = .ok (.invokevirtual 59, 3) := by decide +kernel
theorem dX9_readLine_66 : decode cX9_readLine 66 = .ok (.goto 9, 3) := by decide +kernel
theorem dX9_readLine_69 : decode cX9_readLine 69 = .ok (.aload_n 0, 1) := by decide +kernel
theorem dX9_readLine_70 : decode cX9_readLine 70 = .ok (.aload_n 1, 1) := by decide +kernel
theorem dX9_readLine_71 : decode cX9_readLine 71 = .ok (.iload_n 2, 1) := by decide +kernel
theorem dX9_readLine_72 : decode cX9_readLine 72 = .ok (.invokevirtual 62, 3) := by decide +kernel
theorem dX9_readLine_75 : decode cX9_readLine 75 = .ok (.aload_n 0, 1) := by decide +kernel
theorem dX9_readLine_76 : decode cX9_readLine 76 = .ok (.getfield 26, 3) := by decide +kernel
theorem dX9_readLine_79 : decode cX9_readLine 79 = .ok (.ifCond .ne 21, 3) := by decide +kernel
theorem dX9_readLine_82 : decode cX9_readLine 82 = .ok (.aload_n 0, 1) := by decide +kernel
theorem dX9_readLine_83 : decode cX9_readLine 83 = .ok (.aload_n 1, 1) := by decide +kernel
theorem dX9_readLine_84 : decode cX9_readLine 84 = .ok (.invokevirtual 32, 3) := by decide +kernel
theorem dX9_readLine_87 : decode cX9_readLine 87 = .ok (.aload_n 0, 1) := by decide +kernel
theorem dX9_readLine_88 : decode cX9_readLine 88 = .ok (.getfield 36, 3) := by decide +kernel
theorem dX9_readLine_91 : decode cX9_readLine 91 = .ok (.iconst 3, 1) := by decide +kernel
theorem dX9_readLine_92 : decode cX9_readLine 92 = .ok (.if_icmp .eq 8, 3) := by decide +kernel
theorem dX9_readLine_95 : decode cX9_readLine 95 = .ok (.aload_n 0, 1) := by decide +kernel
theorem dX9_readLine_96 : decode cX9_readLine 96 = .ok (.iconst 1, 1) := by decide +kernel
theorem dX9_readLine_97 : decode cX9_readLine 97 = .ok (.invokevirtual 55, 3) := by decide +kernel
theorem dX9_readLine_100 : decode cX9_readLine 100 = .ok (.return_, 1) := by decide +kernel
theorem dX9_readNumbers_0 : decode cX9_readNumbers 0 = .ok (.iload_n 2, 1) := by decide +kernel
theorem dX9_readNumbers_1 : decode cX9_readNumbers 1 = .ok (.ifCond .lt 19, 3) := by decide +kernel
theorem dX9_readNumbers_4 : decode cX9_readNumbers 4 = .ok (.iload_n 2, 1) := by decide +kernel
theorem dX9_readNumbers_5 : decode cX9_readNumbers 5 = .ok (.getstatic 66, 3) := by decide +kernel
theorem dX9_readNumbers_8 : decode cX9_readNumbers 8 = .ok (.arraylength, 1) := by decide +kernel
theorem dX9_readNumbers_9 : decode cX9_readNumbers 9 = .ok (.if_icmp .ge 11, 3) := by decide +kernel
theorem dX9_readNumbers_12 : decode cX9_readNumbers 12 = .ok (.iload_n 2, 1) := by decide +kernel
theorem dX9_readNumbers_13 : decode cX9_readNumbers 13 = .ok (.getstatic 70, 3) := by decide +kernel
theorem dX9_readNumbers_16 : decode cX9_readNumbers 16 = .ok (.arraylength, 1) := by decide +kernel
theorem dX9_readNumbers_17 : decode cX9_readNumbers 17 = .ok (.if_icmp .lt 4, 3) := by decide +kernel
theorem dX9_readNumbers_20 : decode cX9_readNumbers 20 = .ok (.return_, 1) := by decide +kernel
theorem dX9_readNumbers_21 : decode cX9_readNumbers 21 = .ok (.getstatic 66, 3) := by decide +kernel
theorem dX9_readNumbers_24 : decode cX9_readNumbers 24 = .ok (.iload_n 2, 1) := by decide +kernel
theorem dX9_readNumbers_25 : decode cX9_readNumbers 25 = .ok (.iaload, 1) := by decide +kernel
theorem dX9_readNumbers_26 : decode cX9_readNumbers 26 = .ok (.istore_n 3, 1) := by decide +kernel
theorem dX9_readNumbers_27 : decode cX9_readNumbers 27 = .ok (.iload_n 3, 1) := by decide +kernel
theorem dX9_readNumbers_28 : decode cX9_readNumbers 28 = .ok (.getstatic 70, 3) := by decide +kernel
theorem dX9_readNumbers_31 : decode cX9_readNumbers 31 = .ok (.iload_n 2, 1) := by decide +kernel
theorem dX9_readNumbers_32 : decode cX9_readNumbers 32 = .ok (.iaload, 1) := by decide +kernel
theorem dX9_readNumbers_33 : decode cX9_readNumbers 33 = .ok (.iadd, 1) := by decide +kernel
theorem dX9_readNumbers_34 : decode cX9_readNumbers 34 = .ok (.istore 4, 2) := by decide +kernel
theorem dX9_readNumbers_36 : decode cX9_readNumbers 36 = .ok (.iload_n 3, 1) := by decide +kernel
theorem dX9_readNumbers_37 : decode cX9_readNumbers 37 = .ok (.istore 5, 2) := by decide +kernel
theorem dX9_readNumbers_39 : decode cX9_readNumbers 39 = .ok (.iload 5, 2) := by decide +kernel
theorem dX9_readNumbers_41 : decode cX9_readNumbers 41 = .ok (.iload 4, 2) := by decide +kernel
theorem dX9_readNumbers_43 : decode cX9_readNumbers 43 = .ok (.if_icmp .ge 70, 3) := by decide +kernel
theorem dX9_readNumbers_46 : decode cX9_readNumbers 46 = .ok (.aload_n 0, 1) := by decide +kernel
theorem dX9_readNumbers_47 : decode cX9_readNumbers 47 = .ok (.getfield 26, 3) := by decide +kernel
theorem dX9_readNumbers_50 : decode cX9_readNumbers 50 = .ok (.ifCond .ne 63, 3) := by decide +kernel
theorem dX9_readNumbers_53 : decode cX9_readNumbers 53 = .ok (.aload_n 0, 1) := by decide +kernel
theorem dX9_readNumbers_54 : decode cX9_readNumbers 54 = .ok (.aload_n 1, 1) := by decide +kernel
theorem dX9_readNumbers_55 : decode cX9_readNumbers 55 = .ok (.invokevirtual 32, 3) := by decide +kernel
theorem dX9_readNumbers_58 : decode cX9_readNumbers 58 = .ok (.aload_n 0, 1) := by decide +kernel
theorem dX9_readNumbers_59 : decode cX9_readNumbers 59 = .ok (.getfield 36, 3) := by decide +kernel
theorem dX9_readNumbers_62 : decode cX9_readNumbers 62 = .ok (.iconst 2, 1) := by decide +kernel
theorem dX9_readNumbers_63 : decode cX9_readNumbers 63 = .ok (.if_icmp .eq 11, 3) := by decide +kernel
theorem dX9_readNumbers_66 : decode cX9_readNumbers 66 = .ok (.aload_n 0, 1) := by decide +kernel
theorem dX9_readNumbers_67 : decode cX9_readNumbers 67 = .ok (.iconst 1, 1) := by decide +kernel
theorem dX9_readNumbers_68 : decode cX9_readNumbers 68 = .ok (.invokevirtual 55, 3) := by decide +kernel
theorem dX9_readNumbers_71 : decode cX9_readNumbers 71 = .ok (.goto 36, 3) := by decide +kernel
theorem dX9_readNumbers_74 : decode cX9_readNumbers 74 = .ok (.iload 5, 2) := by decide +kernel
theorem dX9_readNumbers_76 : decode cX9_readNumbers 76 = .ok (.aload_n 0, 1) := by decide +kernel
theorem dX9_readNumbers_77 : decode cX9_readNumbers 77 = .ok (.getfield 73, 3) := by decide +kernel
theorem dX9_readNumbers_80 : decode cX9_readNumbers 80 = .ok (.invokestatic 76, 3) := by decide +kernel
theorem dX9_readNumbers_83 : decode cX9_readNumbers 83 = .ok (.ifCond .ne 11, 3) := by decide +kernel
theorem dX9_readNumbers_86 : decode cX9_readNumbers 86 = .ok (.aload_n 0, 1) := by decide +kernel
theorem dX9_readNumbers_87 : decode cX9_readNumbers 87 = .ok (.iconst 2, 1) := by decide +kernel
theorem dX9_readNumbers_88 : decode cX9_readNumbers 88 = .ok (.invokevirtual 55, 3) := by decide +kernel
theorem dX9_readNumbers_91 : decode cX9_readNumbers 91 = .ok (.goto 16, 3) := by decide +kernel
theorem dX9_readNumbers_94 : decode cX9_readNumbers 94 = .ok (.aload_n 0, 1) := by decide +kernel
theorem dX9_readNumbers_95 : decode cX9_readNumbers 95 = .ok (.getfield 12, 3) := by decide +kernel
theorem dX9_readNumbers_98 : decode cX9_readNumbers 98 = .ok (.iload 5, 2) := by decide +kernel
theorem dX9_readNumbers_100 : decode cX9_readNumbers 100 = .ok (.aload_n 0, 1) := by decide +kernel
theorem dX9_readNumbers_101 : decode cX9_readNumbers 101 = .ok (.getfield 73, 3) := by decide +kernel
theorem dX9_readNumbers_104 : decode cX9_readNumbers 104 = .ok (.invokevirtual 80, 3) := by decide +kernel
theorem dX9_readNumbers_107 : decode cX9_readNumbers 107 = .ok (.iinc 5 1, 3) := by decide +kernel
theorem dX9_readNumbers_110 : decode cX9_readNumbers 110 = .ok (.goto (-71), 3) := by decide +kernel
theorem dX9_readNumbers_113 : decode cX9_readNumbers 113 = .ok (.return_, 1) := by decide +kernel
theorem dX9_isInBounds_0 : decode cX9_isInBounds 0 = .ok (.iload_n 0, 1) := by decide +kernel
theorem dX9_isInBounds_1 : decode cX9_isInBounds 1 = .ok (.ifCond .lt 41, 3) := by decide +kernel
theorem dX9_isInBounds_4 : decode cX9_isInBounds 4 = .ok (.iload_n 0, 1) := by decide +kernel
theorem dX9_isInBounds_5 : decode cX9_isInBounds 5 = .ok (.getstatic 84, 3) := by decide +kernel
theorem dX9_isInBounds_8 : decode cX9_isInBounds 8 = .ok (.arraylength, 1) := by decide +kernel
theorem dX9_isInBounds_9 : decode cX9_isInBounds 9 = .ok (.if_icmp .ge 33, 3) := by decide +kernel
theorem dX9_isInBounds_12 : decode cX9_isInBounds 12 = .ok (.iload_n 0, 1) := by decide +kernel
theorem dX9_isInBounds_13 : decode cX9_isInBounds 13 = .ok (.getstatic 87, 3) := by decide +kernel
theorem dX9_isInBounds_16 : decode cX9_isInBounds 16 = .ok (.arraylength, 1) := by decide +kernel
theorem dX9_isInBounds_17 : decode cX9_isInBounds 17 = .ok (.if_icmp .ge 25, 3) := by decide +kernel
theorem dX9_isInBounds_20 : decode cX9_isInBounds 20 = .ok (.iload_n 1, 1) := by decide +kernel
theorem dX9_isInBounds_21 : decode cX9_isInBounds 21 = .ok (.getstatic 84, 3) := by decide +kernel
theorem dX9_isInBounds_24 : decode cX9_isInBounds 24 = .ok (.iload_n 0, 1) := by decide +kernel
theorem dX9_isInBounds_25 : decode cX9_isInBounds 25 = .ok (.iaload, 1) := by decide +kernel
theorem dX9_isInBounds_26 : decode cX9_isInBounds 26 = .ok (.if_icmp .lt 16, 3) := by decide +kernel
theorem dX9_isInBounds_29 : decode cX9_isInBounds 29 = .ok (.iload_n 1, 1) := by decide +kernel
theorem dX9_isInBounds_30 : decode cX9_isInBounds 30 = .ok (.getstatic 87, 3) := by decide +kernel
theorem dX9_isInBounds_33 : decode cX9_isInBounds 33 = .ok (.iload_n 0, 1) := by decide +kernel
theorem dX9_isInBounds_34 : decode cX9_isInBounds 34 = .ok (.iaload, 1) := by decide +kernel
theorem dX9_isInBounds_35 : decode cX9_isInBounds 35 = .ok (.if_icmp .gt 7, 3) := by decide +kernel
theorem dX9_isInBounds_38 : decode cX9_isInBounds 38 = .ok (.iconst 1, 1) := by decide +kernel
theorem dX9_isInBounds_39 : decode cX9_isInBounds 39 = .ok (.goto 4, 3) := by decide +kernel
theorem dX9_isInBounds_42 : decode cX9_isInBounds 42 = .ok (.iconst 0, 1) := by decide +kernel
theorem dX9_isInBounds_43 : decode cX9_isInBounds 43 = .ok (.ireturn, 1) := by decide +kernel
theorem dX9_readStop_0 : decode cX9_readStop 0 = .ok (.aload_n 0, 1) := by decide +kernel
theorem dX9_readStop_1 : decode cX9_readStop 1 = .ok (.aload_n 1, 1) := by decide +kernel
theorem dX9_readStop_2 : decode cX9_readStop 2 = .ok (.invokevirtual 32, 3) := by decide +kernel
theorem dX9_readStop_5 : decode cX9_readStop 5 = .ok (.aload_n 0, 1) := by decide +kernel
theorem dX9_readStop_6 : decode cX9_readStop 6 = .ok (.getfield 36, 3) := by decide +kernel
theorem dX9_readStop_9 : decode cX9_readStop 9 = .ok (.iconst 1, 1) := by decide +kernel
theorem dX9_readStop_10 : decode cX9_readStop 10 = .ok (.if_icmp .ne 26, 3) := by decide +kernel
theorem dX9_readStop_13 : decode cX9_readStop 13 = .ok (.aload_n 0, 1) := by decide +kernel
theorem dX9_readStop_14 : decode cX9_readStop 14 = .ok (.aload_n 1, 1) := by decide +kernel
theorem dX9_readStop_15 : decode cX9_readStop 15 = .ok (.ldc 90, 2) := by decide +kernel
theorem dX9_readStop_17 : decode cX9_readStop 17 = .ok (.invokevirtual 92, 3) := by decide +kernel
theorem dX9_readStop_20 : decode cX9_readStop 20 = .ok (.ifCond .eq 16, 3) := by decide +kernel
theorem dX9_readStop_23 : decode cX9_readStop 23 = .ok (.aload_n 0, 1) := by decide +kernel
theorem dX9_readStop_24 : decode cX9_readStop 24 = .ok (.getfield 12, 3) := by decide +kernel
theorem dX9_readStop_27 : decode cX9_readStop 27 = .ok (.bipush 8, 2) := by decide +kernel
theorem dX9_readStop_29 : decode cX9_readStop 29 = .ok (.iconst 1, 1) := by decide +kernel
theorem dX9_readStop_30 : decode cX9_readStop 30 = .ok (.invokevirtual 80, 3) := by decide +kernel
theorem dX9_readStop_33 : decode cX9_readStop 33 = .ok (.goto 39, 3) := by decide +kernel
theorem dX9_readStop_36 : decode cX9_readStop 36 = .ok (.aload_n 0, 1) := by decide +kernel
theorem dX9_readStop_37 : decode cX9_readStop 37 = .ok (.getfield 36, 3) := by decide +kernel
theorem dX9_readStop_40 : decode cX9_readStop 40 = .ok (.iconst 1, 1) := by decide +kernel
theorem dX9_readStop_41 : decode cX9_readStop 41 = .ok (.if_icmp .ne 26, 3) := by decide +kernel
theorem dX9_readStop_44 : decode cX9_readStop 44 = .ok (.aload_n 0, 1) := by decide +kernel
theorem dX9_readStop_45 : decode cX9_readStop 45 = .ok (.aload_n 1, 1) := by decide +kernel
theorem dX9_readStop_46 : decode cX9_readStop 46 = .ok (.ldc 96, 2) := by decide +kernel
theorem dX9_readStop_48 : decode cX9_readStop 48 = .ok (.invokevirtual 92, 3) := by decide +kernel
theorem dX9_readStop_51 : decode cX9_readStop 51 = .ok (.ifCond .eq 16, 3) := by decide +kernel
theorem dX9_readStop_54 : decode cX9_readStop 54 = .ok (.aload_n 0, 1) := by decide +kernel
theorem dX9_readStop_55 : decode cX9_readStop 55 = .ok (.getfield 12, 3) := by decide +kernel
theorem dX9_readStop_58 : decode cX9_readStop 58 = .ok (.bipush 8, 2) := by decide +kernel
theorem dX9_readStop_60 : decode cX9_readStop 60 = .ok (.iconst 0, 1) := by decide +kernel
theorem dX9_readStop_61 : decode cX9_readStop 61 = .ok (.invokevirtual 80, 3) := by decide +kernel
theorem dX9_readStop_64 : decode cX9_readStop 64 = .ok (.goto 8, 3) := by decide +kernel
theorem dX9_readStop_67 : decode cX9_readStop 67 = .ok (.aload_n 0, 1) := by decide +kernel
theorem dX9_readStop_68 : decode cX9_readStop 68 = .ok (.iconst 1, 1) := by decide +kernel
theorem dX9_readStop_69 : decode cX9_readStop 69 = .ok (.invokevirtual 55, 3) := by decide +kernel
theorem dX9_readStop_72 : decode cX9_readStop 72 = .ok (.return_, 1) := by decide +kernel
theorem dX9_lineOfWord_0 : decode cX9_lineOfWord 0 = .ok (.aload_n 0, 1) := by decide +kernel
theorem dX9_lineOfWord_1 : decode cX9_lineOfWord 1 = .ok (.aload_n 1, 1) := by decide +kernel
theorem dX9_lineOfWord_2 : decode cX9_lineOfWord 2 = .ok (.ldc 98, 2) := by decide +kernel
theorem dX9_lineOfWord_4 : decode cX9_lineOfWord 4 = .ok (.invokevirtual 92, 3) := by decide +kernel
theorem dX9_lineOfWord_7 : decode cX9_lineOfWord 7 = .ok (.ifCond .eq 5, 3) := by decide +kernel
theorem dX9_lineOfWord_10 : decode cX9_lineOfWord 10 = .ok (.iconst 0, 1) := by decide +kernel
theorem dX9_lineOfWord_11 : decode cX9_lineOfWord 11 = .ok (.ireturn, 1) := by decide +kernel
theorem dX9_lineOfWord_12 : decode cX9_lineOfWord 12 = .ok (.aload_n 0, 1) := by decide +kernel
theorem dX9_lineOfWord_13 : decode cX9_lineOfWord 13 = .ok (.aload_n 1, 1) := by decide +kernel
theorem dX9_lineOfWord_14 : decode cX9_lineOfWord 14 = .ok (.ldc 100, 2) := by decide +kernel
theorem dX9_lineOfWord_16 : decode cX9_lineOfWord 16 = .ok (.invokevirtual 92, 3) := by decide +kernel
theorem dX9_lineOfWord_19 : decode cX9_lineOfWord 19 = .ok (.ifCond .eq 5, 3) := by decide +kernel
theorem dX9_lineOfWord_22 : decode cX9_lineOfWord 22 = .ok (.iconst 1, 1) := by decide +kernel
theorem dX9_lineOfWord_23 : decode cX9_lineOfWord 23 = .ok (.ireturn, 1) := by decide +kernel
theorem dX9_lineOfWord_24 : decode cX9_lineOfWord 24 = .ok (.aload_n 0, 1) := by decide +kernel
theorem dX9_lineOfWord_25 : decode cX9_lineOfWord 25 = .ok (.aload_n 1, 1) := by decide +kernel
theorem dX9_lineOfWord_26 : decode cX9_lineOfWord 26 = .ok (.ldc 102, 2) := by decide +kernel
theorem dX9_lineOfWord_28 : decode cX9_lineOfWord 28 = .ok (.invokevirtual 92, 3) := by decide +kernel
theorem dX9_lineOfWord_31 : decode cX9_lineOfWord 31 = .ok (.ifCond .eq 5, 3) := by decide +kernel
theorem dX9_lineOfWord_34 : decode cX9_lineOfWord 34 = .ok (.iconst 2, 1) := by decide +kernel
theorem dX9_lineOfWord_35 : decode cX9_lineOfWord 35 = .ok (.ireturn, 1) := by decide +kernel
theorem dX9_lineOfWord_36 : decode cX9_lineOfWord 36 = .ok (.aload_n 0, 1) := by decide +kernel
theorem dX9_lineOfWord_37 : decode cX9_lineOfWord 37 = .ok (.aload_n 1, 1) := by decide +kernel
theorem dX9_lineOfWord_38 : decode cX9_lineOfWord 38 = .ok (.ldc 104, 2) := by decide +kernel
theorem dX9_lineOfWord_40 : decode cX9_lineOfWord 40 = .ok (.invokevirtual 92, 3) := by decide +kernel
theorem dX9_lineOfWord_43 : decode cX9_lineOfWord 43 = .ok (.ifCond .eq 5, 3) := by decide +kernel
theorem dX9_lineOfWord_46 : decode cX9_lineOfWord 46 = .ok (.iconst 3, 1) := by decide +kernel
theorem dX9_lineOfWord_47 : decode cX9_lineOfWord 47 = .ok (.ireturn, 1) := by decide +kernel
theorem dX9_lineOfWord_48 : decode cX9_lineOfWord 48 = .ok (.aload_n 0, 1) := by decide +kernel
theorem dX9_lineOfWord_49 : decode cX9_lineOfWord 49 = .ok (.aload_n 1, 1) := by decide +kernel
theorem dX9_lineOfWord_50 : decode cX9_lineOfWord 50 = .ok (.ldc 106, 2) := by decide +kernel
theorem dX9_lineOfWord_52 : decode cX9_lineOfWord 52 = .ok (.invokevirtual 92, 3) := by decide +kernel
theorem dX9_lineOfWord_55 : decode cX9_lineOfWord 55 = .ok (.ifCond .eq 5, 3) := by decide +kernel
theorem dX9_lineOfWord_58 : decode cX9_lineOfWord 58 = .ok (.iconst 4, 1) := by decide +kernel
theorem dX9_lineOfWord_59 : decode cX9_lineOfWord 59 = .ok (.ireturn, 1) := by decide +kernel
theorem dX9_lineOfWord_60 : decode cX9_lineOfWord 60 = .ok (.aload_n 0, 1) := by decide +kernel
theorem dX9_lineOfWord_61 : decode cX9_lineOfWord 61 = .ok (.aload_n 1, 1) := by decide +kernel
theorem dX9_lineOfWord_62 : decode cX9_lineOfWord 62 = .ok (.ldc 108, 2) := by decide +kernel
theorem dX9_lineOfWord_64 : decode cX9_lineOfWord 64 = .ok (.invokevirtual 92, 3) := by decide +kernel
theorem dX9_lineOfWord_67 : decode cX9_lineOfWord 67 = .ok (.ifCond .eq 7, 3) := by decide +kernel
theorem dX9_lineOfWord_70 : decode cX9_lineOfWord 70 = .ok (.iconst 5, 1) := by decide +kernel
theorem dX9_lineOfWord_71 : decode cX9_lineOfWord 71 = .ok (.goto 4, 3) := by decide +kernel
theorem dX9_lineOfWord_74 : decode cX9_lineOfWord 74 = .ok (.iconst (-1), 1) := by decide +kernel
theorem dX9_lineOfWord_75 : decode cX9_lineOfWord 75 = .ok (.ireturn, 1) := by decide +kernel
theorem dX9_isWord_0 : decode cX9_isWord 0 = .ok (.aload_n 0, 1) := by decide +kernel
theorem dX9_isWord_1 : decode cX9_isWord 1 = .ok (.getfield 45, 3) := by decide +kernel
theorem dX9_isWord_4 : decode cX9_isWord 4 = .ok (.aload_n 0, 1) := by decide +kernel
theorem dX9_isWord_5 : decode cX9_isWord 5 = .ok (.getfield 48, 3) := by decide +kernel
theorem dX9_isWord_8 : decode cX9_isWord 8 = .ok (.isub, 1) := by decide +kernel
theorem dX9_isWord_9 : decode cX9_isWord 9 = .ok (.aload_n 2, 1) := by decide +kernel
theorem dX9_isWord_10 : decode cX9_isWord 10 = .ok (.invokevirtual 110, 3) := by decide +kernel
theorem dX9_isWord_13 : decode cX9_isWord 13 = .ok (.if_icmp .eq 5, 3) := by decide +kernel
theorem dX9_isWord_16 : decode cX9_isWord 16 = .ok (.iconst 0, 1) := by decide +kernel
theorem dX9_isWord_17 : decode cX9_isWord 17 = .ok (.ireturn, 1) := by decide +kernel
theorem dX9_isWord_18 : decode cX9_isWord 18 = .ok (.iconst 0, 1) := by decide +kernel
theorem dX9_isWord_19 : decode cX9_isWord 19 = .ok (.istore_n 3, 1) := by decide +kernel
theorem dX9_isWord_20 : decode cX9_isWord 20 = .ok (.iload_n 3, 1) := by decide +kernel
theorem dX9_isWord_21 : decode cX9_isWord 21 = .ok (.aload_n 2, 1) := by decide +kernel
theorem dX9_isWord_22 : decode cX9_isWord 22 = .ok (.invokevirtual 110, 3) := by decide +kernel
theorem dX9_isWord_25 : decode cX9_isWord 25 = .ok (.if_icmp .ge 29, 3) := by decide +kernel
theorem dX9_isWord_28 : decode cX9_isWord 28 = .ok (.aload_n 1, 1) := by decide +kernel
theorem dX9_isWord_29 : decode cX9_isWord 29 = .ok (.aload_n 0, 1) := by decide +kernel
theorem dX9_isWord_30 : decode cX9_isWord 30 = .ok (.getfield 48, 3) := by decide +kernel
theorem dX9_isWord_33 : decode cX9_isWord 33 = .ok (.iload_n 3, 1) := by decide +kernel
theorem dX9_isWord_34 : decode cX9_isWord 34 = .ok (.iadd, 1) := by decide +kernel
theorem dX9_isWord_35 : decode cX9_isWord 35 = .ok (.invokevirtual 116, 3) := by decide +kernel
theorem dX9_isWord_38 : decode cX9_isWord 38 = .ok (.aload_n 2, 1) := by decide +kernel
theorem dX9_isWord_39 : decode cX9_isWord 39 = .ok (.iload_n 3, 1) := by decide +kernel
theorem dX9_isWord_40 : decode cX9_isWord 40 = .ok (.invokevirtual 122, 3) := by decide +kernel
theorem dX9_isWord_43 : decode cX9_isWord 43 = .ok (.if_icmp .eq 5, 3) := by decide +kernel
theorem dX9_isWord_46 : decode cX9_isWord 46 = .ok (.iconst 0, 1) := by decide +kernel
theorem dX9_isWord_47 : decode cX9_isWord 47 = .ok (.ireturn, 1) := by decide +kernel
theorem dX9_isWord_48 : decode cX9_isWord 48 = .ok (.iinc 3 1, 3) := by decide +kernel
theorem dX9_isWord_51 : decode cX9_isWord 51 = .ok (.goto (-31), 3) := by decide +kernel
theorem dX9_isWord_54 : decode cX9_isWord 54 = .ok (.iconst 1, 1) := by decide +kernel
theorem dX9_isWord_55 : decode cX9_isWord 55 = .ok (.ireturn, 1) := by decide +kernel
theorem dX9_readToken_0 : decode cX9_readToken 0 = .ok (.aload_n 0, 1) := by decide +kernel
theorem dX9_readToken_1 : decode cX9_readToken 1 = .ok (.getfield 45, 3) := by decide +kernel
theorem dX9_readToken_4 : decode cX9_readToken 4 = .ok (.aload_n 1, 1) := by decide +kernel
theorem dX9_readToken_5 : decode cX9_readToken 5 = .ok (.invokevirtual 126, 3) := by decide +kernel
theorem dX9_readToken_8 : decode cX9_readToken 8 = .ok (.if_icmp .ge 30, 3) := by decide +kernel
theorem dX9_readToken_11 : decode cX9_readToken 11 = .ok (.aload_n 1, 1) := by decide +kernel
theorem dX9_readToken_12 : decode cX9_readToken 12 = .ok (.aload_n 0, 1) := by decide +kernel
theorem dX9_readToken_13 : decode cX9_readToken 13 = .ok (.getfield 45, 3) := by decide +kernel
theorem dX9_readToken_16 : decode cX9_readToken 16 = .ok (.invokevirtual 116, 3) := by decide +kernel
theorem dX9_readToken_19 : decode cX9_readToken 19 = .ok (.invokestatic 127, 3) := by decide +kernel
theorem dX9_readToken_22 : decode cX9_readToken 22 = .ok (.ifCond .eq 16, 3) := by decide +kernel
theorem dX9_readToken_25 : decode cX9_readToken 25 = .ok (.aload_n 0, 1) := by decide +kernel
theorem dX9_readToken_26 : decode cX9_readToken 26 = .ok (.dup, 1) := by decide +kernel
theorem dX9_readToken_27 : decode cX9_readToken 27 = .ok (.getfield 45, 3) := by decide +kernel
theorem dX9_readToken_30 : decode cX9_readToken 30 = .ok (.iconst 1, 1) := by decide +kernel
theorem dX9_readToken_31 : decode cX9_readToken 31 = .ok (.iadd, 1) := by decide +kernel
theorem dX9_readToken_32 : decode cX9_readToken 32 = .ok (.putfield 45, 3) := by decide +kernel
theorem dX9_readToken_35 : decode cX9_readToken 35 = .ok (.goto (-35), 3) := by decide +kernel
theorem dX9_readToken_38 : decode cX9_readToken 38 = .ok (.aload_n 0, 1) := by decide +kernel
theorem dX9_readToken_39 : decode cX9_readToken 39 = .ok (.aload_n 0, 1) := by decide +kernel
theorem dX9_readToken_40 : decode cX9_readToken 40 = .ok (.getfield 45, 3) := by decide +kernel
theorem dX9_readToken_43 : decode cX9_readToken 43 = .ok (.putfield 48, 3) := by decide +kernel
theorem dX9_readToken_46 : decode cX9_readToken 46 = .ok (.aload_n 1, 1) := by decide +kernel
theorem dX9_readToken_47 : decode cX9_readToken 47 = .ok (.aload_n 0, 1) := by decide +kernel
theorem dX9_readToken_48 : decode cX9_readToken 48 = .ok (.getfield 45, 3) := by decide +kernel
theorem dX9_readToken_51 : decode cX9_readToken 51 = .ok (.invokevirtual 116, 3) := by decide +kernel
theorem dX9_readToken_54 : decode cX9_readToken 54 = .ok (.istore_n 2, 1) := by decide +kernel
theorem dX9_readToken_55 : decode cX9_readToken 55 = .ok (.iload_n 2, 1) := by decide +kernel
theorem dX9_readToken_56 : decode cX9_readToken 56 = .ok (.iconst (-1), 1) := by decide +kernel
theorem dX9_readToken_57 : decode cX9_readToken 57 = .ok (.if_icmp .ne 11, 3) := by decide +kernel
theorem dX9_readToken_60 : decode cX9_readToken 60 = .ok (.aload_n 0, 1) := by decide +kernel
theorem dX9_readToken_61 : decode cX9_readToken 61 = .ok (.iconst 0, 1) := by decide +kernel
theorem dX9_readToken_62 : decode cX9_readToken 62 = .ok (.putfield 36, 3) := by decide +kernel
theorem dX9_readToken_65 : decode cX9_readToken 65 = .ok (.goto 58, 3) := by decide +kernel
theorem dX9_readToken_68 : decode cX9_readToken 68 = .ok (.iload_n 2, 1) := by decide +kernel
theorem dX9_readToken_69 : decode cX9_readToken 69 = .ok (.invokestatic 131, 3) := by decide +kernel
theorem dX9_readToken_72 : decode cX9_readToken 72 = .ok (.ifCond .eq 11, 3) := by decide +kernel
theorem dX9_readToken_75 : decode cX9_readToken 75 = .ok (.aload_n 0, 1) := by decide +kernel
theorem dX9_readToken_76 : decode cX9_readToken 76 = .ok (.aload_n 1, 1) := by decide +kernel
theorem dX9_readToken_77 : decode cX9_readToken 77 = .ok (.invokevirtual 134, 3) := by decide +kernel
theorem dX9_readToken_80 : decode cX9_readToken 80 = .ok (.goto 43, 3) := by decide +kernel
theorem dX9_readToken_83 : decode cX9_readToken 83 = .ok (.iload_n 2, 1) := by decide +kernel
theorem dX9_readToken_84 : decode cX9_readToken 84 = .ok (.invokestatic 137, 3) := by decide +kernel
theorem dX9_readToken_87 : decode cX9_readToken 87 = .ok (.ifCond .eq 11, 3) := by decide +kernel
theorem dX9_readToken_90 : decode cX9_readToken 90 = .ok (.aload_n 0, 1) := by decide +kernel
theorem dX9_readToken_91 : decode cX9_readToken 91 = .ok (.aload_n 1, 1) := by decide +kernel
theorem dX9_readToken_92 : decode cX9_readToken 92 = .ok (.invokevirtual 140, 3) := by decide +kernel
theorem dX9_readToken_95 : decode cX9_readToken 95 = .ok (.goto 28, 3) := by decide +kernel
theorem dX9_readToken_98 : decode cX9_readToken 98 = .ok (.aload_n 0, 1) := by decide +kernel
theorem dX9_readToken_99 : decode cX9_readToken 99 = .ok (.dup, 1) := by decide +kernel
theorem dX9_readToken_100 : decode cX9_readToken 100 = .ok (.getfield 45, 3) := by decide +kernel
theorem dX9_readToken_103 : decode cX9_readToken 103 = .ok (.iconst 1, 1) := by decide +kernel
theorem dX9_readToken_104 : decode cX9_readToken 104 = .ok (.iadd, 1) := by decide +kernel
theorem dX9_readToken_105 : decode cX9_readToken 105 = .ok (.putfield 45, 3) := by decide +kernel
theorem dX9_readToken_108 : decode cX9_readToken 108 = .ok (.aload_n 0, 1) := by decide +kernel
theorem dX9_readToken_109 : decode cX9_readToken 109 = .ok (.iload_n 2, 1) := by decide +kernel
theorem dX9_readToken_110 : decode cX9_readToken 110 = .ok (.bipush 59, 2) := by decide +kernel
theorem dX9_readToken_112 : decode cX9_readToken 112 = .ok (.if_icmp .ne 7, 3) := by decide +kernel
theorem dX9_readToken_115 : decode cX9_readToken 115 = .ok (.iconst 3, 1) := by decide +kernel
theorem dX9_readToken_116 : decode cX9_readToken 116 = .ok (.goto 4, 3) := by decide +kernel
theorem dX9_readToken_119 : decode cX9_readToken 119 = .ok (.iconst 4, 1) := by decide +kernel
theorem dX9_readToken_120 : decode cX9_readToken 120 = .ok (.putfield 36, 3) := by decide +kernel
theorem dX9_readToken_123 : decode cX9_readToken 123 = .ok (.return_, 1) := by decide +kernel
theorem dX9_readWord_0 : decode cX9_readWord 0 = .ok (.aload_n 0, 1) := by decide +kernel
theorem dX9_readWord_1 : decode cX9_readWord 1 = .ok (.getfield 45, 3) := by decide +kernel
theorem dX9_readWord_4 : decode cX9_readWord 4 = .ok (.aload_n 1, 1) := by decide +kernel
theorem dX9_readWord_5 : decode cX9_readWord 5 = .ok (.invokevirtual 126, 3) := by decide +kernel
theorem dX9_readWord_8 : decode cX9_readWord 8 = .ok (.if_icmp .ge 30, 3) := by decide +kernel
theorem dX9_readWord_11 : decode cX9_readWord 11 = .ok (.aload_n 1, 1) := by decide +kernel
theorem dX9_readWord_12 : decode cX9_readWord 12 = .ok (.aload_n 0, 1) := by decide +kernel
theorem dX9_readWord_13 : decode cX9_readWord 13 = .ok (.getfield 45, 3) := by decide +kernel
theorem dX9_readWord_16 : decode cX9_readWord 16 = .ok (.invokevirtual 116, 3) := by decide +kernel
theorem dX9_readWord_19 : decode cX9_readWord 19 = .ok (.invokestatic 131, 3) := by decide +kernel
theorem dX9_readWord_22 : decode cX9_readWord 22 = .ok (.ifCond .eq 16, 3) := by decide +kernel
theorem dX9_readWord_25 : decode cX9_readWord 25 = .ok (.aload_n 0, 1) := by decide +kernel
theorem dX9_readWord_26 : decode cX9_readWord 26 = .ok (.dup, 1) := by decide +kernel
theorem dX9_readWord_27 : decode cX9_readWord 27 = .ok (.getfield 45, 3) := by decide +kernel
theorem dX9_readWord_30 : decode cX9_readWord 30 = .ok (.iconst 1, 1) := by decide +kernel
theorem dX9_readWord_31 : decode cX9_readWord 31 = .ok (.iadd, 1) := by decide +kernel
theorem dX9_readWord_32 : decode cX9_readWord 32 = .ok (.putfield 45, 3) := by decide +kernel
theorem dX9_readWord_35 : decode cX9_readWord 35 = .ok (.goto (-35), 3) := by decide +kernel
theorem dX9_readWord_38 : decode cX9_readWord 38 = .ok (.aload_n 0, 1) := by decide +kernel
theorem dX9_readWord_39 : decode cX9_readWord 39 = .ok (.iconst 1, 1) := by decide +kernel
theorem dX9_readWord_40 : decode cX9_readWord 40 = .ok (.putfield 36, 3) := by decide +kernel
theorem dX9_readWord_43 : decode cX9_readWord 43 = .ok (.return_, 1) := by decide +kernel
theorem dX9_readNumber_0 : decode cX9_readNumber 0 = .ok (.aload_n 0, 1) := by decide +kernel
theorem dX9_readNumber_1 : decode cX9_readNumber 1 = .ok (.iconst 0, 1) := by decide +kernel
theorem dX9_readNumber_2 : decode cX9_readNumber 2 = .ok (.putfield 73, 3) := by decide +kernel
theorem dX9_readNumber_5 : decode cX9_readNumber 5 = .ok (.aload_n 0, 1) := by decide +kernel
theorem dX9_readNumber_6 : decode cX9_readNumber 6 = .ok (.getfield 45, 3) := by decide +kernel
theorem dX9_readNumber_9 : decode cX9_readNumber 9 = .ok (.aload_n 1, 1) := by decide +kernel
theorem dX9_readNumber_10 : decode cX9_readNumber 10 = .ok (.invokevirtual 126, 3) := by decide +kernel
theorem dX9_readNumber_13 : decode cX9_readNumber 13 = .ok (.if_icmp .ge 67, 3) := by decide +kernel
theorem dX9_readNumber_16 : decode cX9_readNumber 16 = .ok (.aload_n 1, 1) := by decide +kernel
theorem dX9_readNumber_17 : decode cX9_readNumber 17 = .ok (.aload_n 0, 1) := by decide +kernel
theorem dX9_readNumber_18 : decode cX9_readNumber 18 = .ok (.getfield 45, 3) := by decide +kernel
theorem dX9_readNumber_21 : decode cX9_readNumber 21 = .ok (.invokevirtual 116, 3) := by decide +kernel
theorem dX9_readNumber_24 : decode cX9_readNumber 24 = .ok (.invokestatic 137, 3) := by decide +kernel
theorem dX9_readNumber_27 : decode cX9_readNumber 27 = .ok (.ifCond .eq 53, 3) := by decide +kernel
theorem dX9_readNumber_30 : decode cX9_readNumber 30 = .ok (.aload_n 0, 1) := by decide +kernel
theorem dX9_readNumber_31 : decode cX9_readNumber 31 = .ok (.getfield 45, 3) := by decide +kernel
theorem dX9_readNumber_34 : decode cX9_readNumber 34 = .ok (.aload_n 0, 1) := by decide +kernel
theorem dX9_readNumber_35 : decode cX9_readNumber 35 = .ok (.getfield 48, 3) := by decide +kernel
theorem dX9_readNumber_38 : decode cX9_readNumber 38 = .ok (.isub, 1) := by decide +kernel
theorem dX9_readNumber_39 : decode cX9_readNumber 39 = .ok (.bipush 6, 2) := by decide +kernel
theorem dX9_readNumber_41 : decode cX9_readNumber 41 = .ok (.if_icmp .ge 26, 3) := by decide +kernel
theorem dX9_readNumber_44 : decode cX9_readNumber 44 = .ok (.aload_n 0, 1) := by decide +kernel
theorem dX9_readNumber_45 : decode cX9_readNumber 45 = .ok (.aload_n 0, 1) := by decide +kernel
theorem dX9_readNumber_46 : decode cX9_readNumber 46 = .ok (.getfield 73, 3) := by decide +kernel
theorem dX9_readNumber_49 : decode cX9_readNumber 49 = .ok (.bipush 10, 2) := by decide +kernel
theorem dX9_readNumber_51 : decode cX9_readNumber 51 = .ok (.imul, 1) := by decide +kernel
theorem dX9_readNumber_52 : decode cX9_readNumber 52 = .ok (.aload_n 1, 1) := by decide +kernel
theorem dX9_readNumber_53 : decode cX9_readNumber 53 = .ok (.aload_n 0, 1) := by decide +kernel
theorem dX9_readNumber_54 : decode cX9_readNumber 54 = .ok (.getfield 45, 3) := by decide +kernel
theorem dX9_readNumber_57 : decode cX9_readNumber 57 = .ok (.invokevirtual 116, 3) := by decide +kernel
theorem dX9_readNumber_60 : decode cX9_readNumber 60 = .ok (.iadd, 1) := by decide +kernel
theorem dX9_readNumber_61 : decode cX9_readNumber 61 = .ok (.bipush 48, 2) := by decide +kernel
theorem dX9_readNumber_63 : decode cX9_readNumber 63 = .ok (.isub, 1) := by decide +kernel
theorem dX9_readNumber_64 : decode cX9_readNumber 64 = .ok (.putfield 73, 3) := by decide +kernel
theorem dX9_readNumber_67 : decode cX9_readNumber 67 = .ok (.aload_n 0, 1) := by decide +kernel
theorem dX9_readNumber_68 : decode cX9_readNumber 68 = .ok (.dup, 1) := by decide +kernel
theorem dX9_readNumber_69 : decode cX9_readNumber 69 = .ok (.getfield 45, 3) := by decide +kernel
theorem dX9_readNumber_72 : decode cX9_readNumber 72 = .ok (.iconst 1, 1) := by decide +kernel
theorem dX9_readNumber_73 : decode cX9_readNumber 73 = .ok (.iadd, 1) := by decide +kernel
theorem dX9_readNumber_74 : decode cX9_readNumber 74 = .ok (.putfield 45, 3) := by decide +kernel
theorem dX9_readNumber_77 : decode cX9_readNumber 77 = .ok (.goto (-72), 3) := by decide +kernel
theorem dX9_readNumber_80 : decode cX9_readNumber 80 = .ok (.aload_n 0, 1) := by decide +kernel
theorem dX9_readNumber_81 : decode cX9_readNumber 81 = .ok (.aload_n 0, 1) := by decide +kernel
theorem dX9_readNumber_82 : decode cX9_readNumber 82 = .ok (.getfield 45, 3) := by decide +kernel
theorem dX9_readNumber_85 : decode cX9_readNumber 85 = .ok (.aload_n 0, 1) := by decide +kernel
theorem dX9_readNumber_86 : decode cX9_readNumber 86 = .ok (.getfield 48, 3) := by decide +kernel
theorem dX9_readNumber_89 : decode cX9_readNumber 89 = .ok (.isub, 1) := by decide +kernel
theorem dX9_readNumber_90 : decode cX9_readNumber 90 = .ok (.bipush 6, 2) := by decide +kernel
theorem dX9_readNumber_92 : decode cX9_readNumber 92 = .ok (.if_icmp .gt 7, 3) := by decide +kernel
theorem dX9_readNumber_95 : decode cX9_readNumber 95 = .ok (.iconst 2, 1) := by decide +kernel
theorem dX9_readNumber_96 : decode cX9_readNumber 96 = .ok (.goto 4, 3) := by decide +kernel
theorem dX9_readNumber_99 : decode cX9_readNumber 99 = .ok (.iconst 4, 1) := by decide +kernel
theorem dX9_readNumber_100 : decode cX9_readNumber 100 = .ok (.putfield 36, 3) := by decide +kernel
theorem dX9_readNumber_103 : decode cX9_readNumber 103 = .ok (.return_, 1) := by decide +kernel
theorem dX9_isBlank_0 : decode cX9_isBlank 0 = .ok (.iload_n 0, 1) := by decide +kernel
theorem dX9_isBlank_1 : decode cX9_isBlank 1 = .ok (.bipush 32, 2) := by decide +kernel
theorem dX9_isBlank_3 : decode cX9_isBlank 3 = .ok (.if_icmp .eq 9, 3) := by decide +kernel
theorem dX9_isBlank_6 : decode cX9_isBlank 6 = .ok (.iload_n 0, 1) := by decide +kernel
theorem dX9_isBlank_7 : decode cX9_isBlank 7 = .ok (.bipush 10, 2) := by decide +kernel
theorem dX9_isBlank_9 : decode cX9_isBlank 9 = .ok (.if_icmp .ne 7, 3) := by decide +kernel
theorem dX9_isBlank_12 : decode cX9_isBlank 12 = .ok (.iconst 1, 1) := by decide +kernel
theorem dX9_isBlank_13 : decode cX9_isBlank 13 = .ok (.goto 4, 3) := by decide +kernel
theorem dX9_isBlank_16 : decode cX9_isBlank 16 = .ok (.iconst 0, 1) := by decide +kernel
theorem dX9_isBlank_17 : decode cX9_isBlank 17 = .ok (.ireturn, 1) := by decide +kernel
theorem dX9_isLetter_0 : decode cX9_isLetter 0 = .ok (.iload_n 0, 1) := by decide +kernel
theorem dX9_isLetter_1 : decode cX9_isLetter 1 = .ok (.bipush 97, 2) := by decide +kernel
theorem dX9_isLetter_3 : decode cX9_isLetter 3 = .ok (.if_icmp .lt 13, 3) := by decide +kernel
theorem dX9_isLetter_6 : decode cX9_isLetter 6 = .ok (.iload_n 0, 1) := by decide +kernel
theorem dX9_isLetter_7 : decode cX9_isLetter 7 = .ok (.bipush 122, 2) := by decide +kernel
theorem dX9_isLetter_9 : decode cX9_isLetter 9 = .ok (.if_icmp .gt 7, 3) := by decide +kernel
theorem dX9_isLetter_12 : decode cX9_isLetter 12 = .ok (.iconst 1, 1) := by decide +kernel
theorem dX9_isLetter_13 : decode cX9_isLetter 13 = .ok (.goto 4, 3) := by decide +kernel
theorem dX9_isLetter_16 : decode cX9_isLetter 16 = .ok (.iconst 0, 1) := by decide +kernel
theorem dX9_isLetter_17 : decode cX9_isLetter 17 = .ok (.ireturn, 1) := by decide +kernel
theorem dX9_isDigit_0 : decode cX9_isDigit 0 = .ok (.iload_n 0, 1) := by decide +kernel
theorem dX9_isDigit_1 : decode cX9_isDigit 1 = .ok (.bipush 48, 2) := by decide +kernel
theorem dX9_isDigit_3 : decode cX9_isDigit 3 = .ok (.if_icmp .lt 13, 3) := by decide +kernel
theorem dX9_isDigit_6 : decode cX9_isDigit 6 = .ok (.iload_n 0, 1) := by decide +kernel
theorem dX9_isDigit_7 : decode cX9_isDigit 7 = .ok (.bipush 57, 2) := by decide +kernel
theorem dX9_isDigit_9 : decode cX9_isDigit 9 = .ok (.if_icmp .gt 7, 3) := by decide +kernel
theorem dX9_isDigit_12 : decode cX9_isDigit 12 = .ok (.iconst 1, 1) := by decide +kernel
theorem dX9_isDigit_13 : decode cX9_isDigit 13 = .ok (.goto 4, 3) := by decide +kernel
theorem dX9_isDigit_16 : decode cX9_isDigit 16 = .ok (.iconst 0, 1) := by decide +kernel
theorem dX9_isDigit_17 : decode cX9_isDigit 17 = .ok (.ireturn, 1) := by decide +kernel
theorem dX10_init_0 : decode cX10_init 0 = .ok (.aload_n 0, 1) := by decide +kernel
theorem dX10_init_1 : decode cX10_init 1 = .ok (.invokespecial 1, 3) := by decide +kernel
theorem dX10_init_4 : decode cX10_init 4 = .ok (.aload_n 0, 1) := by decide +kernel
theorem dX10_init_5 : decode cX10_init 5 = .ok (.new 7, 3) := by decide +kernel
theorem dX10_init_8 : decode cX10_init 8 = .ok (.dup, 1) := by decide +kernel
theorem dX10_init_9 : decode cX10_init 9 = .ok (.invokespecial 9, 3) := by decide +kernel
theorem dX10_init_12 : decode cX10_init 12 = .ok (.putfield 10, 3) := by decide +kernel
theorem dX10_init_15 : decode cX10_init 15 = .ok (.aload_n 0, 1) := by decide +kernel
theorem dX10_init_16 : decode cX10_init 16 = .ok (.new 16, 3) := by decide +kernel
theorem dX10_init_19 : decode cX10_init 19 = .ok (.dup, 1) := by decide +kernel
theorem dX10_init_20 : decode cX10_init 20 = .ok (.invokespecial 18, 3) := by decide +kernel
theorem dX10_init_23 : decode cX10_init 23 = .ok (.putfield 19, 3) := by decide +kernel
theorem dX10_init_26 : decode cX10_init 26 = .ok (.aload_n 0, 1) := by decide +kernel
theorem dX10_init_27 : decode cX10_init 27 = .ok (.new 23, 3) := by decide +kernel
theorem dX10_init_30 : decode cX10_init 30 = .ok (.dup, 1) := by decide +kernel
theorem dX10_init_31 : decode cX10_init 31 = .ok (.invokespecial 25, 3) := by decide +kernel
theorem dX10_init_34 : decode cX10_init 34 = .ok (.putfield 26, 3) := by decide +kernel
theorem dX10_init_37 : decode cX10_init 37 = .ok (.aload_n 0, 1) := by decide +kernel
theorem dX10_init_38 : decode cX10_init 38 = .ok (.new 30, 3) := by decide +kernel
theorem dX10_init_41 : decode cX10_init 41 = .ok (.dup, 1) := by decide +kernel
theorem dX10_init_42 : decode cX10_init 42 = .ok (.invokespecial 32, 3) := by decide +kernel
theorem dX10_init_45 : decode cX10_init 45 = .ok (.putfield 33, 3) := by decide +kernel
theorem dX10_init_48 : decode cX10_init 48 = .ok (.aload_n 0, 1) := by decide +kernel
theorem dX10_init_49 : decode cX10_init 49 = .ok (.new 37, 3) := by decide +kernel
theorem dX10_init_52 : decode cX10_init 52 = .ok (.dup, 1) := by decide +kernel
theorem dX10_init_53 : decode cX10_init 53 = .ok (.invokespecial 39, 3) := by decide +kernel
theorem dX10_init_56 : decode cX10_init 56 = .ok (.putfield 40, 3) := by decide +kernel
theorem dX10_init_59 : decode cX10_init 59 = .ok (.aload_n 0, 1) := by decide +kernel
theorem dX10_init_60 : decode cX10_init 60 = .ok (.new 44, 3) := by decide +kernel
theorem dX10_init_63 : decode cX10_init 63 = .ok (.dup, 1) := by decide +kernel
theorem dX10_init_64 : decode cX10_init 64 = .ok (.invokespecial 46, 3) := by decide +kernel
theorem dX10_init_67 : decode cX10_init 67 = .ok (.putfield 47, 3) := by decide +kernel
theorem dX10_init_70 : decode cX10_init 70 = .ok (.aload_n 0, 1) := by decide +kernel
theorem dX10_init_71 : decode cX10_init 71 = .ok (.new 51, 3) := by decide +kernel
theorem dX10_init_74 : decode cX10_init 74 = .ok (.dup, 1) := by decide +kernel
theorem dX10_init_75 : decode cX10_init 75 = .ok (.invokespecial 53, 3) := by decide +kernel
theorem dX10_init_78 : decode cX10_init 78 = .ok (.putfield 54, 3) := by decide +kernel
theorem dX10_init_81 : decode cX10_init 81 = .ok (.aload_n 0, 1) := by decide +kernel
theorem dX10_init_82 : decode cX10_init 82 = .ok (.new 58, 3) := by decide +kernel
theorem dX10_init_85 : decode cX10_init 85 = .ok (.dup, 1) := by decide +kernel
theorem dX10_init_86 : decode cX10_init 86 = .ok (.invokespecial 60, 3) := by decide +kernel
theorem dX10_init_89 : decode cX10_init 89 = .ok (.putfield 61, 3) := by decide +kernel
theorem dX10_init_92 : decode cX10_init 92 = .ok (.return_, 1) := by decide +kernel
theorem dX10_feed_0 : decode cX10_feed 0 = .ok (.aload_n 0, 1) := by decide +kernel
theorem dX10_feed_1 : decode cX10_feed 1 = .ok (.getfield 10, 3) := by decide +kernel
theorem dX10_feed_4 : decode cX10_feed 4 = .ok (.invokevirtual 65, 3) := by decide +kernel
theorem dX10_feed_7 : decode cX10_feed 7 = .ok (.ifCond .ne 6, 3) := by decide +kernel
theorem dX10_feed_10 : decode cX10_feed 10 = .ok (.bipush (-3), 2) := by decide +kernel
theorem dX10_feed_12 : decode cX10_feed 12 = .ok (.ireturn, 1) := by decide +kernel
theorem dX10_feed_13 : decode cX10_feed 13 = .ok (.aload_n 0, 1) := by decide +kernel
theorem dX10_feed_14 : decode cX10_feed 14 = .ok (.getfield 10, 3) := by decide +kernel
theorem dX10_feed_17 : decode cX10_feed 17 = .ok (.iload_n 1, 1) := by decide +kernel
theorem dX10_feed_18 : decode cX10_feed 18 = .ok (.invokevirtual 69, 3) := by decide +kernel
theorem dX10_feed_21 : decode cX10_feed 21 = .ok (.aload_n 0, 1) := by decide +kernel
theorem dX10_feed_22 : decode cX10_feed 22 = .ok (.getfield 10, 3) := by decide +kernel
theorem dX10_feed_25 : decode cX10_feed 25 = .ok (.iload_n 2, 1) := by decide +kernel
theorem dX10_feed_26 : decode cX10_feed 26 = .ok (.invokevirtual 69, 3) := by decide +kernel
theorem dX10_feed_29 : decode cX10_feed 29 = .ok (.aload_n 0, 1) := by decide +kernel
theorem dX10_feed_30 : decode cX10_feed 30 = .ok (.getfield 10, 3) := by decide +kernel
theorem dX10_feed_33 : decode cX10_feed 33 = .ok (.iload_n 3, 1) := by decide +kernel
theorem dX10_feed_34 : decode cX10_feed 34 = .ok (.invokevirtual 69, 3) := by decide +kernel
theorem dX10_feed_37 : decode cX10_feed 37 = .ok (.aload_n 0, 1) := by decide +kernel
theorem dX10_feed_38 : decode cX10_feed 38 = .ok (.getfield 10, 3) := by decide +kernel
theorem dX10_feed_41 : decode cX10_feed 41 = .ok (.iload 4, 2) := by decide +kernel
theorem dX10_feed_43 : decode cX10_feed 43 = .ok (.invokevirtual 69, 3) := by decide +kernel
theorem dX10_feed_46 : decode cX10_feed 46 = .ok (.aload_n 0, 1) := by decide +kernel
theorem dX10_feed_47 : decode cX10_feed 47 = .ok (.getfield 10, 3) := by decide +kernel
theorem dX10_feed_50 : decode cX10_feed 50 = .ok (.iload 5, 2) := by decide +kernel
theorem dX10_feed_52 : decode cX10_feed 52 = .ok (.invokevirtual 69, 3) := by decide +kernel
theorem dX10_feed_55 : decode cX10_feed 55 = .ok (.aload_n 0, 1) := by decide +kernel
theorem dX10_feed_56 : decode cX10_feed 56 = .ok (.getfield 10, 3) := by decide +kernel
theorem dX10_feed_59 : decode cX10_feed 59 = .ok (.invokevirtual 73, 3) := by decide +kernel
theorem dX10_feed_62 : decode cX10_feed 62 = .ok (.ireturn, 1) := by decide +kernel
theorem dX10_end_0 : decode cX10_end 0 = .ok (.iload_n 1, 1) := by decide +kernel
theorem dX10_end_1 : decode cX10_end 1 = .ok (.ifCond .lt 14, 3) := by decide +kernel
theorem dX10_end_4 : decode cX10_end 4 = .ok (.iload_n 1, 1) := by decide +kernel
theorem dX10_end_5 : decode cX10_end 5 = .ok (.aload_n 0, 1) := by decide +kernel
theorem dX10_end_6 : decode cX10_end 6 = .ok (.getfield 10, 3) := by decide +kernel
theorem dX10_end_9 : decode cX10_end 9 = .ok (.invokevirtual 73, 3) := by decide +kernel
theorem dX10_end_12 : decode cX10_end 12 = .ok (.if_icmp .le 5, 3) := by decide +kernel
theorem dX10_end_15 : decode cX10_end 15 = .ok (.iconst (-1), 1) := by decide +kernel
theorem dX10_end_16 : decode cX10_end 16 = .ok (.ireturn, 1) := by decide +kernel
theorem dX10_end_17 : decode cX10_end 17 = .ok (.aload_n 0, 1) := by decide +kernel
theorem dX10_end_18 : decode cX10_end 18 = .ok (.getfield 10, 3) := by decide +kernel
theorem dX10_end_21 : decode cX10_end 21 = .ok (.iload_n 1, 1) := by decide +kernel
theorem dX10_end_22 : decode cX10_end 22 = .ok (.invokevirtual 77, 3) := by decide +kernel
theorem dX10_end_25 : decode cX10_end 25 = .ok (.iload_n 1, 1) := by decide +kernel
theorem dX10_end_26 : decode cX10_end 26 = .ok (.ireturn, 1) := by decide +kernel
theorem dX10_trust_0 : decode cX10_trust 0 = .ok (.aload_n 0, 1) := by decide +kernel
theorem dX10_trust_1 : decode cX10_trust 1 = .ok (.getfield 19, 3) := by decide +kernel
theorem dX10_trust_4 : decode cX10_trust 4 = .ok (.aload_n 0, 1) := by decide +kernel
theorem dX10_trust_5 : decode cX10_trust 5 = .ok (.getfield 10, 3) := by decide +kernel
theorem dX10_trust_8 : decode cX10_trust 8 = .ok (.invokevirtual 80, 3) := by decide +kernel
theorem dX10_trust_11 : decode cX10_trust 11 = .ok (.istore_n 1, 1) := by decide +kernel
theorem dX10_trust_12 : decode cX10_trust 12 = .ok (.aload_n 0, 1) := by decide +kernel
theorem dX10_trust_13 : decode cX10_trust 13 = .ok (.getfield 10, 3) := by decide +kernel
theorem dX10_trust_16 : decode cX10_trust 16 = .ok (.iconst 0, 1) := by decide +kernel
theorem dX10_trust_17 : decode cX10_trust 17 = .ok (.invokevirtual 77, 3) := by decide +kernel
theorem dX10_trust_20 : decode cX10_trust 20 = .ok (.iload_n 1, 1) := by decide +kernel
theorem dX10_trust_21 : decode cX10_trust 21 = .ok (.iconst (-1), 1) := by decide +kernel
theorem dX10_trust_22 : decode cX10_trust 22 = .ok (.if_icmp .eq 17, 3) := by decide +kernel
theorem dX10_trust_25 : decode cX10_trust 25 = .ok (.aload_n 0, 1) := by decide +kernel
theorem dX10_trust_26 : decode cX10_trust 26 = .ok (.getfield 26, 3) := by decide +kernel
theorem dX10_trust_29 : decode cX10_trust 29 = .ok (.aload_n 0, 1) := by decide +kernel
theorem dX10_trust_30 : decode cX10_trust 30 = .ok (.getfield 19, 3) := by decide +kernel
theorem dX10_trust_33 : decode cX10_trust 33 = .ok (.invokevirtual 84, 3) := by decide +kernel
theorem dX10_trust_36 : decode cX10_trust 36 = .ok (.invokevirtual 88, 3) := by decide +kernel
theorem dX10_trust_39 : decode cX10_trust 39 = .ok (.iload_n 1, 1) := by decide +kernel
theorem dX10_trust_40 : decode cX10_trust 40 = .ok (.ireturn, 1) := by decide +kernel
theorem dX10_fault_0 : decode cX10_fault 0 = .ok (.iload_n 1, 1) := by decide +kernel
theorem dX10_fault_1 : decode cX10_fault 1 = .ok (.ifCond .ne 11, 3) := by decide +kernel
theorem dX10_fault_4 : decode cX10_fault 4 = .ok (.aload_n 0, 1) := by decide +kernel
theorem dX10_fault_5 : decode cX10_fault 5 = .ok (.getfield 19, 3) := by decide +kernel
theorem dX10_fault_8 : decode cX10_fault 8 = .ok (.invokevirtual 92, 3) := by decide +kernel
theorem dX10_fault_11 : decode cX10_fault 11 = .ok (.ireturn, 1) := by decide +kernel
theorem dX10_fault_12 : decode cX10_fault 12 = .ok (.iload_n 1, 1) := by decide +kernel
theorem dX10_fault_13 : decode cX10_fault 13 = .ok (.iconst 1, 1) := by decide +kernel
theorem dX10_fault_14 : decode cX10_fault 14 = .ok (.if_icmp .ne 13, 3) := by decide +kernel
theorem dX10_fault_17 : decode cX10_fault 17 = .ok (.aload_n 0, 1) := by decide +kernel
theorem dX10_fault_18 : decode cX10_fault 18 = .ok (.getfield 19, 3) := by decide +kernel
theorem dX10_fault_21 : decode cX10_fault 21 = .ok (.invokevirtual 95, 3) := by decide +kernel
theorem dX10_fault_24 : decode cX10_fault 24 = .ok (.goto 4, 3) := by decide +kernel
theorem dX10_fault_27 : decode cX10_fault 27 = .ok (.iconst (-1), 1) := by decide +kernel
theorem dX10_fault_28 : decode cX10_fault 28 = .ok (.ireturn, 1) := by decide +kernel
theorem dX10_rule_0 : decode cX10_rule 0 = .ok (.iload_n 1, 1) := by decide +kernel
theorem dX10_rule_1 : decode cX10_rule 1 = .ok (.ifCond .lt 20, 3) := by decide +kernel
theorem dX10_rule_4 : decode cX10_rule 4 = .ok (.iload_n 1, 1) := by decide +kernel
theorem dX10_rule_5 : decode cX10_rule 5 = .ok (.bipush 9, 2) := by decide +kernel
theorem dX10_rule_7 : decode cX10_rule 7 = .ok (.if_icmp .ge 14, 3) := by decide +kernel
theorem dX10_rule_10 : decode cX10_rule 10 = .ok (.aload_n 0, 1) := by decide +kernel
theorem dX10_rule_11 : decode cX10_rule 11 = .ok (.getfield 26, 3) := by decide +kernel
theorem dX10_rule_14 : decode cX10_rule 14 = .ok (.iload_n 1, 1) := by decide +kernel
theorem dX10_rule_15 : decode cX10_rule 15 = .ok (.invokevirtual 98, 3) := by decide +kernel
theorem dX10_rule_18 : decode cX10_rule 18 = .ok (.goto 5, 3) := by decide +kernel
theorem dX10_rule_21 : decode cX10_rule 21 = .ok (.bipush (-9), 2) := by decide +kernel
theorem dX10_rule_23 : decode cX10_rule 23 = .ok (.ireturn, 1) := by decide +kernel
theorem dX10_declare_0 : decode cX10_declare 0 = .ok (.iload_n 1, 1) := by decide +kernel
theorem dX10_declare_1 : decode cX10_declare 1 = .ok (.invokestatic 102, 3) := by decide +kernel
theorem dX10_declare_4 : decode cX10_declare 4 = .ok (.ifCond .eq 18, 3) := by decide +kernel
theorem dX10_declare_7 : decode cX10_declare 7 = .ok (.iload_n 2, 1) := by decide +kernel
theorem dX10_declare_8 : decode cX10_declare 8 = .ok (.ifCond .lt 14, 3) := by decide +kernel
theorem dX10_declare_11 : decode cX10_declare 11 = .ok (.iload_n 2, 1) := by decide +kernel
theorem dX10_declare_12 : decode cX10_declare 12 = .ok (.iload_n 3, 1) := by decide +kernel
theorem dX10_declare_13 : decode cX10_declare 13 = .ok (.if_icmp .gt 9, 3) := by decide +kernel
theorem dX10_declare_16 : decode cX10_declare 16 = .ok (.iload_n 3, 1) := by decide +kernel
theorem dX10_declare_17 : decode cX10_declare 17 = .ok (.bipush 119, 2) := by decide +kernel
theorem dX10_declare_19 : decode cX10_declare 19 = .ok (.if_icmp .le 6, 3) := by decide +kernel
theorem dX10_declare_22 : decode cX10_declare 22 = .ok (.bipush (-2), 2) := by decide +kernel
theorem dX10_declare_24 : decode cX10_declare 24 = .ok (.ireturn, 1) := by decide +kernel
theorem dX10_declare_25 : decode cX10_declare 25 = .ok (.aload_n 0, 1) := by decide +kernel
theorem dX10_declare_26 : decode cX10_declare 26 = .ok (.getfield 106, 3) := by decide +kernel
theorem dX10_declare_29 : decode cX10_declare 29 = .ok (.ifCond .eq 6, 3) := by decide +kernel
theorem dX10_declare_32 : decode cX10_declare 32 = .ok (.bipush (-4), 2) := by decide +kernel
theorem dX10_declare_34 : decode cX10_declare 34 = .ok (.ireturn, 1) := by decide +kernel
theorem dX10_declare_35 : decode cX10_declare 35 = .ok (.aload_n 0, 1) := by decide +kernel
theorem dX10_declare_36 : decode cX10_declare 36 = .ok (.getfield 33, 3) := by decide +kernel
theorem dX10_declare_39 : decode cX10_declare 39 = .ok (.iload_n 1, 1) := by decide +kernel
theorem dX10_declare_40 : decode cX10_declare 40 = .ok (.iload_n 2, 1) := by decide +kernel
theorem dX10_declare_41 : decode cX10_declare 41 = .ok (.iload_n 3, 1) := by decide +kernel
theorem dX10_declare_42 : decode cX10_declare 42 = .ok (.invokevirtual 110, 3) := by decide +kernel
theorem dX10_declare_45 : decode cX10_declare 45 = .ok (.iconst 1, 1) := by decide +kernel
theorem dX10_declare_46 : decode cX10_declare 46 = .ok (.ireturn, 1) := by decide +kernel
theorem dX10_nameless_0 : decode cX10_nameless 0 = .ok (.iload_n 1, 1) := by decide +kernel
theorem dX10_nameless_1 : decode cX10_nameless 1 = .ok (.invokestatic 102, 3) := by decide +kernel
theorem dX10_nameless_4 : decode cX10_nameless 4 = .ok (.ifCond .ne 6, 3) := by decide +kernel
theorem dX10_nameless_7 : decode cX10_nameless 7 = .ok (.bipush (-2), 2) := by decide +kernel
theorem dX10_nameless_9 : decode cX10_nameless 9 = .ok (.ireturn, 1) := by decide +kernel
theorem dX10_nameless_10 : decode cX10_nameless 10 = .ok (.aload_n 0, 1) := by decide +kernel
theorem dX10_nameless_11 : decode cX10_nameless 11 = .ok (.getfield 106, 3) := by decide +kernel
theorem dX10_nameless_14 : decode cX10_nameless 14 = .ok (.ifCond .eq 6, 3) := by decide +kernel
theorem dX10_nameless_17 : decode cX10_nameless 17 = .ok (.bipush (-4), 2) := by decide +kernel
theorem dX10_nameless_19 : decode cX10_nameless 19 = .ok (.ireturn, 1) := by decide +kernel
theorem dX10_nameless_20 : decode cX10_nameless 20 = .ok (.aload_n 0, 1) := by decide +kernel
theorem dX10_nameless_21 : decode cX10_nameless 21 = .ok (.getfield 33, 3) := by decide +kernel
theorem dX10_nameless_24 : decode cX10_nameless 24 = .ok (.iload_n 1, 1) := by decide +kernel
theorem dX10_nameless_25 : decode cX10_nameless 25 = .ok (.iload_n 2, 1) := by decide +kernel
theorem dX10_nameless_26 : decode cX10_nameless 26 = .ok (.invokevirtual 114, 3) := by decide +kernel
theorem dX10_nameless_29 : decode cX10_nameless 29 = .ok (.ifCond .eq 7, 3) := by decide +kernel
theorem dX10_nameless_32 : decode cX10_nameless 32 = .ok (.iconst 1, 1) := by decide +kernel
theorem dX10_nameless_33 : decode cX10_nameless 33 = .ok (.goto 4, 3) := by decide +kernel
theorem dX10_nameless_36 : decode cX10_nameless 36 = .ok (.iconst 0, 1) := by decide +kernel
theorem dX10_nameless_37 : decode cX10_nameless 37 = .ok (.ireturn, 1) := by decide +kernel
theorem dX10_pledge_0 : decode cX10_pledge 0 = .ok (.iload_n 1, 1) := by decide +kernel
theorem dX10_pledge_1 : decode cX10_pledge 1 = .ok (.invokestatic 102, 3) := by decide +kernel
theorem dX10_pledge_4 : decode cX10_pledge 4 = .ok (.ifCond .eq 48, 3) := by decide +kernel
theorem dX10_pledge_7 : decode cX10_pledge 7 = .ok (.iload_n 2, 1) := by decide +kernel
theorem dX10_pledge_8 : decode cX10_pledge 8 = .ok (.iconst 1, 1) := by decide +kernel
theorem dX10_pledge_9 : decode cX10_pledge 9 = .ok (.ldc 118, 2) := by decide +kernel
theorem dX10_pledge_11 : decode cX10_pledge 11 = .ok (.invokestatic 119, 3) := by decide +kernel
theorem dX10_pledge_14 : decode cX10_pledge 14 = .ok (.ifCond .eq 38, 3) := by decide +kernel
theorem dX10_pledge_17 : decode cX10_pledge 17 = .ok (.iload_n 3, 1) := by decide +kernel
theorem dX10_pledge_18 : decode cX10_pledge 18 = .ok (.aload_n 0, 1) := by decide +kernel
theorem dX10_pledge_19 : decode cX10_pledge 19 = .ok (.getfield 123, 3) := by decide +kernel
theorem dX10_pledge_22 : decode cX10_pledge 22 = .ok (.bipush 119, 2) := by decide +kernel
theorem dX10_pledge_24 : decode cX10_pledge 24 = .ok (.invokestatic 119, 3) := by decide +kernel
theorem dX10_pledge_27 : decode cX10_pledge 27 = .ok (.ifCond .eq 25, 3) := by decide +kernel
theorem dX10_pledge_30 : decode cX10_pledge 30 = .ok (.iload 4, 2) := by decide +kernel
theorem dX10_pledge_32 : decode cX10_pledge 32 = .ok (.iconst 1, 1) := by decide +kernel
theorem dX10_pledge_33 : decode cX10_pledge 33 = .ok (.bipush 12, 2) := by decide +kernel
theorem dX10_pledge_35 : decode cX10_pledge 35 = .ok (.invokestatic 119, 3) := by decide +kernel
theorem dX10_pledge_38 : decode cX10_pledge 38 = .ok (.ifCond .eq 14, 3) := by decide +kernel
theorem dX10_pledge_41 : decode cX10_pledge 41 = .ok (.iload 5, 2) := by decide +kernel
theorem dX10_pledge_43 : decode cX10_pledge 43 = .ok (.iconst 1, 1) := by decide +kernel
theorem dX10_pledge_44 : decode cX10_pledge 44 = .ok (.bipush 84, 2) := by decide +kernel
theorem dX10_pledge_46 : decode cX10_pledge 46 = .ok (.invokestatic 119, 3) := by decide +kernel
theorem dX10_pledge_49 : decode cX10_pledge 49 = .ok (.ifCond .ne 6, 3) := by decide +kernel
theorem dX10_pledge_52 : decode cX10_pledge 52 = .ok (.bipush (-2), 2) := by decide +kernel
theorem dX10_pledge_54 : decode cX10_pledge 54 = .ok (.ireturn, 1) := by decide +kernel
theorem dX10_pledge_55 : decode cX10_pledge 55 = .ok (.aload_n 0, 1) := by decide +kernel
theorem dX10_pledge_56 : decode cX10_pledge 56 = .ok (.getfield 106, 3) := by decide +kernel
theorem dX10_pledge_59 : decode cX10_pledge 59 = .ok (.ifCond .eq 6, 3) := by decide +kernel
theorem dX10_pledge_62 : decode cX10_pledge 62 = .ok (.bipush (-4), 2) := by decide +kernel
theorem dX10_pledge_64 : decode cX10_pledge 64 = .ok (.ireturn, 1) := by decide +kernel
theorem dX10_pledge_65 : decode cX10_pledge 65 = .ok (.aload_n 0, 1) := by decide +kernel
theorem dX10_pledge_66 : decode cX10_pledge 66 = .ok (.getfield 40, 3) := by decide +kernel
theorem dX10_pledge_69 : decode cX10_pledge 69 = .ok (.invokevirtual 127, 3) := by decide +kernel
theorem dX10_pledge_72 : decode cX10_pledge 72 = .ok (.ifCond .eq 6, 3) := by decide +kernel
theorem dX10_pledge_75 : decode cX10_pledge 75 = .ok (.bipush (-3), 2) := by decide +kernel
theorem dX10_pledge_77 : decode cX10_pledge 77 = .ok (.ireturn, 1) := by decide +kernel
theorem dX10_pledge_78 : decode cX10_pledge 78 = .ok (.aload_n 0, 1) := by decide +kernel
theorem dX10_pledge_79 : decode cX10_pledge 79 = .ok (.getfield 40, 3) := by decide +kernel
theorem dX10_pledge_82 : decode cX10_pledge 82 = .ok (.new 130, 3) := by decide +kernel
theorem dX10_pledge_85 : decode cX10_pledge 85 = .ok (.dup, 1) := by decide +kernel
theorem dX10_pledge_86 : decode cX10_pledge 86 = .ok (.iload_n 1, 1) := by decide +kernel
theorem dX10_pledge_87 : decode cX10_pledge 87 = .ok (.iload_n 2, 1) := by decide +kernel
theorem dX10_pledge_88 : decode cX10_pledge 88 = .ok (.iload_n 3, 1) := by decide +kernel
theorem dX10_pledge_89 : decode cX10_pledge 89 = .ok (.iload 4, 2) := by decide +kernel
theorem dX10_pledge_91 : decode cX10_pledge 91 = .ok (.iload 5, 2) := by decide +kernel
theorem dX10_pledge_93 : decode cX10_pledge 93 = .ok (.invokespecial 132, 3) := by decide +kernel
theorem dX10_pledge_96 : decode cX10_pledge 96 = .ok (.invokevirtual 135, 3) := by decide +kernel
theorem dX10_pledge_99 : decode cX10_pledge 99 = .ok (.ireturn, 1) := by decide +kernel
theorem dX10_change_0 : decode cX10_change 0 = .ok (.aload_n 0, 1) := by decide +kernel
theorem dX10_change_1 : decode cX10_change 1 = .ok (.getfield 40, 3) := by decide +kernel
theorem dX10_change_4 : decode cX10_change 4 = .ok (.iload_n 1, 1) := by decide +kernel
theorem dX10_change_5 : decode cX10_change 5 = .ok (.invokevirtual 139, 3) := by decide +kernel
theorem dX10_change_8 : decode cX10_change 8 = .ok (.astore_n 3, 1) := by decide +kernel
theorem dX10_change_9 : decode cX10_change 9 = .ok (.aload_n 3, 1) := by decide +kernel
theorem dX10_change_10 : decode cX10_change 10 = .ok (.ifnull 13, 3) := by decide +kernel
theorem dX10_change_13 : decode cX10_change 13 = .ok (.iload_n 2, 1) := by decide +kernel
theorem dX10_change_14 : decode cX10_change 14 = .ok (.iconst 1, 1) := by decide +kernel
theorem dX10_change_15 : decode cX10_change 15 = .ok (.ldc 118, 2) := by decide +kernel
theorem dX10_change_17 : decode cX10_change 17 = .ok (.invokestatic 119, 3) := by decide +kernel
theorem dX10_change_20 : decode cX10_change 20 = .ok (.ifCond .ne 6, 3) := by decide +kernel
theorem dX10_change_23 : decode cX10_change 23 = .ok (.bipush (-2), 2) := by decide +kernel
theorem dX10_change_25 : decode cX10_change 25 = .ok (.ireturn, 1) := by decide +kernel
theorem dX10_change_26 : decode cX10_change 26 = .ok (.aload_n 0, 1) := by decide +kernel
theorem dX10_change_27 : decode cX10_change 27 = .ok (.getfield 106, 3) := by decide +kernel
theorem dX10_change_30 : decode cX10_change 30 = .ok (.ifCond .ne 10, 3) := by decide +kernel
theorem dX10_change_33 : decode cX10_change 33 = .ok (.aload_n 3, 1) := by decide +kernel
theorem dX10_change_34 : decode cX10_change 34 = .ok (.invokevirtual 142, 3) := by decide +kernel
theorem dX10_change_37 : decode cX10_change 37 = .ok (.ifCond .eq 6, 3) := by decide +kernel
theorem dX10_change_40 : decode cX10_change 40 = .ok (.bipush (-4), 2) := by decide +kernel
theorem dX10_change_42 : decode cX10_change 42 = .ok (.ireturn, 1) := by decide +kernel
theorem dX10_change_43 : decode cX10_change 43 = .ok (.aload_n 3, 1) := by decide +kernel
theorem dX10_change_44 : decode cX10_change 44 = .ok (.iload_n 2, 1) := by decide +kernel
theorem dX10_change_45 : decode cX10_change 45 = .ok (.aload_n 0, 1) := by decide +kernel
theorem dX10_change_46 : decode cX10_change 46 = .ok (.getfield 123, 3) := by decide +kernel
theorem dX10_change_49 : decode cX10_change 49 = .ok (.invokevirtual 145, 3) := by decide +kernel
theorem dX10_change_52 : decode cX10_change 52 = .ok (.iconst 1, 1) := by decide +kernel
theorem dX10_change_53 : decode cX10_change 53 = .ok (.ireturn, 1) := by decide +kernel
theorem dX10_pay_0 : decode cX10_pay 0 = .ok (.aload_n 0, 1) := by decide +kernel
theorem dX10_pay_1 : decode cX10_pay 1 = .ok (.getfield 40, 3) := by decide +kernel
theorem dX10_pay_4 : decode cX10_pay 4 = .ok (.iload_n 1, 1) := by decide +kernel
theorem dX10_pay_5 : decode cX10_pay 5 = .ok (.invokevirtual 139, 3) := by decide +kernel
theorem dX10_pay_8 : decode cX10_pay 8 = .ok (.astore_n 3, 1) := by decide +kernel
theorem dX10_pay_9 : decode cX10_pay 9 = .ok (.aload_n 3, 1) := by decide +kernel
theorem dX10_pay_10 : decode cX10_pay 10 = .ok (.ifnull 10, 3) := by decide +kernel
theorem dX10_pay_13 : decode cX10_pay 13 = .ok (.iload_n 2, 1) := by decide +kernel
theorem dX10_pay_14 : decode cX10_pay 14 = .ok (.invokestatic 149, 3) := by decide +kernel
theorem dX10_pay_17 : decode cX10_pay 17 = .ok (.ifCond .ne 6, 3) := by decide +kernel
theorem dX10_pay_20 : decode cX10_pay 20 = .ok (.bipush (-2), 2) := by decide +kernel
theorem dX10_pay_22 : decode cX10_pay 22 = .ok (.ireturn, 1) := by decide +kernel
theorem dX10_pay_23 : decode cX10_pay 23 = .ok (.aload_n 3, 1) := by decide +kernel
theorem dX10_pay_24 : decode cX10_pay 24 = .ok (.invokevirtual 142, 3) := by decide +kernel
theorem dX10_pay_27 : decode cX10_pay 27 = .ok (.ifCond .eq 6, 3) := by decide +kernel
theorem dX10_pay_30 : decode cX10_pay 30 = .ok (.bipush (-4), 2) := by decide +kernel
theorem dX10_pay_32 : decode cX10_pay 32 = .ok (.ireturn, 1) := by decide +kernel
theorem dX10_pay_33 : decode cX10_pay 33 = .ok (.iload_n 2, 1) := by decide +kernel
theorem dX10_pay_34 : decode cX10_pay 34 = .ok (.aload_n 3, 1) := by decide +kernel
theorem dX10_pay_35 : decode cX10_pay 35 = .ok (.invokevirtual 152, 3) := by decide +kernel
theorem dX10_pay_38 : decode cX10_pay 38 = .ok (.if_icmp .le 6, 3) := by decide +kernel
theorem dX10_pay_41 : decode cX10_pay 41 = .ok (.bipush (-2), 2) := by decide +kernel
theorem dX10_pay_43 : decode cX10_pay 43 = .ok (.ireturn, 1) := by decide +kernel
theorem dX10_pay_44 : decode cX10_pay 44 = .ok (.aload_n 0, 1) := by decide +kernel
theorem dX10_pay_45 : decode cX10_pay 45 = .ok (.getfield 106, 3) := by decide +kernel
theorem dX10_pay_48 : decode cX10_pay 48 = .ok (.ifCond .eq 6, 3) := by decide +kernel
theorem dX10_pay_51 : decode cX10_pay 51 = .ok (.bipush (-4), 2) := by decide +kernel
theorem dX10_pay_53 : decode cX10_pay 53 = .ok (.ireturn, 1) := by decide +kernel
theorem dX10_pay_54 : decode cX10_pay 54 = .ok (.aload_n 0, 1) := by decide +kernel
theorem dX10_pay_55 : decode cX10_pay 55 = .ok (.getfield 47, 3) := by decide +kernel
theorem dX10_pay_58 : decode cX10_pay 58 = .ok (.invokevirtual 155, 3) := by decide +kernel
theorem dX10_pay_61 : decode cX10_pay 61 = .ok (.ifCond .eq 6, 3) := by decide +kernel
theorem dX10_pay_64 : decode cX10_pay 64 = .ok (.bipush (-3), 2) := by decide +kernel
theorem dX10_pay_66 : decode cX10_pay 66 = .ok (.ireturn, 1) := by decide +kernel
theorem dX10_pay_67 : decode cX10_pay 67 = .ok (.aload_n 3, 1) := by decide +kernel
theorem dX10_pay_68 : decode cX10_pay 68 = .ok (.iload_n 2, 1) := by decide +kernel
theorem dX10_pay_69 : decode cX10_pay 69 = .ok (.invokevirtual 156, 3) := by decide +kernel
theorem dX10_pay_72 : decode cX10_pay 72 = .ok (.aload_n 0, 1) := by decide +kernel
theorem dX10_pay_73 : decode cX10_pay 73 = .ok (.aload_n 3, 1) := by decide +kernel
theorem dX10_pay_74 : decode cX10_pay 74 = .ok (.invokevirtual 159, 3) := by decide +kernel
theorem dX10_pay_77 : decode cX10_pay 77 = .ok (.iload_n 2, 1) := by decide +kernel
theorem dX10_pay_78 : decode cX10_pay 78 = .ok (.invokevirtual 162, 3) := by decide +kernel
theorem dX10_pay_81 : decode cX10_pay 81 = .ok (.ireturn, 1) := by decide +kernel
theorem dX10_gift_0 : decode cX10_gift 0 = .ok (.iload_n 1, 1) := by decide +kernel
theorem dX10_gift_1 : decode cX10_gift 1 = .ok (.invokestatic 102, 3) := by decide +kernel
theorem dX10_gift_4 : decode cX10_gift 4 = .ok (.ifCond .eq 10, 3) := by decide +kernel
theorem dX10_gift_7 : decode cX10_gift 7 = .ok (.iload_n 2, 1) := by decide +kernel
theorem dX10_gift_8 : decode cX10_gift 8 = .ok (.invokestatic 149, 3) := by decide +kernel
theorem dX10_gift_11 : decode cX10_gift 11 = .ok (.ifCond .ne 6, 3) := by decide +kernel
theorem dX10_gift_14 : decode cX10_gift 14 = .ok (.bipush (-2), 2) := by decide +kernel
theorem dX10_gift_16 : decode cX10_gift 16 = .ok (.ireturn, 1) := by decide +kernel
theorem dX10_gift_17 : decode cX10_gift 17 = .ok (.aload_n 0, 1) := by decide +kernel
theorem dX10_gift_18 : decode cX10_gift 18 = .ok (.getfield 106, 3) := by decide +kernel
theorem dX10_gift_21 : decode cX10_gift 21 = .ok (.ifCond .eq 6, 3) := by decide +kernel
theorem dX10_gift_24 : decode cX10_gift 24 = .ok (.bipush (-4), 2) := by decide +kernel
theorem dX10_gift_26 : decode cX10_gift 26 = .ok (.ireturn, 1) := by decide +kernel
theorem dX10_gift_27 : decode cX10_gift 27 = .ok (.aload_n 0, 1) := by decide +kernel
theorem dX10_gift_28 : decode cX10_gift 28 = .ok (.getfield 47, 3) := by decide +kernel
theorem dX10_gift_31 : decode cX10_gift 31 = .ok (.invokevirtual 155, 3) := by decide +kernel
theorem dX10_gift_34 : decode cX10_gift 34 = .ok (.ifCond .eq 8, 3) := by decide +kernel
theorem dX10_gift_37 : decode cX10_gift 37 = .ok (.bipush (-3), 2) := by decide +kernel
theorem dX10_gift_39 : decode cX10_gift 39 = .ok (.goto 9, 3) := by decide +kernel
theorem dX10_gift_42 : decode cX10_gift 42 = .ok (.aload_n 0, 1) := by decide +kernel
theorem dX10_gift_43 : decode cX10_gift 43 = .ok (.iload_n 1, 1) := by decide +kernel
theorem dX10_gift_44 : decode cX10_gift 44 = .ok (.iload_n 2, 1) := by decide +kernel
theorem dX10_gift_45 : decode cX10_gift 45 = .ok (.invokevirtual 162, 3) := by decide +kernel
theorem dX10_gift_48 : decode cX10_gift 48 = .ok (.ireturn, 1) := by decide +kernel
theorem dX10_takeUp_0 : decode cX10_takeUp 0 = .ok (.aload_n 0, 1) := by decide +kernel
theorem dX10_takeUp_1 : decode cX10_takeUp 1 = .ok (.getfield 40, 3) := by decide +kernel
theorem dX10_takeUp_4 : decode cX10_takeUp 4 = .ok (.iload_n 1, 1) := by decide +kernel
theorem dX10_takeUp_5 : decode cX10_takeUp 5 = .ok (.invokevirtual 139, 3) := by decide +kernel
theorem dX10_takeUp_8 : decode cX10_takeUp 8 = .ok (.astore_n 2, 1) := by decide +kernel
theorem dX10_takeUp_9 : decode cX10_takeUp 9 = .ok (.aload_n 2, 1) := by decide +kernel
theorem dX10_takeUp_10 : decode cX10_takeUp 10 = .ok (.ifnonnull 6, 3) := by decide +kernel
theorem dX10_takeUp_13 : decode cX10_takeUp 13 = .ok (.bipush (-2), 2) := by decide +kernel
theorem dX10_takeUp_15 : decode cX10_takeUp 15 = .ok (.ireturn, 1) := by decide +kernel
theorem dX10_takeUp_16 : decode cX10_takeUp 16 = .ok (.aload_n 0, 1) := by decide +kernel
theorem dX10_takeUp_17 : decode cX10_takeUp 17 = .ok (.getfield 106, 3) := by decide +kernel
theorem dX10_takeUp_20 : decode cX10_takeUp 20 = .ok (.ifCond .ne 10, 3) := by decide +kernel
theorem dX10_takeUp_23 : decode cX10_takeUp 23 = .ok (.aload_n 2, 1) := by decide +kernel
theorem dX10_takeUp_24 : decode cX10_takeUp 24 = .ok (.invokevirtual 166, 3) := by decide +kernel
theorem dX10_takeUp_27 : decode cX10_takeUp 27 = .ok (.ifCond .ne 6, 3) := by decide +kernel
theorem dX10_takeUp_30 : decode cX10_takeUp 30 = .ok (.bipush (-4), 2) := by decide +kernel
theorem dX10_takeUp_32 : decode cX10_takeUp 32 = .ok (.ireturn, 1) := by decide +kernel
theorem dX10_takeUp_33 : decode cX10_takeUp 33 = .ok (.aload_n 2, 1) := by decide +kernel
theorem dX10_takeUp_34 : decode cX10_takeUp 34 = .ok (.aload_n 0, 1) := by decide +kernel
theorem dX10_takeUp_35 : decode cX10_takeUp 35 = .ok (.getfield 123, 3) := by decide +kernel
theorem dX10_takeUp_38 : decode cX10_takeUp 38 = .ok (.invokevirtual 169, 3) := by decide +kernel
theorem dX10_takeUp_41 : decode cX10_takeUp 41 = .ok (.aload_n 2, 1) := by decide +kernel
theorem dX10_takeUp_42 : decode cX10_takeUp 42 = .ok (.aload_n 0, 1) := by decide +kernel
theorem dX10_takeUp_43 : decode cX10_takeUp 43 = .ok (.getfield 123, 3) := by decide +kernel
theorem dX10_takeUp_46 : decode cX10_takeUp 46 = .ok (.invokevirtual 172, 3) := by decide +kernel
theorem dX10_takeUp_49 : decode cX10_takeUp 49 = .ok (.ireturn, 1) := by decide +kernel
theorem dX10_claim_0 : decode cX10_claim 0 = .ok (.aload_n 0, 1) := by decide +kernel
theorem dX10_claim_1 : decode cX10_claim 1 = .ok (.getfield 106, 3) := by decide +kernel
theorem dX10_claim_4 : decode cX10_claim 4 = .ok (.ifCond .eq 6, 3) := by decide +kernel
theorem dX10_claim_7 : decode cX10_claim 7 = .ok (.bipush (-4), 2) := by decide +kernel
theorem dX10_claim_9 : decode cX10_claim 9 = .ok (.ireturn, 1) := by decide +kernel
theorem dX10_claim_10 : decode cX10_claim 10 = .ok (.aload_n 0, 1) := by decide +kernel
theorem dX10_claim_11 : decode cX10_claim 11 = .ok (.getfield 47, 3) := by decide +kernel
theorem dX10_claim_14 : decode cX10_claim 14 = .ok (.aload_n 0, 1) := by decide +kernel
theorem dX10_claim_15 : decode cX10_claim 15 = .ok (.getfield 26, 3) := by decide +kernel
theorem dX10_claim_18 : decode cX10_claim 18 = .ok (.invokevirtual 175, 3) := by decide +kernel
theorem dX10_claim_21 : decode cX10_claim 21 = .ok (.aload_n 0, 1) := by decide +kernel
theorem dX10_claim_22 : decode cX10_claim 22 = .ok (.getfield 33, 3) := by decide +kernel
theorem dX10_claim_25 : decode cX10_claim 25 = .ok (.invokevirtual 178, 3) := by decide +kernel
theorem dX10_claim_28 : decode cX10_claim 28 = .ok (.istore_n 1, 1) := by decide +kernel
theorem dX10_claim_29 : decode cX10_claim 29 = .ok (.aload_n 0, 1) := by decide +kernel
theorem dX10_claim_30 : decode cX10_claim 30 = .ok (.getfield 54, 3) := by decide +kernel
theorem dX10_claim_33 : decode cX10_claim 33 = .ok (.iload_n 1, 1) := by decide +kernel
theorem dX10_claim_34 : decode cX10_claim 34 = .ok (.invokevirtual 182, 3) := by decide +kernel
theorem dX10_claim_37 : decode cX10_claim 37 = .ok (.iload_n 1, 1) := by decide +kernel
theorem dX10_claim_38 : decode cX10_claim 38 = .ok (.ireturn, 1) := by decide +kernel
theorem dX10_about_0 : decode cX10_about 0 = .ok (.aload_n 0, 1) := by decide +kernel
theorem dX10_about_1 : decode cX10_about 1 = .ok (.getfield 106, 3) := by decide +kernel
theorem dX10_about_4 : decode cX10_about 4 = .ok (.ifCond .eq 6, 3) := by decide +kernel
theorem dX10_about_7 : decode cX10_about 7 = .ok (.bipush (-4), 2) := by decide +kernel
theorem dX10_about_9 : decode cX10_about 9 = .ok (.ireturn, 1) := by decide +kernel
theorem dX10_about_10 : decode cX10_about 10 = .ok (.aload_n 0, 1) := by decide +kernel
theorem dX10_about_11 : decode cX10_about 11 = .ok (.getfield 40, 3) := by decide +kernel
theorem dX10_about_14 : decode cX10_about 14 = .ok (.iload_n 1, 1) := by decide +kernel
theorem dX10_about_15 : decode cX10_about 15 = .ok (.invokevirtual 139, 3) := by decide +kernel
theorem dX10_about_18 : decode cX10_about 18 = .ok (.astore_n 3, 1) := by decide +kernel
theorem dX10_about_19 : decode cX10_about 19 = .ok (.aload_n 3, 1) := by decide +kernel
theorem dX10_about_20 : decode cX10_about 20 = .ok (.ifnonnull 5, 3) := by decide +kernel
theorem dX10_about_23 : decode cX10_about 23 = .ok (.iconst (-1), 1) := by decide +kernel
theorem dX10_about_24 : decode cX10_about 24 = .ok (.ireturn, 1) := by decide +kernel
theorem dX10_about_25 : decode cX10_about 25 = .ok (.iload_n 2, 1) := by decide +kernel
theorem dX10_about_26 : decode cX10_about 26 = .ok (.tableswitch 102 0 7 #[46, 51, 56, 65, 70, 75, 88, 93], 46) := by decide +kernel
theorem dX10_about_72 : decode cX10_about 72 = .ok (.aload_n 3, 1) := by decide +kernel
theorem dX10_about_73 : decode cX10_about 73 = .ok (.invokevirtual 159, 3) := by decide +kernel
theorem dX10_about_76 : decode cX10_about 76 = .ok (.ireturn, 1) := by decide +kernel
theorem dX10_about_77 : decode cX10_about 77 = .ok (.aload_n 3, 1) := by decide +kernel
theorem dX10_about_78 : decode cX10_about 78 = .ok (.invokevirtual 185, 3) := by decide +kernel
theorem dX10_about_81 : decode cX10_about 81 = .ok (.ireturn, 1) := by decide +kernel
theorem dX10_about_82 : decode cX10_about 82 = .ok (.aload_n 3, 1) := by decide +kernel
theorem dX10_about_83 : decode cX10_about 83 = .ok (.aload_n 0, 1) := by decide +kernel
theorem dX10_about_84 : decode cX10_about 84 = .ok (.getfield 123, 3) := by decide +kernel
theorem dX10_about_87 : decode cX10_about 87 = .ok (.invokevirtual 188, 3) := by decide +kernel
theorem dX10_about_90 : decode cX10_about 90 = .ok (.ireturn, 1) := by decide +kernel
theorem dX10_about_91 : decode cX10_about 91 = .ok (.aload_n 3, 1) := by decide +kernel
theorem dX10_about_92 : decode cX10_about 92 = .ok (.invokevirtual 191, 3) := by decide +kernel
theorem dX10_about_95 : decode cX10_about 95 = .ok (.ireturn, 1) := by decide +kernel
theorem dX10_about_96 : decode cX10_about 96 = .ok (.aload_n 3, 1) := by decide +kernel
theorem dX10_about_97 : decode cX10_about 97 = .ok (.invokevirtual 152, 3) := by decide +kernel
theorem dX10_about_100 : decode cX10_about 100 = .ok (.ireturn, 1) := by decide +kernel
theorem dX10_about_101 : decode cX10_about 101 = .ok (.aload_n 3, 1) := by decide +kernel
theorem dX10_about_102 : decode cX10_about 102 = .ok (.invokevirtual 142, 3) := by decide +kernel
theorem dX10_about_105 : decode cX10_about 105 = .ok (.ifCond .eq 7, 3) := by decide +kernel
theorem dX10_about_108 : decode cX10_about 108 = .ok (.iconst 1, 1) := by decide +kernel
theorem dX10_about_109 : decode cX10_about 109 = .ok (.goto 4, 3) := by decide +kernel
theorem dX10_about_112 : decode cX10_about 112 = .ok (.iconst 0, 1) := by decide +kernel
theorem dX10_about_113 : decode cX10_about 113 = .ok (.ireturn, 1) := by decide +kernel
theorem dX10_about_114 : decode cX10_about 114 = .ok (.aload_n 3, 1) := by decide +kernel
theorem dX10_about_115 : decode cX10_about 115 = .ok (.invokevirtual 194, 3) := by decide +kernel
theorem dX10_about_118 : decode cX10_about 118 = .ok (.ireturn, 1) := by decide +kernel
theorem dX10_about_119 : decode cX10_about 119 = .ok (.aload_n 3, 1) := by decide +kernel
theorem dX10_about_120 : decode cX10_about 120 = .ok (.aload_n 0, 1) := by decide +kernel
theorem dX10_about_121 : decode cX10_about 121 = .ok (.getfield 123, 3) := by decide +kernel
theorem dX10_about_124 : decode cX10_about 124 = .ok (.invokevirtual 197, 3) := by decide +kernel
theorem dX10_about_127 : decode cX10_about 127 = .ok (.ireturn, 1) := by decide +kernel
theorem dX10_about_128 : decode cX10_about 128 = .ok (.iconst (-1), 1) := by decide +kernel
theorem dX10_about_129 : decode cX10_about 129 = .ok (.ireturn, 1) := by decide +kernel
theorem dX10_giver_0 : decode cX10_giver 0 = .ok (.iload_n 1, 1) := by decide +kernel
theorem dX10_giver_1 : decode cX10_giver 1 = .ok (.invokestatic 102, 3) := by decide +kernel
theorem dX10_giver_4 : decode cX10_giver 4 = .ok (.ifCond .eq 12, 3) := by decide +kernel
theorem dX10_giver_7 : decode cX10_giver 7 = .ok (.iload_n 2, 1) := by decide +kernel
theorem dX10_giver_8 : decode cX10_giver 8 = .ok (.iconst 0, 1) := by decide +kernel
theorem dX10_giver_9 : decode cX10_giver 9 = .ok (.iconst 4, 1) := by decide +kernel
theorem dX10_giver_10 : decode cX10_giver 10 = .ok (.invokestatic 119, 3) := by decide +kernel
theorem dX10_giver_13 : decode cX10_giver 13 = .ok (.ifCond .ne 6, 3) := by decide +kernel
theorem dX10_giver_16 : decode cX10_giver 16 = .ok (.bipush (-2), 2) := by decide +kernel
theorem dX10_giver_18 : decode cX10_giver 18 = .ok (.ireturn, 1) := by decide +kernel
theorem dX10_giver_19 : decode cX10_giver 19 = .ok (.aload_n 0, 1) := by decide +kernel
theorem dX10_giver_20 : decode cX10_giver 20 = .ok (.getfield 106, 3) := by decide +kernel
theorem dX10_giver_23 : decode cX10_giver 23 = .ok (.ifCond .eq 6, 3) := by decide +kernel
theorem dX10_giver_26 : decode cX10_giver 26 = .ok (.bipush (-4), 2) := by decide +kernel
theorem dX10_giver_28 : decode cX10_giver 28 = .ok (.ireturn, 1) := by decide +kernel
theorem dX10_giver_29 : decode cX10_giver 29 = .ok (.iload_n 2, 1) := by decide +kernel
theorem dX10_giver_30 : decode cX10_giver 30 = .ok (.tableswitch 66 0 3 #[30, 39, 48, 57], 30) := by decide +kernel
theorem dX10_giver_60 : decode cX10_giver 60 = .ok (.aload_n 0, 1) := by decide +kernel
theorem dX10_giver_61 : decode cX10_giver 61 = .ok (.getfield 47, 3) := by decide +kernel
theorem dX10_giver_64 : decode cX10_giver 64 = .ok (.iload_n 1, 1) := by decide +kernel
theorem dX10_giver_65 : decode cX10_giver 65 = .ok (.invokevirtual 200, 3) := by decide +kernel
theorem dX10_giver_68 : decode cX10_giver 68 = .ok (.ireturn, 1) := by decide +kernel
theorem dX10_giver_69 : decode cX10_giver 69 = .ok (.aload_n 0, 1) := by decide +kernel
theorem dX10_giver_70 : decode cX10_giver 70 = .ok (.getfield 47, 3) := by decide +kernel
theorem dX10_giver_73 : decode cX10_giver 73 = .ok (.iload_n 1, 1) := by decide +kernel
theorem dX10_giver_74 : decode cX10_giver 74 = .ok (.invokevirtual 203, 3) := by decide +kernel
theorem dX10_giver_77 : decode cX10_giver 77 = .ok (.ireturn, 1) := by decide +kernel
theorem dX10_giver_78 : decode cX10_giver 78 = .ok (.aload_n 0, 1) := by decide +kernel
theorem dX10_giver_79 : decode cX10_giver 79 = .ok (.getfield 33, 3) := by decide +kernel
theorem dX10_giver_82 : decode cX10_giver 82 = .ok (.iload_n 1, 1) := by decide +kernel
theorem dX10_giver_83 : decode cX10_giver 83 = .ok (.invokevirtual 206, 3) := by decide +kernel
theorem dX10_giver_86 : decode cX10_giver 86 = .ok (.ireturn, 1) := by decide +kernel
theorem dX10_giver_87 : decode cX10_giver 87 = .ok (.aload_n 0, 1) := by decide +kernel
theorem dX10_giver_88 : decode cX10_giver 88 = .ok (.getfield 33, 3) := by decide +kernel
theorem dX10_giver_91 : decode cX10_giver 91 = .ok (.iload_n 1, 1) := by decide +kernel
theorem dX10_giver_92 : decode cX10_giver 92 = .ok (.invokevirtual 209, 3) := by decide +kernel
theorem dX10_giver_95 : decode cX10_giver 95 = .ok (.ireturn, 1) := by decide +kernel
theorem dX10_giver_96 : decode cX10_giver 96 = .ok (.aload_n 0, 1) := by decide +kernel
theorem dX10_giver_97 : decode cX10_giver 97 = .ok (.getfield 33, 3) := by decide +kernel
theorem dX10_giver_100 : decode cX10_giver 100 = .ok (.iload_n 1, 1) := by decide +kernel
theorem dX10_giver_101 : decode cX10_giver 101 = .ok (.invokevirtual 212, 3) := by decide +kernel
theorem dX10_giver_104 : decode cX10_giver 104 = .ok (.ifCond .eq 7, 3) := by decide +kernel
theorem dX10_giver_107 : decode cX10_giver 107 = .ok (.iconst 1, 1) := by decide +kernel
theorem dX10_giver_108 : decode cX10_giver 108 = .ok (.goto 4, 3) := by decide +kernel
theorem dX10_giver_111 : decode cX10_giver 111 = .ok (.iconst 0, 1) := by decide +kernel
theorem dX10_giver_112 : decode cX10_giver 112 = .ok (.ireturn, 1) := by decide +kernel
theorem dX10_stage_0 : decode cX10_stage 0 = .ok (.iload_n 1, 1) := by decide +kernel
theorem dX10_stage_1 : decode cX10_stage 1 = .ok (.iconst 1, 1) := by decide +kernel
theorem dX10_stage_2 : decode cX10_stage 2 = .ok (.ldc 215, 2) := by decide +kernel
theorem dX10_stage_4 : decode cX10_stage 4 = .ok (.invokestatic 119, 3) := by decide +kernel
theorem dX10_stage_7 : decode cX10_stage 7 = .ok (.ifCond .eq 13, 3) := by decide +kernel
theorem dX10_stage_10 : decode cX10_stage 10 = .ok (.iload_n 2, 1) := by decide +kernel
theorem dX10_stage_11 : decode cX10_stage 11 = .ok (.iconst 1, 1) := by decide +kernel
theorem dX10_stage_12 : decode cX10_stage 12 = .ok (.bipush 24, 2) := by decide +kernel
theorem dX10_stage_14 : decode cX10_stage 14 = .ok (.invokestatic 119, 3) := by decide +kernel
theorem dX10_stage_17 : decode cX10_stage 17 = .ok (.ifCond .ne 6, 3) := by decide +kernel
theorem dX10_stage_20 : decode cX10_stage 20 = .ok (.bipush (-2), 2) := by decide +kernel
theorem dX10_stage_22 : decode cX10_stage 22 = .ok (.ireturn, 1) := by decide +kernel
theorem dX10_stage_23 : decode cX10_stage 23 = .ok (.aload_n 0, 1) := by decide +kernel
theorem dX10_stage_24 : decode cX10_stage 24 = .ok (.getfield 106, 3) := by decide +kernel
theorem dX10_stage_27 : decode cX10_stage 27 = .ok (.ifCond .eq 6, 3) := by decide +kernel
theorem dX10_stage_30 : decode cX10_stage 30 = .ok (.bipush (-4), 2) := by decide +kernel
theorem dX10_stage_32 : decode cX10_stage 32 = .ok (.ireturn, 1) := by decide +kernel
theorem dX10_stage_33 : decode cX10_stage 33 = .ok (.aload_n 0, 1) := by decide +kernel
theorem dX10_stage_34 : decode cX10_stage 34 = .ok (.getfield 61, 3) := by decide +kernel
end
section
theorem dX10_stage_37 : decode cX10_stage 37 = .ok (.invokevirtual 216, 3) := by decide +kernel
theorem dX10_stage_40 : decode cX10_stage 40 = .ok (.ifCond .eq 8, 3) := by decide +kernel
theorem dX10_stage_43 : decode cX10_stage 43 = .ok (.bipush (-3), 2) := by decide +kernel
theorem dX10_stage_45 : decode cX10_stage 45 = .ok (.goto 19, 3) := by decide +kernel
theorem dX10_stage_48 : decode cX10_stage 48 = .ok (.aload_n 0, 1) := by decide +kernel
theorem dX10_stage_49 : decode cX10_stage 49 = .ok (.getfield 61, 3) := by decide +kernel
theorem dX10_stage_52 : decode cX10_stage 52 = .ok (.new 217, 3) := by decide +kernel
theorem dX10_stage_55 : decode cX10_stage 55 = .ok (.dup, 1) := by decide +kernel
theorem dX10_stage_56 : decode cX10_stage 56 = .ok (.iload_n 1, 1) := by decide +kernel
theorem dX10_stage_57 : decode cX10_stage 57 = .ok (.iload_n 2, 1) := by decide +kernel
theorem dX10_stage_58 : decode cX10_stage 58 = .ok (.invokespecial 219, 3) := by decide +kernel
theorem dX10_stage_61 : decode cX10_stage 61 = .ok (.invokevirtual 221, 3) := by decide +kernel
theorem dX10_stage_64 : decode cX10_stage 64 = .ok (.ireturn, 1) := by decide +kernel
theorem dX10_begin_0 : decode cX10_begin 0 = .ok (.aload_n 0, 1) := by decide +kernel
theorem dX10_begin_1 : decode cX10_begin 1 = .ok (.getfield 106, 3) := by decide +kernel
theorem dX10_begin_4 : decode cX10_begin 4 = .ok (.ifCond .ne 13, 3) := by decide +kernel
theorem dX10_begin_7 : decode cX10_begin 7 = .ok (.aload_n 0, 1) := by decide +kernel
theorem dX10_begin_8 : decode cX10_begin 8 = .ok (.getfield 61, 3) := by decide +kernel
theorem dX10_begin_11 : decode cX10_begin 11 = .ok (.invokevirtual 224, 3) := by decide +kernel
theorem dX10_begin_14 : decode cX10_begin 14 = .ok (.ifCond .ne 6, 3) := by decide +kernel
theorem dX10_begin_17 : decode cX10_begin 17 = .ok (.bipush (-4), 2) := by decide +kernel
theorem dX10_begin_19 : decode cX10_begin 19 = .ok (.ireturn, 1) := by decide +kernel
theorem dX10_begin_20 : decode cX10_begin 20 = .ok (.aload_n 0, 1) := by decide +kernel
theorem dX10_begin_21 : decode cX10_begin 21 = .ok (.getfield 61, 3) := by decide +kernel
theorem dX10_begin_24 : decode cX10_begin 24 = .ok (.invokevirtual 227, 3) := by decide +kernel
theorem dX10_begin_27 : decode cX10_begin 27 = .ok (.ireturn, 1) := by decide +kernel
theorem dX10_built_0 : decode cX10_built 0 = .ok (.aload_n 0, 1) := by decide +kernel
theorem dX10_built_1 : decode cX10_built 1 = .ok (.getfield 61, 3) := by decide +kernel
theorem dX10_built_4 : decode cX10_built 4 = .ok (.iload_n 1, 1) := by decide +kernel
theorem dX10_built_5 : decode cX10_built 5 = .ok (.invokevirtual 230, 3) := by decide +kernel
theorem dX10_built_8 : decode cX10_built 8 = .ok (.astore_n 3, 1) := by decide +kernel
theorem dX10_built_9 : decode cX10_built 9 = .ok (.aload_n 3, 1) := by decide +kernel
theorem dX10_built_10 : decode cX10_built 10 = .ok (.ifnonnull 5, 3) := by decide +kernel
theorem dX10_built_13 : decode cX10_built 13 = .ok (.iconst (-1), 1) := by decide +kernel
theorem dX10_built_14 : decode cX10_built 14 = .ok (.ireturn, 1) := by decide +kernel
theorem dX10_built_15 : decode cX10_built 15 = .ok (.iload_n 2, 1) := by decide +kernel
theorem dX10_built_16 : decode cX10_built 16 = .ok (.tableswitch 61 0 4 #[36, 41, 46, 51, 56], 36) := by decide +kernel
theorem dX10_built_52 : decode cX10_built 52 = .ok (.aload_n 3, 1) := by decide +kernel
theorem dX10_built_53 : decode cX10_built 53 = .ok (.invokevirtual 233, 3) := by decide +kernel
theorem dX10_built_56 : decode cX10_built 56 = .ok (.ireturn, 1) := by decide +kernel
theorem dX10_built_57 : decode cX10_built 57 = .ok (.aload_n 3, 1) := by decide +kernel
theorem dX10_built_58 : decode cX10_built 58 = .ok (.invokevirtual 236, 3) := by decide +kernel
theorem dX10_built_61 : decode cX10_built 61 = .ok (.ireturn, 1) := by decide +kernel
theorem dX10_built_62 : decode cX10_built 62 = .ok (.aload_n 3, 1) := by decide +kernel
theorem dX10_built_63 : decode cX10_built 63 = .ok (.invokevirtual 239, 3) := by decide +kernel
theorem dX10_built_66 : decode cX10_built 66 = .ok (.ireturn, 1) := by decide +kernel
theorem dX10_built_67 : decode cX10_built 67 = .ok (.aload_n 3, 1) := by decide +kernel
theorem dX10_built_68 : decode cX10_built 68 = .ok (.invokevirtual 242, 3) := by decide +kernel
theorem dX10_built_71 : decode cX10_built 71 = .ok (.ireturn, 1) := by decide +kernel
theorem dX10_built_72 : decode cX10_built 72 = .ok (.aload_n 3, 1) := by decide +kernel
theorem dX10_built_73 : decode cX10_built 73 = .ok (.invokevirtual 245, 3) := by decide +kernel
theorem dX10_built_76 : decode cX10_built 76 = .ok (.ireturn, 1) := by decide +kernel
theorem dX10_built_77 : decode cX10_built 77 = .ok (.iconst (-1), 1) := by decide +kernel
theorem dX10_built_78 : decode cX10_built 78 = .ok (.ireturn, 1) := by decide +kernel
theorem dX10_months_0 : decode cX10_months 0 = .ok (.iload_n 1, 1) := by decide +kernel
theorem dX10_months_1 : decode cX10_months 1 = .ok (.iconst 1, 1) := by decide +kernel
theorem dX10_months_2 : decode cX10_months 2 = .ok (.bipush 24, 2) := by decide +kernel
theorem dX10_months_4 : decode cX10_months 4 = .ok (.invokestatic 119, 3) := by decide +kernel
theorem dX10_months_7 : decode cX10_months 7 = .ok (.ifCond .eq 14, 3) := by decide +kernel
theorem dX10_months_10 : decode cX10_months 10 = .ok (.aload_n 0, 1) := by decide +kernel
theorem dX10_months_11 : decode cX10_months 11 = .ok (.getfield 123, 3) := by decide +kernel
theorem dX10_months_14 : decode cX10_months 14 = .ok (.iload_n 1, 1) := by decide +kernel
theorem dX10_months_15 : decode cX10_months 15 = .ok (.iadd, 1) := by decide +kernel
theorem dX10_months_16 : decode cX10_months 16 = .ok (.bipush 119, 2) := by decide +kernel
theorem dX10_months_18 : decode cX10_months 18 = .ok (.if_icmp .le 6, 3) := by decide +kernel
theorem dX10_months_21 : decode cX10_months 21 = .ok (.bipush (-2), 2) := by decide +kernel
theorem dX10_months_23 : decode cX10_months 23 = .ok (.ireturn, 1) := by decide +kernel
theorem dX10_months_24 : decode cX10_months 24 = .ok (.aload_n 0, 1) := by decide +kernel
theorem dX10_months_25 : decode cX10_months 25 = .ok (.getfield 106, 3) := by decide +kernel
theorem dX10_months_28 : decode cX10_months 28 = .ok (.ifCond .eq 6, 3) := by decide +kernel
theorem dX10_months_31 : decode cX10_months 31 = .ok (.bipush (-4), 2) := by decide +kernel
theorem dX10_months_33 : decode cX10_months 33 = .ok (.ireturn, 1) := by decide +kernel
theorem dX10_months_34 : decode cX10_months 34 = .ok (.iconst 0, 1) := by decide +kernel
theorem dX10_months_35 : decode cX10_months 35 = .ok (.istore_n 2, 1) := by decide +kernel
theorem dX10_months_36 : decode cX10_months 36 = .ok (.iload_n 2, 1) := by decide +kernel
theorem dX10_months_37 : decode cX10_months 37 = .ok (.iload_n 1, 1) := by decide +kernel
theorem dX10_months_38 : decode cX10_months 38 = .ok (.if_icmp .ge 13, 3) := by decide +kernel
theorem dX10_months_41 : decode cX10_months 41 = .ok (.aload_n 0, 1) := by decide +kernel
theorem dX10_months_42 : decode cX10_months 42 = .ok (.invokevirtual 248, 3) := by decide +kernel
theorem dX10_months_45 : decode cX10_months 45 = .ok (.iinc 2 1, 3) := by decide +kernel
theorem dX10_months_48 : decode cX10_months 48 = .ok (.goto (-12), 3) := by decide +kernel
theorem dX10_months_51 : decode cX10_months 51 = .ok (.aload_n 0, 1) := by decide +kernel
theorem dX10_months_52 : decode cX10_months 52 = .ok (.getfield 123, 3) := by decide +kernel
theorem dX10_months_55 : decode cX10_months 55 = .ok (.ireturn, 1) := by decide +kernel
theorem dX10_sure_0 : decode cX10_sure 0 = .ok (.iload_n 1, 1) := by decide +kernel
theorem dX10_sure_1 : decode cX10_sure 1 = .ok (.iconst 1, 1) := by decide +kernel
theorem dX10_sure_2 : decode cX10_sure 2 = .ok (.bipush 84, 2) := by decide +kernel
theorem dX10_sure_4 : decode cX10_sure 4 = .ok (.invokestatic 119, 3) := by decide +kernel
theorem dX10_sure_7 : decode cX10_sure 7 = .ok (.ifCond .eq 18, 3) := by decide +kernel
theorem dX10_sure_10 : decode cX10_sure 10 = .ok (.aload_n 0, 1) := by decide +kernel
theorem dX10_sure_11 : decode cX10_sure 11 = .ok (.getfield 40, 3) := by decide +kernel
theorem dX10_sure_14 : decode cX10_sure 14 = .ok (.iload_n 1, 1) := by decide +kernel
theorem dX10_sure_15 : decode cX10_sure 15 = .ok (.aload_n 0, 1) := by decide +kernel
theorem dX10_sure_16 : decode cX10_sure 16 = .ok (.getfield 123, 3) := by decide +kernel
theorem dX10_sure_19 : decode cX10_sure 19 = .ok (.invokevirtual 251, 3) := by decide +kernel
theorem dX10_sure_22 : decode cX10_sure 22 = .ok (.goto 5, 3) := by decide +kernel
theorem dX10_sure_25 : decode cX10_sure 25 = .ok (.bipush (-2), 2) := by decide +kernel
theorem dX10_sure_27 : decode cX10_sure 27 = .ok (.ireturn, 1) := by decide +kernel
theorem dX10_stone_0 : decode cX10_stone 0 = .ok (.aload_n 0, 1) := by decide +kernel
theorem dX10_stone_1 : decode cX10_stone 1 = .ok (.getfield 33, 3) := by decide +kernel
theorem dX10_stone_4 : decode cX10_stone 4 = .ok (.aload_n 0, 1) := by decide +kernel
theorem dX10_stone_5 : decode cX10_stone 5 = .ok (.getfield 47, 3) := by decide +kernel
theorem dX10_stone_8 : decode cX10_stone 8 = .ok (.aload_n 0, 1) := by decide +kernel
theorem dX10_stone_9 : decode cX10_stone 9 = .ok (.getfield 26, 3) := by decide +kernel
theorem dX10_stone_12 : decode cX10_stone 12 = .ok (.invokevirtual 254, 3) := by decide +kernel
theorem dX10_stone_15 : decode cX10_stone 15 = .ok (.invokevirtual 257, 3) := by decide +kernel
theorem dX10_stone_18 : decode cX10_stone 18 = .ok (.istore_n 2, 1) := by decide +kernel
theorem dX10_stone_19 : decode cX10_stone 19 = .ok (.iload_n 1, 1) := by decide +kernel
theorem dX10_stone_20 : decode cX10_stone 20 = .ok (.ifCond .lt 19, 3) := by decide +kernel
theorem dX10_stone_23 : decode cX10_stone 23 = .ok (.iload_n 1, 1) := by decide +kernel
theorem dX10_stone_24 : decode cX10_stone 24 = .ok (.iload_n 2, 1) := by decide +kernel
theorem dX10_stone_25 : decode cX10_stone 25 = .ok (.if_icmp .ge 14, 3) := by decide +kernel
theorem dX10_stone_28 : decode cX10_stone 28 = .ok (.aload_n 0, 1) := by decide +kernel
theorem dX10_stone_29 : decode cX10_stone 29 = .ok (.getfield 33, 3) := by decide +kernel
theorem dX10_stone_32 : decode cX10_stone 32 = .ok (.iload_n 1, 1) := by decide +kernel
theorem dX10_stone_33 : decode cX10_stone 33 = .ok (.invokevirtual 261, 3) := by decide +kernel
theorem dX10_stone_36 : decode cX10_stone 36 = .ok (.goto 4, 3) := by decide +kernel
theorem dX10_stone_39 : decode cX10_stone 39 = .ok (.iconst (-1), 1) := by decide +kernel
theorem dX10_stone_40 : decode cX10_stone 40 = .ok (.ireturn, 1) := by decide +kernel
theorem dX10_stop_0 : decode cX10_stop 0 = .ok (.aload_n 0, 1) := by decide +kernel
theorem dX10_stop_1 : decode cX10_stop 1 = .ok (.getfield 106, 3) := by decide +kernel
theorem dX10_stop_4 : decode cX10_stop 4 = .ok (.ifCond .eq 6, 3) := by decide +kernel
theorem dX10_stop_7 : decode cX10_stop 7 = .ok (.bipush (-4), 2) := by decide +kernel
theorem dX10_stop_9 : decode cX10_stop 9 = .ok (.ireturn, 1) := by decide +kernel
theorem dX10_stop_10 : decode cX10_stop 10 = .ok (.aload_n 0, 1) := by decide +kernel
theorem dX10_stop_11 : decode cX10_stop 11 = .ok (.iconst 1, 1) := by decide +kernel
theorem dX10_stop_12 : decode cX10_stop 12 = .ok (.putfield 106, 3) := by decide +kernel
theorem dX10_stop_15 : decode cX10_stop 15 = .ok (.aload_n 0, 1) := by decide +kernel
theorem dX10_stop_16 : decode cX10_stop 16 = .ok (.getfield 33, 3) := by decide +kernel
theorem dX10_stop_19 : decode cX10_stop 19 = .ok (.aload_n 0, 1) := by decide +kernel
theorem dX10_stop_20 : decode cX10_stop 20 = .ok (.getfield 54, 3) := by decide +kernel
theorem dX10_stop_23 : decode cX10_stop 23 = .ok (.invokevirtual 264, 3) := by decide +kernel
theorem dX10_stop_26 : decode cX10_stop 26 = .ok (.aload_n 0, 1) := by decide +kernel
theorem dX10_stop_27 : decode cX10_stop 27 = .ok (.getfield 47, 3) := by decide +kernel
theorem dX10_stop_30 : decode cX10_stop 30 = .ok (.aload_n 0, 1) := by decide +kernel
theorem dX10_stop_31 : decode cX10_stop 31 = .ok (.getfield 26, 3) := by decide +kernel
theorem dX10_stop_34 : decode cX10_stop 34 = .ok (.invokevirtual 268, 3) := by decide +kernel
theorem dX10_stop_37 : decode cX10_stop 37 = .ok (.invokevirtual 271, 3) := by decide +kernel
theorem dX10_stop_40 : decode cX10_stop 40 = .ok (.istore_n 1, 1) := by decide +kernel
theorem dX10_stop_41 : decode cX10_stop 41 = .ok (.aload_n 0, 1) := by decide +kernel
theorem dX10_stop_42 : decode cX10_stop 42 = .ok (.getfield 54, 3) := by decide +kernel
theorem dX10_stop_45 : decode cX10_stop 45 = .ok (.iload_n 1, 1) := by decide +kernel
theorem dX10_stop_46 : decode cX10_stop 46 = .ok (.invokevirtual 275, 3) := by decide +kernel
theorem dX10_stop_49 : decode cX10_stop 49 = .ok (.iload_n 1, 1) := by decide +kernel
theorem dX10_stop_50 : decode cX10_stop 50 = .ok (.ireturn, 1) := by decide +kernel
theorem dX10_back_0 : decode cX10_back 0 = .ok (.iload_n 1, 1) := by decide +kernel
theorem dX10_back_1 : decode cX10_back 1 = .ok (.invokestatic 102, 3) := by decide +kernel
theorem dX10_back_4 : decode cX10_back 4 = .ok (.ifCond .eq 14, 3) := by decide +kernel
theorem dX10_back_7 : decode cX10_back 7 = .ok (.aload_n 0, 1) := by decide +kernel
theorem dX10_back_8 : decode cX10_back 8 = .ok (.getfield 33, 3) := by decide +kernel
theorem dX10_back_11 : decode cX10_back 11 = .ok (.iload_n 1, 1) := by decide +kernel
theorem dX10_back_12 : decode cX10_back 12 = .ok (.invokevirtual 278, 3) := by decide +kernel
theorem dX10_back_15 : decode cX10_back 15 = .ok (.goto 5, 3) := by decide +kernel
theorem dX10_back_18 : decode cX10_back 18 = .ok (.bipush (-2), 2) := by decide +kernel
theorem dX10_back_20 : decode cX10_back 20 = .ok (.ireturn, 1) := by decide +kernel
theorem dX10_count_0 : decode cX10_count 0 = .ok (.iload_n 1, 1) := by decide +kernel
theorem dX10_count_1 : decode cX10_count 1 = .ok (.tableswitch 215 0 14 #[75, 80, 89, 98, 107, 116, 125, 134, 143, 151, 159, 167, 175, 188, 196], 75) := by decide +kernel
theorem dX10_count_76 : decode cX10_count 76 = .ok (.aload_n 0, 1) := by decide +kernel
theorem dX10_count_77 : decode cX10_count 77 = .ok (.getfield 123, 3) := by decide +kernel
theorem dX10_count_80 : decode cX10_count 80 = .ok (.ireturn, 1) := by decide +kernel
theorem dX10_count_81 : decode cX10_count 81 = .ok (.aload_n 0, 1) := by decide +kernel
theorem dX10_count_82 : decode cX10_count 82 = .ok (.getfield 54, 3) := by decide +kernel
theorem dX10_count_85 : decode cX10_count 85 = .ok (.invokevirtual 264, 3) := by decide +kernel
theorem dX10_count_88 : decode cX10_count 88 = .ok (.l2i, 1) := by decide +kernel
theorem dX10_count_89 : decode cX10_count 89 = .ok (.ireturn, 1) := by decide +kernel
theorem dX10_count_90 : decode cX10_count 90 = .ok (.aload_n 0, 1) := by decide +kernel
theorem dX10_count_91 : decode cX10_count 91 = .ok (.getfield 54, 3) := by decide +kernel
theorem dX10_count_94 : decode cX10_count 94 = .ok (.invokevirtual 281, 3) := by decide +kernel
theorem dX10_count_97 : decode cX10_count 97 = .ok (.l2i, 1) := by decide +kernel
theorem dX10_count_98 : decode cX10_count 98 = .ok (.ireturn, 1) := by decide +kernel
theorem dX10_count_99 : decode cX10_count 99 = .ok (.aload_n 0, 1) := by decide +kernel
theorem dX10_count_100 : decode cX10_count 100 = .ok (.getfield 47, 3) := by decide +kernel
theorem dX10_count_103 : decode cX10_count 103 = .ok (.invokevirtual 284, 3) := by decide +kernel
theorem dX10_count_106 : decode cX10_count 106 = .ok (.l2i, 1) := by decide +kernel
theorem dX10_count_107 : decode cX10_count 107 = .ok (.ireturn, 1) := by decide +kernel
theorem dX10_count_108 : decode cX10_count 108 = .ok (.aload_n 0, 1) := by decide +kernel
theorem dX10_count_109 : decode cX10_count 109 = .ok (.getfield 54, 3) := by decide +kernel
theorem dX10_count_112 : decode cX10_count 112 = .ok (.invokevirtual 287, 3) := by decide +kernel
theorem dX10_count_115 : decode cX10_count 115 = .ok (.l2i, 1) := by decide +kernel
theorem dX10_count_116 : decode cX10_count 116 = .ok (.ireturn, 1) := by decide +kernel
theorem dX10_count_117 : decode cX10_count 117 = .ok (.aload_n 0, 1) := by decide +kernel
theorem dX10_count_118 : decode cX10_count 118 = .ok (.getfield 54, 3) := by decide +kernel
theorem dX10_count_121 : decode cX10_count 121 = .ok (.invokevirtual 290, 3) := by decide +kernel
theorem dX10_count_124 : decode cX10_count 124 = .ok (.l2i, 1) := by decide +kernel
theorem dX10_count_125 : decode cX10_count 125 = .ok (.ireturn, 1) := by decide +kernel
theorem dX10_count_126 : decode cX10_count 126 = .ok (.aload_n 0, 1) := by decide +kernel
theorem dX10_count_127 : decode cX10_count 127 = .ok (.getfield 54, 3) := by decide +kernel
theorem dX10_count_130 : decode cX10_count 130 = .ok (.invokevirtual 293, 3) := by decide +kernel
theorem dX10_count_133 : decode cX10_count 133 = .ok (.l2i, 1) := by decide +kernel
theorem dX10_count_134 : decode cX10_count 134 = .ok (.ireturn, 1) := by decide +kernel
theorem dX10_count_135 : decode cX10_count 135 = .ok (.aload_n 0, 1) := by decide +kernel
theorem dX10_count_136 : decode cX10_count 136 = .ok (.getfield 54, 3) := by decide +kernel
theorem dX10_count_139 : decode cX10_count 139 = .ok (.invokevirtual 296, 3) := by decide +kernel
theorem dX10_count_142 : decode cX10_count 142 = .ok (.l2i, 1) := by decide +kernel
theorem dX10_count_143 : decode cX10_count 143 = .ok (.ireturn, 1) := by decide +kernel
theorem dX10_count_144 : decode cX10_count 144 = .ok (.aload_n 0, 1) := by decide +kernel
theorem dX10_count_145 : decode cX10_count 145 = .ok (.getfield 40, 3) := by decide +kernel
theorem dX10_count_148 : decode cX10_count 148 = .ok (.invokevirtual 299, 3) := by decide +kernel
theorem dX10_count_151 : decode cX10_count 151 = .ok (.ireturn, 1) := by decide +kernel
theorem dX10_count_152 : decode cX10_count 152 = .ok (.aload_n 0, 1) := by decide +kernel
theorem dX10_count_153 : decode cX10_count 153 = .ok (.getfield 40, 3) := by decide +kernel
theorem dX10_count_156 : decode cX10_count 156 = .ok (.invokevirtual 302, 3) := by decide +kernel
theorem dX10_count_159 : decode cX10_count 159 = .ok (.ireturn, 1) := by decide +kernel
theorem dX10_count_160 : decode cX10_count 160 = .ok (.aload_n 0, 1) := by decide +kernel
theorem dX10_count_161 : decode cX10_count 161 = .ok (.getfield 61, 3) := by decide +kernel
theorem dX10_count_164 : decode cX10_count 164 = .ok (.invokevirtual 305, 3) := by decide +kernel
theorem dX10_count_167 : decode cX10_count 167 = .ok (.ireturn, 1) := by decide +kernel
theorem dX10_count_168 : decode cX10_count 168 = .ok (.aload_n 0, 1) := by decide +kernel
theorem dX10_count_169 : decode cX10_count 169 = .ok (.getfield 47, 3) := by decide +kernel
theorem dX10_count_172 : decode cX10_count 172 = .ok (.invokevirtual 306, 3) := by decide +kernel
theorem dX10_count_175 : decode cX10_count 175 = .ok (.ireturn, 1) := by decide +kernel
theorem dX10_count_176 : decode cX10_count 176 = .ok (.aload_n 0, 1) := by decide +kernel
theorem dX10_count_177 : decode cX10_count 177 = .ok (.getfield 106, 3) := by decide +kernel
theorem dX10_count_180 : decode cX10_count 180 = .ok (.ifCond .eq 7, 3) := by decide +kernel
theorem dX10_count_183 : decode cX10_count 183 = .ok (.iconst 1, 1) := by decide +kernel
theorem dX10_count_184 : decode cX10_count 184 = .ok (.goto 4, 3) := by decide +kernel
theorem dX10_count_187 : decode cX10_count 187 = .ok (.iconst 0, 1) := by decide +kernel
theorem dX10_count_188 : decode cX10_count 188 = .ok (.ireturn, 1) := by decide +kernel
theorem dX10_count_189 : decode cX10_count 189 = .ok (.aload_n 0, 1) := by decide +kernel
theorem dX10_count_190 : decode cX10_count 190 = .ok (.getfield 10, 3) := by decide +kernel
theorem dX10_count_193 : decode cX10_count 193 = .ok (.invokevirtual 73, 3) := by decide +kernel
theorem dX10_count_196 : decode cX10_count 196 = .ok (.ireturn, 1) := by decide +kernel
theorem dX10_count_197 : decode cX10_count 197 = .ok (.aload_n 0, 1) := by decide +kernel
theorem dX10_count_198 : decode cX10_count 198 = .ok (.getfield 33, 3) := by decide +kernel
theorem dX10_count_201 : decode cX10_count 201 = .ok (.aload_n 0, 1) := by decide +kernel
theorem dX10_count_202 : decode cX10_count 202 = .ok (.getfield 47, 3) := by decide +kernel
theorem dX10_count_205 : decode cX10_count 205 = .ok (.aload_n 0, 1) := by decide +kernel
theorem dX10_count_206 : decode cX10_count 206 = .ok (.getfield 26, 3) := by decide +kernel
theorem dX10_count_209 : decode cX10_count 209 = .ok (.invokevirtual 254, 3) := by decide +kernel
theorem dX10_count_212 : decode cX10_count 212 = .ok (.invokevirtual 257, 3) := by decide +kernel
theorem dX10_count_215 : decode cX10_count 215 = .ok (.ireturn, 1) := by decide +kernel
theorem dX10_count_216 : decode cX10_count 216 = .ok (.iconst (-1), 1) := by decide +kernel
theorem dX10_count_217 : decode cX10_count 217 = .ok (.ireturn, 1) := by decide +kernel
theorem dX10_isGiver_0 : decode cX10_isGiver 0 = .ok (.iload_n 0, 1) := by decide +kernel
theorem dX10_isGiver_1 : decode cX10_isGiver 1 = .ok (.ifCond .lt 13, 3) := by decide +kernel
theorem dX10_isGiver_4 : decode cX10_isGiver 4 = .ok (.iload_n 0, 1) := by decide +kernel
theorem dX10_isGiver_5 : decode cX10_isGiver 5 = .ok (.bipush 30, 2) := by decide +kernel
theorem dX10_isGiver_7 : decode cX10_isGiver 7 = .ok (.if_icmp .ge 7, 3) := by decide +kernel
theorem dX10_isGiver_10 : decode cX10_isGiver 10 = .ok (.iconst 1, 1) := by decide +kernel
theorem dX10_isGiver_11 : decode cX10_isGiver 11 = .ok (.goto 4, 3) := by decide +kernel
theorem dX10_isGiver_14 : decode cX10_isGiver 14 = .ok (.iconst 0, 1) := by decide +kernel
theorem dX10_isGiver_15 : decode cX10_isGiver 15 = .ok (.ireturn, 1) := by decide +kernel
theorem dX10_isSum_0 : decode cX10_isSum 0 = .ok (.iload_n 0, 1) := by decide +kernel
theorem dX10_isSum_1 : decode cX10_isSum 1 = .ok (.iconst 1, 1) := by decide +kernel
theorem dX10_isSum_2 : decode cX10_isSum 2 = .ok (.ldc_w 307, 3) := by decide +kernel
theorem dX10_isSum_5 : decode cX10_isSum 5 = .ok (.invokestatic 119, 3) := by decide +kernel
theorem dX10_isSum_8 : decode cX10_isSum 8 = .ok (.ireturn, 1) := by decide +kernel
theorem dX10_isWithin_0 : decode cX10_isWithin 0 = .ok (.iload_n 0, 1) := by decide +kernel
theorem dX10_isWithin_1 : decode cX10_isWithin 1 = .ok (.iload_n 1, 1) := by decide +kernel
theorem dX10_isWithin_2 : decode cX10_isWithin 2 = .ok (.if_icmp .lt 12, 3) := by decide +kernel
theorem dX10_isWithin_5 : decode cX10_isWithin 5 = .ok (.iload_n 0, 1) := by decide +kernel
theorem dX10_isWithin_6 : decode cX10_isWithin 6 = .ok (.iload_n 2, 1) := by decide +kernel
theorem dX10_isWithin_7 : decode cX10_isWithin 7 = .ok (.if_icmp .gt 7, 3) := by decide +kernel
theorem dX10_isWithin_10 : decode cX10_isWithin 10 = .ok (.iconst 1, 1) := by decide +kernel
theorem dX10_isWithin_11 : decode cX10_isWithin 11 = .ok (.goto 4, 3) := by decide +kernel
theorem dX10_isWithin_14 : decode cX10_isWithin 14 = .ok (.iconst 0, 1) := by decide +kernel
theorem dX10_isWithin_15 : decode cX10_isWithin 15 = .ok (.ireturn, 1) := by decide +kernel
theorem dX10_receive_0 : decode cX10_receive 0 = .ok (.aload_n 0, 1) := by decide +kernel
theorem dX10_receive_1 : decode cX10_receive 1 = .ok (.getfield 47, 3) := by decide +kernel
theorem dX10_receive_4 : decode cX10_receive 4 = .ok (.iload_n 1, 1) := by decide +kernel
theorem dX10_receive_5 : decode cX10_receive 5 = .ok (.iload_n 2, 1) := by decide +kernel
theorem dX10_receive_6 : decode cX10_receive 6 = .ok (.aload_n 0, 1) := by decide +kernel
theorem dX10_receive_7 : decode cX10_receive 7 = .ok (.getfield 123, 3) := by decide +kernel
theorem dX10_receive_10 : decode cX10_receive 10 = .ok (.invokevirtual 308, 3) := by decide +kernel
theorem dX10_receive_13 : decode cX10_receive 13 = .ok (.aload_n 0, 1) := by decide +kernel
theorem dX10_receive_14 : decode cX10_receive 14 = .ok (.getfield 54, 3) := by decide +kernel
theorem dX10_receive_17 : decode cX10_receive 17 = .ok (.iload_n 2, 1) := by decide +kernel
theorem dX10_receive_18 : decode cX10_receive 18 = .ok (.aload_n 0, 1) := by decide +kernel
theorem dX10_receive_19 : decode cX10_receive 19 = .ok (.getfield 123, 3) := by decide +kernel
theorem dX10_receive_22 : decode cX10_receive 22 = .ok (.aload_n 0, 1) := by decide +kernel
theorem dX10_receive_23 : decode cX10_receive 23 = .ok (.getfield 26, 3) := by decide +kernel
theorem dX10_receive_26 : decode cX10_receive 26 = .ok (.invokevirtual 310, 3) := by decide +kernel
theorem dX10_receive_29 : decode cX10_receive 29 = .ok (.ireturn, 1) := by decide +kernel
theorem dX10_endMonth_0 : decode cX10_endMonth 0 = .ok (.aload_n 0, 1) := by decide +kernel
theorem dX10_endMonth_1 : decode cX10_endMonth 1 = .ok (.getfield 40, 3) := by decide +kernel
theorem dX10_endMonth_4 : decode cX10_endMonth 4 = .ok (.aload_n 0, 1) := by decide +kernel
theorem dX10_endMonth_5 : decode cX10_endMonth 5 = .ok (.getfield 123, 3) := by decide +kernel
theorem dX10_endMonth_8 : decode cX10_endMonth 8 = .ok (.aload_n 0, 1) := by decide +kernel
theorem dX10_endMonth_9 : decode cX10_endMonth 9 = .ok (.getfield 26, 3) := by decide +kernel
theorem dX10_endMonth_12 : decode cX10_endMonth 12 = .ok (.invokevirtual 314, 3) := by decide +kernel
theorem dX10_endMonth_15 : decode cX10_endMonth 15 = .ok (.invokevirtual 317, 3) := by decide +kernel
theorem dX10_endMonth_18 : decode cX10_endMonth 18 = .ok (.aload_n 0, 1) := by decide +kernel
theorem dX10_endMonth_19 : decode cX10_endMonth 19 = .ok (.getfield 54, 3) := by decide +kernel
theorem dX10_endMonth_22 : decode cX10_endMonth 22 = .ok (.aload_n 0, 1) := by decide +kernel
theorem dX10_endMonth_23 : decode cX10_endMonth 23 = .ok (.getfield 26, 3) := by decide +kernel
theorem dX10_endMonth_26 : decode cX10_endMonth 26 = .ok (.invokevirtual 320, 3) := by decide +kernel
theorem dX10_endMonth_29 : decode cX10_endMonth 29 = .ok (.invokevirtual 323, 3) := by decide +kernel
theorem dX10_endMonth_32 : decode cX10_endMonth 32 = .ok (.aload_n 0, 1) := by decide +kernel
theorem dX10_endMonth_33 : decode cX10_endMonth 33 = .ok (.getfield 61, 3) := by decide +kernel
theorem dX10_endMonth_36 : decode cX10_endMonth 36 = .ok (.aload_n 0, 1) := by decide +kernel
theorem dX10_endMonth_37 : decode cX10_endMonth 37 = .ok (.getfield 54, 3) := by decide +kernel
theorem dX10_endMonth_40 : decode cX10_endMonth 40 = .ok (.aload_n 0, 1) := by decide +kernel
theorem dX10_endMonth_41 : decode cX10_endMonth 41 = .ok (.getfield 26, 3) := by decide +kernel
theorem dX10_endMonth_44 : decode cX10_endMonth 44 = .ok (.invokevirtual 326, 3) := by decide +kernel
theorem dX10_endMonth_47 : decode cX10_endMonth 47 = .ok (.invokevirtual 329, 3) := by decide +kernel
theorem dX10_endMonth_50 : decode cX10_endMonth 50 = .ok (.aload_n 0, 1) := by decide +kernel
theorem dX10_endMonth_51 : decode cX10_endMonth 51 = .ok (.getfield 54, 3) := by decide +kernel
theorem dX10_endMonth_54 : decode cX10_endMonth 54 = .ok (.invokevirtual 333, 3) := by decide +kernel
theorem dX10_endMonth_57 : decode cX10_endMonth 57 = .ok (.aload_n 0, 1) := by decide +kernel
theorem dX10_endMonth_58 : decode cX10_endMonth 58 = .ok (.dup, 1) := by decide +kernel
theorem dX10_endMonth_59 : decode cX10_endMonth 59 = .ok (.getfield 123, 3) := by decide +kernel
theorem dX10_endMonth_62 : decode cX10_endMonth 62 = .ok (.iconst 1, 1) := by decide +kernel
theorem dX10_endMonth_63 : decode cX10_endMonth 63 = .ok (.iadd, 1) := by decide +kernel
theorem dX10_endMonth_64 : decode cX10_endMonth 64 = .ok (.putfield 123, 3) := by decide +kernel
theorem dX10_endMonth_67 : decode cX10_endMonth 67 = .ok (.return_, 1) := by decide +kernel
theorem dX11_init_0 : decode cX11_init 0 = .ok (.aload_n 0, 1) := by decide +kernel
theorem dX11_init_1 : decode cX11_init 1 = .ok (.aconst_null, 1) := by decide +kernel
theorem dX11_init_2 : decode cX11_init 2 = .ok (.aconst_null, 1) := by decide +kernel
theorem dX11_init_3 : decode cX11_init 3 = .ok (.iconst 0, 1) := by decide +kernel
theorem dX11_init_4 : decode cX11_init 4 = .ok (.iconst 0, 1) := by decide +kernel
theorem dX11_init_5 : decode cX11_init 5 = .ok (.invokespecial 1, 3) := by decide +kernel
theorem dX11_init_8 : decode cX11_init 8 = .ok (.return_, 1) := by decide +kernel
theorem dX12_in_0 : decode cX12_in 0 = .ok (.lload_n 0, 1) := by decide +kernel
theorem dX12_in_1 : decode cX12_in 1 = .ok (.lload_n 2, 1) := by decide +kernel
theorem dX12_in_2 : decode cX12_in 2 = .ok (.lcmp, 1) := by decide +kernel
theorem dX12_in_3 : decode cX12_in 3 = .ok (.ifCond .lt 14, 3) := by decide +kernel
theorem dX12_in_6 : decode cX12_in 6 = .ok (.lload_n 0, 1) := by decide +kernel
theorem dX12_in_7 : decode cX12_in 7 = .ok (.lload 4, 2) := by decide +kernel
theorem dX12_in_9 : decode cX12_in 9 = .ok (.lcmp, 1) := by decide +kernel
theorem dX12_in_10 : decode cX12_in 10 = .ok (.ifCond .gt 7, 3) := by decide +kernel
theorem dX12_in_13 : decode cX12_in 13 = .ok (.iconst 1, 1) := by decide +kernel
theorem dX12_in_14 : decode cX12_in 14 = .ok (.goto 4, 3) := by decide +kernel
theorem dX12_in_17 : decode cX12_in 17 = .ok (.iconst 0, 1) := by decide +kernel
theorem dX12_in_18 : decode cX12_in 18 = .ok (.ireturn, 1) := by decide +kernel
theorem dX12_wrong_0 : decode cX12_wrong 0 = .ok (.aload_n 0, 1) := by decide +kernel
theorem dX12_wrong_1 : decode cX12_wrong 1 = .ok (.iload_n 1, 1) := by decide +kernel
theorem dX12_wrong_2 : decode cX12_wrong 2 = .ok (.putfield 1, 3) := by decide +kernel
theorem dX12_wrong_5 : decode cX12_wrong 5 = .ok (.aload_n 0, 1) := by decide +kernel
theorem dX12_wrong_6 : decode cX12_wrong 6 = .ok (.aload_n 0, 1) := by decide +kernel
theorem dX12_wrong_7 : decode cX12_wrong 7 = .ok (.getfield 7, 3) := by decide +kernel
theorem dX12_wrong_10 : decode cX12_wrong 10 = .ok (.putfield 10, 3) := by decide +kernel
theorem dX12_wrong_13 : decode cX12_wrong 13 = .ok (.aload_n 0, 1) := by decide +kernel
theorem dX12_wrong_14 : decode cX12_wrong 14 = .ok (.getfield 13, 3) := by decide +kernel
theorem dX12_wrong_17 : decode cX12_wrong 17 = .ok (.areturn, 1) := by decide +kernel
theorem dX12_byteAt_0 : decode cX12_byteAt 0 = .ok (.iload_n 1, 1) := by decide +kernel
theorem dX12_byteAt_1 : decode cX12_byteAt 1 = .ok (.aload_n 0, 1) := by decide +kernel
theorem dX12_byteAt_2 : decode cX12_byteAt 2 = .ok (.getfield 17, 3) := by decide +kernel
theorem dX12_byteAt_5 : decode cX12_byteAt 5 = .ok (.if_icmp .ge 16, 3) := by decide +kernel
theorem dX12_byteAt_8 : decode cX12_byteAt 8 = .ok (.aload_n 0, 1) := by decide +kernel
theorem dX12_byteAt_9 : decode cX12_byteAt 9 = .ok (.getfield 20, 3) := by decide +kernel
theorem dX12_byteAt_12 : decode cX12_byteAt 12 = .ok (.iload_n 1, 1) := by decide +kernel
theorem dX12_byteAt_13 : decode cX12_byteAt 13 = .ok (.baload, 1) := by decide +kernel
theorem dX12_byteAt_14 : decode cX12_byteAt 14 = .ok (.sipush 255, 3) := by decide +kernel
theorem dX12_byteAt_17 : decode cX12_byteAt 17 = .ok (.iand, 1) := by decide +kernel
theorem dX12_byteAt_18 : decode cX12_byteAt 18 = .ok (.goto 4, 3) := by decide +kernel
theorem dX12_byteAt_21 : decode cX12_byteAt 21 = .ok (.iconst 0, 1) := by decide +kernel
theorem dX12_byteAt_22 : decode cX12_byteAt 22 = .ok (.ireturn, 1) := by decide +kernel
theorem dX12_isLetter_0 : decode cX12_isLetter 0 = .ok (.iload_n 0, 1) := by decide +kernel
theorem dX12_isLetter_1 : decode cX12_isLetter 1 = .ok (.bipush 97, 2) := by decide +kernel
theorem dX12_isLetter_3 : decode cX12_isLetter 3 = .ok (.if_icmp .lt 13, 3) := by decide +kernel
theorem dX12_isLetter_6 : decode cX12_isLetter 6 = .ok (.iload_n 0, 1) := by decide +kernel
theorem dX12_isLetter_7 : decode cX12_isLetter 7 = .ok (.bipush 122, 2) := by decide +kernel
theorem dX12_isLetter_9 : decode cX12_isLetter 9 = .ok (.if_icmp .gt 7, 3) := by decide +kernel
theorem dX12_isLetter_12 : decode cX12_isLetter 12 = .ok (.iconst 1, 1) := by decide +kernel
theorem dX12_isLetter_13 : decode cX12_isLetter 13 = .ok (.goto 4, 3) := by decide +kernel
theorem dX12_isLetter_16 : decode cX12_isLetter 16 = .ok (.iconst 0, 1) := by decide +kernel
theorem dX12_isLetter_17 : decode cX12_isLetter 17 = .ok (.ireturn, 1) := by decide +kernel
theorem dX12_isDigit_0 : decode cX12_isDigit 0 = .ok (.iload_n 0, 1) := by decide +kernel
theorem dX12_isDigit_1 : decode cX12_isDigit 1 = .ok (.bipush 48, 2) := by decide +kernel
theorem dX12_isDigit_3 : decode cX12_isDigit 3 = .ok (.if_icmp .lt 13, 3) := by decide +kernel
theorem dX12_isDigit_6 : decode cX12_isDigit 6 = .ok (.iload_n 0, 1) := by decide +kernel
theorem dX12_isDigit_7 : decode cX12_isDigit 7 = .ok (.bipush 57, 2) := by decide +kernel
theorem dX12_isDigit_9 : decode cX12_isDigit 9 = .ok (.if_icmp .gt 7, 3) := by decide +kernel
theorem dX12_isDigit_12 : decode cX12_isDigit 12 = .ok (.iconst 1, 1) := by decide +kernel
theorem dX12_isDigit_13 : decode cX12_isDigit 13 = .ok (.goto 4, 3) := by decide +kernel
theorem dX12_isDigit_16 : decode cX12_isDigit 16 = .ok (.iconst 0, 1) := by decide +kernel
theorem dX12_isDigit_17 : decode cX12_isDigit 17 = .ok (.ireturn, 1) := by decide +kernel
theorem dX12_scan_0 : decode cX12_scan 0 = .ok (.aload_n 0, 1) := by decide +kernel
theorem dX12_scan_1 : decode cX12_scan 1 = .ok (.getfield 24, 3) := by decide +kernel
theorem dX12_scan_4 : decode cX12_scan 4 = .ok (.aload_n 0, 1) := by decide +kernel
theorem dX12_scan_5 : decode cX12_scan 5 = .ok (.getfield 17, 3) := by decide +kernel
theorem dX12_scan_8 : decode cX12_scan 8 = .ok (.if_icmp .ge 44, 3) := by decide +kernel
theorem dX12_scan_11 : decode cX12_scan 11 = .ok (.aload_n 0, 1) := by decide +kernel
theorem dX12_scan_12 : decode cX12_scan 12 = .ok (.getfield 20, 3) := by decide +kernel
theorem dX12_scan_15 : decode cX12_scan 15 = .ok (.aload_n 0, 1) := by decide +kernel
theorem dX12_scan_16 : decode cX12_scan 16 = .ok (.getfield 24, 3) := by decide +kernel
theorem dX12_scan_19 : decode cX12_scan 19 = .ok (.baload, 1) := by decide +kernel
theorem dX12_scan_20 : decode cX12_scan 20 = .ok (.bipush 32, 2) := by decide +kernel
theorem dX12_scan_22 : decode cX12_scan 22 = .ok (.if_icmp .eq 17, 3) := by decide +kernel
theorem dX12_scan_25 : decode cX12_scan 25 = .ok (.aload_n 0, 1) := by decide +kernel
theorem dX12_scan_26 : decode cX12_scan 26 = .ok (.getfield 20, 3) := by decide +kernel
theorem dX12_scan_29 : decode cX12_scan 29 = .ok (.aload_n 0, 1) := by decide +kernel
theorem dX12_scan_30 : decode cX12_scan 30 = .ok (.getfield 24, 3) := by decide +kernel
theorem dX12_scan_33 : decode cX12_scan 33 = .ok (.baload, 1) := by decide +kernel
theorem dX12_scan_34 : decode cX12_scan 34 = .ok (.bipush 10, 2) := by decide +kernel
theorem dX12_scan_36 : decode cX12_scan 36 = .ok (.if_icmp .ne 16, 3) := by decide +kernel
theorem dX12_scan_39 : decode cX12_scan 39 = .ok (.aload_n 0, 1) := by decide +kernel
theorem dX12_scan_40 : decode cX12_scan 40 = .ok (.dup, 1) := by decide +kernel
theorem dX12_scan_41 : decode cX12_scan 41 = .ok (.getfield 24, 3) := by decide +kernel
theorem dX12_scan_44 : decode cX12_scan 44 = .ok (.iconst 1, 1) := by decide +kernel
theorem dX12_scan_45 : decode cX12_scan 45 = .ok (.iadd, 1) := by decide +kernel
theorem dX12_scan_46 : decode cX12_scan 46 = .ok (.putfield 24, 3) := by decide +kernel
theorem dX12_scan_49 : decode cX12_scan 49 = .ok (.goto (-49), 3) := by decide +kernel
theorem dX12_scan_52 : decode cX12_scan 52 = .ok (.aload_n 0, 1) := by decide +kernel
theorem dX12_scan_53 : decode cX12_scan 53 = .ok (.aload_n 0, 1) := by decide +kernel
theorem dX12_scan_54 : decode cX12_scan 54 = .ok (.getfield 24, 3) := by decide +kernel
theorem dX12_scan_57 : decode cX12_scan 57 = .ok (.putfield 7, 3) := by decide +kernel
theorem dX12_scan_60 : decode cX12_scan 60 = .ok (.aload_n 0, 1) := by decide +kernel
theorem dX12_scan_61 : decode cX12_scan 61 = .ok (.aload_n 0, 1) := by decide +kernel
theorem dX12_scan_62 : decode cX12_scan 62 = .ok (.getfield 7, 3) := by decide +kernel
theorem dX12_scan_65 : decode cX12_scan 65 = .ok (.invokevirtual 27, 3) := by decide +kernel
theorem dX12_scan_68 : decode cX12_scan 68 = .ok (.istore_n 1, 1) := by decide +kernel
theorem dX12_scan_69 : decode cX12_scan 69 = .ok (.aload_n 0, 1) := by decide +kernel
theorem dX12_scan_70 : decode cX12_scan 70 = .ok (.getfield 7, 3) := by decide +kernel
theorem dX12_scan_73 : decode cX12_scan 73 = .ok (.aload_n 0, 1) := by decide +kernel
theorem dX12_scan_74 : decode cX12_scan 74 = .ok (.getfield 17, 3) := by decide +kernel
theorem dX12_scan_77 : decode cX12_scan 77 = .ok (.if_icmp .ne 11, 3) := by decide +kernel
theorem dX12_scan_80 : decode cX12_scan 80 = .ok (.aload_n 0, 1) := by decide +kernel
theorem dX12_scan_81 : decode cX12_scan 81 = .ok (.iconst 0, 1) := by decide +kernel
theorem dX12_scan_82 : decode cX12_scan 82 = .ok (.putfield 31, 3) := by decide +kernel
theorem dX12_scan_85 : decode cX12_scan 85 = .ok (.goto 172, 3) := by decide +kernel
theorem dX12_scan_88 : decode cX12_scan 88 = .ok (.iload_n 1, 1) := by decide +kernel
theorem dX12_scan_89 : decode cX12_scan 89 = .ok (.invokestatic 34, 3) := by decide +kernel
theorem dX12_scan_92 : decode cX12_scan 92 = .ok (.ifCond .eq 38, 3) := by decide +kernel
theorem dX12_scan_95 : decode cX12_scan 95 = .ok (.aload_n 0, 1) := by decide +kernel
theorem dX12_scan_96 : decode cX12_scan 96 = .ok (.aload_n 0, 1) := by decide +kernel
theorem dX12_scan_97 : decode cX12_scan 97 = .ok (.getfield 24, 3) := by decide +kernel
theorem dX12_scan_100 : decode cX12_scan 100 = .ok (.invokevirtual 27, 3) := by decide +kernel
theorem dX12_scan_103 : decode cX12_scan 103 = .ok (.invokestatic 34, 3) := by decide +kernel
theorem dX12_scan_106 : decode cX12_scan 106 = .ok (.ifCond .eq 16, 3) := by decide +kernel
theorem dX12_scan_109 : decode cX12_scan 109 = .ok (.aload_n 0, 1) := by decide +kernel
theorem dX12_scan_110 : decode cX12_scan 110 = .ok (.dup, 1) := by decide +kernel
theorem dX12_scan_111 : decode cX12_scan 111 = .ok (.getfield 24, 3) := by decide +kernel
theorem dX12_scan_114 : decode cX12_scan 114 = .ok (.iconst 1, 1) := by decide +kernel
theorem dX12_scan_115 : decode cX12_scan 115 = .ok (.iadd, 1) := by decide +kernel
theorem dX12_scan_116 : decode cX12_scan 116 = .ok (.putfield 24, 3) := by decide +kernel
theorem dX12_scan_119 : decode cX12_scan 119 = .ok (.goto (-24), 3) := by decide +kernel
theorem dX12_scan_122 : decode cX12_scan 122 = .ok (.aload_n 0, 1) := by decide +kernel
theorem dX12_scan_123 : decode cX12_scan 123 = .ok (.iconst 1, 1) := by decide +kernel
theorem dX12_scan_124 : decode cX12_scan 124 = .ok (.putfield 31, 3) := by decide +kernel
theorem dX12_scan_127 : decode cX12_scan 127 = .ok (.goto 130, 3) := by decide +kernel
theorem dX12_scan_130 : decode cX12_scan 130 = .ok (.iload_n 1, 1) := by decide +kernel
theorem dX12_scan_131 : decode cX12_scan 131 = .ok (.invokestatic 38, 3) := by decide +kernel
theorem dX12_scan_134 : decode cX12_scan 134 = .ok (.ifCond .eq 98, 3) := by decide +kernel
theorem dX12_scan_137 : decode cX12_scan 137 = .ok (.aload_n 0, 1) := by decide +kernel
theorem dX12_scan_138 : decode cX12_scan 138 = .ok (.iconst 0, 1) := by decide +kernel
theorem dX12_scan_139 : decode cX12_scan 139 = .ok (.putfield 41, 3) := by decide +kernel
theorem dX12_scan_142 : decode cX12_scan 142 = .ok (.aload_n 0, 1) := by decide +kernel
theorem dX12_scan_143 : decode cX12_scan 143 = .ok (.aload_n 0, 1) := by decide +kernel
theorem dX12_scan_144 : decode cX12_scan 144 = .ok (.getfield 24, 3) := by decide +kernel
theorem dX12_scan_147 : decode cX12_scan 147 = .ok (.invokevirtual 27, 3) := by decide +kernel
theorem dX12_scan_150 : decode cX12_scan 150 = .ok (.invokestatic 38, 3) := by decide +kernel
theorem dX12_scan_153 : decode cX12_scan 153 = .ok (.ifCond .eq 53, 3) := by decide +kernel
theorem dX12_scan_156 : decode cX12_scan 156 = .ok (.aload_n 0, 1) := by decide +kernel
theorem dX12_scan_157 : decode cX12_scan 157 = .ok (.getfield 24, 3) := by decide +kernel
theorem dX12_scan_160 : decode cX12_scan 160 = .ok (.aload_n 0, 1) := by decide +kernel
theorem dX12_scan_161 : decode cX12_scan 161 = .ok (.getfield 7, 3) := by decide +kernel
theorem dX12_scan_164 : decode cX12_scan 164 = .ok (.isub, 1) := by decide +kernel
theorem dX12_scan_165 : decode cX12_scan 165 = .ok (.bipush 6, 2) := by decide +kernel
theorem dX12_scan_167 : decode cX12_scan 167 = .ok (.if_icmp .ge 26, 3) := by decide +kernel
theorem dX12_scan_170 : decode cX12_scan 170 = .ok (.aload_n 0, 1) := by decide +kernel
theorem dX12_scan_171 : decode cX12_scan 171 = .ok (.bipush 10, 2) := by decide +kernel
theorem dX12_scan_173 : decode cX12_scan 173 = .ok (.aload_n 0, 1) := by decide +kernel
theorem dX12_scan_174 : decode cX12_scan 174 = .ok (.getfield 41, 3) := by decide +kernel
theorem dX12_scan_177 : decode cX12_scan 177 = .ok (.imul, 1) := by decide +kernel
theorem dX12_scan_178 : decode cX12_scan 178 = .ok (.aload_n 0, 1) := by decide +kernel
theorem dX12_scan_179 : decode cX12_scan 179 = .ok (.aload_n 0, 1) := by decide +kernel
theorem dX12_scan_180 : decode cX12_scan 180 = .ok (.getfield 24, 3) := by decide +kernel
theorem dX12_scan_183 : decode cX12_scan 183 = .ok (.invokevirtual 27, 3) := by decide +kernel
theorem dX12_scan_186 : decode cX12_scan 186 = .ok (.iadd, 1) := by decide +kernel
theorem dX12_scan_187 : decode cX12_scan 187 = .ok (.bipush 48, 2) := by decide +kernel
theorem dX12_scan_189 : decode cX12_scan 189 = .ok (.isub, 1) := by decide +kernel
theorem dX12_scan_190 : decode cX12_scan 190 = .ok (.putfield 41, 3) := by decide +kernel
theorem dX12_scan_193 : decode cX12_scan 193 = .ok (.aload_n 0, 1) := by decide +kernel
theorem dX12_scan_194 : decode cX12_scan 194 = .ok (.dup, 1) := by decide +kernel
theorem dX12_scan_195 : decode cX12_scan 195 = .ok (.getfield 24, 3) := by decide +kernel
theorem dX12_scan_198 : decode cX12_scan 198 = .ok (.iconst 1, 1) := by decide +kernel
theorem dX12_scan_199 : decode cX12_scan 199 = .ok (.iadd, 1) := by decide +kernel
theorem dX12_scan_200 : decode cX12_scan 200 = .ok (.putfield 24, 3) := by decide +kernel
theorem dX12_scan_203 : decode cX12_scan 203 = .ok (.goto (-61), 3) := by decide +kernel
theorem dX12_scan_206 : decode cX12_scan 206 = .ok (.aload_n 0, 1) := by decide +kernel
theorem dX12_scan_207 : decode cX12_scan 207 = .ok (.aload_n 0, 1) := by decide +kernel
theorem dX12_scan_208 : decode cX12_scan 208 = .ok (.getfield 24, 3) := by decide +kernel
theorem dX12_scan_211 : decode cX12_scan 211 = .ok (.aload_n 0, 1) := by decide +kernel
theorem dX12_scan_212 : decode cX12_scan 212 = .ok (.getfield 7, 3) := by decide +kernel
theorem dX12_scan_215 : decode cX12_scan 215 = .ok (.isub, 1) := by decide +kernel
theorem dX12_scan_216 : decode cX12_scan 216 = .ok (.bipush 6, 2) := by decide +kernel
theorem dX12_scan_218 : decode cX12_scan 218 = .ok (.if_icmp .le 7, 3) := by decide +kernel
theorem dX12_scan_221 : decode cX12_scan 221 = .ok (.iconst 4, 1) := by decide +kernel
theorem dX12_scan_222 : decode cX12_scan 222 = .ok (.goto 4, 3) := by decide +kernel
theorem dX12_scan_225 : decode cX12_scan 225 = .ok (.iconst 2, 1) := by decide +kernel
theorem dX12_scan_226 : decode cX12_scan 226 = .ok (.putfield 31, 3) := by decide +kernel
theorem dX12_scan_229 : decode cX12_scan 229 = .ok (.goto 28, 3) := by decide +kernel
theorem dX12_scan_232 : decode cX12_scan 232 = .ok (.aload_n 0, 1) := by decide +kernel
theorem dX12_scan_233 : decode cX12_scan 233 = .ok (.iload_n 1, 1) := by decide +kernel
theorem dX12_scan_234 : decode cX12_scan 234 = .ok (.bipush 59, 2) := by decide +kernel
theorem dX12_scan_236 : decode cX12_scan 236 = .ok (.if_icmp .ne 7, 3) := by decide +kernel
theorem dX12_scan_239 : decode cX12_scan 239 = .ok (.iconst 3, 1) := by decide +kernel
theorem dX12_scan_240 : decode cX12_scan 240 = .ok (.goto 4, 3) := by decide +kernel
theorem dX12_scan_243 : decode cX12_scan 243 = .ok (.iconst 4, 1) := by decide +kernel
theorem dX12_scan_244 : decode cX12_scan 244 = .ok (.putfield 31, 3) := by decide +kernel
theorem dX12_scan_247 : decode cX12_scan 247 = .ok (.aload_n 0, 1) := by decide +kernel
theorem dX12_scan_248 : decode cX12_scan 248 = .ok (.dup, 1) := by decide +kernel
theorem dX12_scan_249 : decode cX12_scan 249 = .ok (.getfield 24, 3) := by decide +kernel
theorem dX12_scan_252 : decode cX12_scan 252 = .ok (.iconst 1, 1) := by decide +kernel
theorem dX12_scan_253 : decode cX12_scan 253 = .ok (.iadd, 1) := by decide +kernel
theorem dX12_scan_254 : decode cX12_scan 254 = .ok (.putfield 24, 3) := by decide +kernel
theorem dX12_scan_257 : decode cX12_scan 257 = .ok (.return_, 1) := by decide +kernel
theorem dX12_is_0 : decode cX12_is 0 = .ok (.aload_n 0, 1) := by decide +kernel
theorem dX12_is_1 : decode cX12_is 1 = .ok (.getfield 31, 3) := by decide +kernel
theorem dX12_is_4 : decode cX12_is 4 = .ok (.iconst 1, 1) := by decide +kernel
theorem dX12_is_5 : decode cX12_is 5 = .ok (.if_icmp .ne 23, 3) := by decide +kernel
theorem dX12_is_8 : decode cX12_is 8 = .ok (.aload_n 0, 1) := by decide +kernel
theorem dX12_is_9 : decode cX12_is 9 = .ok (.getfield 24, 3) := by decide +kernel
theorem dX12_is_12 : decode cX12_is 12 = .ok (.aload_n 0, 1) := by decide +kernel
theorem dX12_is_13 : decode cX12_is 13 = .ok (.getfield 7, 3) := by decide +kernel
theorem dX12_is_16 : decode cX12_is 16 = .ok (.isub, 1) := by decide +kernel
theorem dX12_is_17 : decode cX12_is 17 = .ok (.aload_n 1, 1) := by decide +kernel
theorem dX12_is_18 : decode cX12_is 18 = .ok (.invokevirtual 44, 3) := by decide +kernel
theorem dX12_is_21 : decode cX12_is 21 = .ok (.if_icmp .ne 7, 3) := by decide +kernel
theorem dX12_is_24 : decode cX12_is 24 = .ok (.iconst 1, 1) := by decide +kernel
theorem dX12_is_25 : decode cX12_is 25 = .ok (.goto 4, 3) := by decide +kernel
theorem dX12_is_28 : decode cX12_is 28 = .ok (.iconst 0, 1) := by decide +kernel
theorem dX12_is_29 : decode cX12_is 29 = .ok (.istore_n 2, 1) := by decide +kernel
theorem dX12_is_30 : decode cX12_is 30 = .ok (.iconst 0, 1) := by decide +kernel
theorem dX12_is_31 : decode cX12_is 31 = .ok (.istore_n 3, 1) := by decide +kernel
theorem dX12_is_32 : decode cX12_is 32 = .ok (.iload_n 3, 1) := by decide +kernel
theorem dX12_is_33 : decode cX12_is 33 = .ok (.aload_n 1, 1) := by decide +kernel
theorem dX12_is_34 : decode cX12_is 34 = .ok (.invokevirtual 44, 3) := by decide +kernel
theorem dX12_is_37 : decode cX12_is 37 = .ok (.if_icmp .ge 38, 3) := by decide +kernel
theorem dX12_is_40 : decode cX12_is 40 = .ok (.iload_n 2, 1) := by decide +kernel
theorem dX12_is_41 : decode cX12_is 41 = .ok (.ifCond .eq 34, 3) := by decide +kernel
theorem dX12_is_44 : decode cX12_is 44 = .ok (.aload_n 0, 1) := by decide +kernel
theorem dX12_is_45 : decode cX12_is 45 = .ok (.getfield 20, 3) := by decide +kernel
theorem dX12_is_48 : decode cX12_is 48 = .ok (.aload_n 0, 1) := by decide +kernel
theorem dX12_is_49 : decode cX12_is 49 = .ok (.getfield 7, 3) := by decide +kernel
theorem dX12_is_52 : decode cX12_is 52 = .ok (.iload_n 3, 1) := by decide +kernel
theorem dX12_is_53 : decode cX12_is 53 = .ok (.iadd, 1) := by decide +kernel
theorem dX12_is_54 : decode cX12_is 54 = .ok (.baload, 1) := by decide +kernel
theorem dX12_is_55 : decode cX12_is 55 = .ok (.aload_n 1, 1) := by decide +kernel
theorem dX12_is_56 : decode cX12_is 56 = .ok (.iload_n 3, 1) := by decide +kernel
theorem dX12_is_57 : decode cX12_is 57 = .ok (.invokevirtual 50, 3) := by decide +kernel
theorem dX12_is_60 : decode cX12_is 60 = .ok (.if_icmp .ne 7, 3) := by decide +kernel
theorem dX12_is_63 : decode cX12_is 63 = .ok (.iconst 1, 1) := by decide +kernel
theorem dX12_is_64 : decode cX12_is 64 = .ok (.goto 4, 3) := by decide +kernel
theorem dX12_is_67 : decode cX12_is 67 = .ok (.iconst 0, 1) := by decide +kernel
theorem dX12_is_68 : decode cX12_is 68 = .ok (.istore_n 2, 1) := by decide +kernel
theorem dX12_is_69 : decode cX12_is 69 = .ok (.iinc 3 1, 3) := by decide +kernel
theorem dX12_is_72 : decode cX12_is 72 = .ok (.goto (-40), 3) := by decide +kernel
theorem dX12_is_75 : decode cX12_is 75 = .ok (.iload_n 2, 1) := by decide +kernel
theorem dX12_is_76 : decode cX12_is 76 = .ok (.ireturn, 1) := by decide +kernel
theorem dX12_number_0 : decode cX12_number 0 = .ok (.aload_n 0, 1) := by decide +kernel
theorem dX12_number_1 : decode cX12_number 1 = .ok (.getfield 31, 3) := by decide +kernel
theorem dX12_number_4 : decode cX12_number 4 = .ok (.iconst 2, 1) := by decide +kernel
theorem dX12_number_5 : decode cX12_number 5 = .ok (.if_icmp .eq 9, 3) := by decide +kernel
theorem dX12_number_8 : decode cX12_number 8 = .ok (.aload_n 0, 1) := by decide +kernel
theorem dX12_number_9 : decode cX12_number 9 = .ok (.iconst 1, 1) := by decide +kernel
theorem dX12_number_10 : decode cX12_number 10 = .ok (.invokevirtual 54, 3) := by decide +kernel
theorem dX12_number_13 : decode cX12_number 13 = .ok (.athrow, 1) := by decide +kernel
theorem dX12_number_14 : decode cX12_number 14 = .ok (.aload_n 0, 1) := by decide +kernel
theorem dX12_number_15 : decode cX12_number 15 = .ok (.getfield 41, 3) := by decide +kernel
theorem dX12_number_18 : decode cX12_number 18 = .ok (.i2l, 1) := by decide +kernel
theorem dX12_number_19 : decode cX12_number 19 = .ok (.iload_n 1, 1) := by decide +kernel
theorem dX12_number_20 : decode cX12_number 20 = .ok (.i2l, 1) := by decide +kernel
theorem dX12_number_21 : decode cX12_number 21 = .ok (.iload_n 2, 1) := by decide +kernel
theorem dX12_number_22 : decode cX12_number 22 = .ok (.i2l, 1) := by decide +kernel
theorem dX12_number_23 : decode cX12_number 23 = .ok (.invokestatic 58, 3) := by decide +kernel
theorem dX12_number_26 : decode cX12_number 26 = .ok (.ifCond .ne 9, 3) := by decide +kernel
theorem dX12_number_29 : decode cX12_number 29 = .ok (.aload_n 0, 1) := by decide +kernel
theorem dX12_number_30 : decode cX12_number 30 = .ok (.iconst 2, 1) := by decide +kernel
theorem dX12_number_31 : decode cX12_number 31 = .ok (.invokevirtual 54, 3) := by decide +kernel
theorem dX12_number_34 : decode cX12_number 34 = .ok (.athrow, 1) := by decide +kernel
theorem dX12_number_35 : decode cX12_number 35 = .ok (.aload_n 0, 1) := by decide +kernel
theorem dX12_number_36 : decode cX12_number 36 = .ok (.getfield 41, 3) := by decide +kernel
theorem dX12_number_39 : decode cX12_number 39 = .ok (.istore_n 3, 1) := by decide +kernel
theorem dX12_number_40 : decode cX12_number 40 = .ok (.aload_n 0, 1) := by decide +kernel
theorem dX12_number_41 : decode cX12_number 41 = .ok (.invokevirtual 62, 3) := by decide +kernel
theorem dX12_number_44 : decode cX12_number 44 = .ok (.iload_n 3, 1) := by decide +kernel
theorem dX12_number_45 : decode cX12_number 45 = .ok (.ireturn, 1) := by decide +kernel
theorem dX12_key_0 : decode cX12_key 0 = .ok (.aload_n 0, 1) := by decide +kernel
theorem dX12_key_1 : decode cX12_key 1 = .ok (.ldc 66, 2) := by decide +kernel
theorem dX12_key_3 : decode cX12_key 3 = .ok (.invokevirtual 68, 3) := by decide +kernel
theorem dX12_key_6 : decode cX12_key 6 = .ok (.ifCond .eq 5, 3) := by decide +kernel
theorem dX12_key_9 : decode cX12_key 9 = .ok (.iconst 0, 1) := by decide +kernel
theorem dX12_key_10 : decode cX12_key 10 = .ok (.ireturn, 1) := by decide +kernel
theorem dX12_key_11 : decode cX12_key 11 = .ok (.aload_n 0, 1) := by decide +kernel
theorem dX12_key_12 : decode cX12_key 12 = .ok (.ldc 72, 2) := by decide +kernel
theorem dX12_key_14 : decode cX12_key 14 = .ok (.invokevirtual 68, 3) := by decide +kernel
theorem dX12_key_17 : decode cX12_key 17 = .ok (.ifCond .eq 5, 3) := by decide +kernel
theorem dX12_key_20 : decode cX12_key 20 = .ok (.iconst 1, 1) := by decide +kernel
theorem dX12_key_21 : decode cX12_key 21 = .ok (.ireturn, 1) := by decide +kernel
theorem dX12_key_22 : decode cX12_key 22 = .ok (.aload_n 0, 1) := by decide +kernel
theorem dX12_key_23 : decode cX12_key 23 = .ok (.ldc 74, 2) := by decide +kernel
theorem dX12_key_25 : decode cX12_key 25 = .ok (.invokevirtual 68, 3) := by decide +kernel
theorem dX12_key_28 : decode cX12_key 28 = .ok (.ifCond .eq 5, 3) := by decide +kernel
theorem dX12_key_31 : decode cX12_key 31 = .ok (.iconst 2, 1) := by decide +kernel
theorem dX12_key_32 : decode cX12_key 32 = .ok (.ireturn, 1) := by decide +kernel
theorem dX12_key_33 : decode cX12_key 33 = .ok (.aload_n 0, 1) := by decide +kernel
theorem dX12_key_34 : decode cX12_key 34 = .ok (.ldc 76, 2) := by decide +kernel
theorem dX12_key_36 : decode cX12_key 36 = .ok (.invokevirtual 68, 3) := by decide +kernel
theorem dX12_key_39 : decode cX12_key 39 = .ok (.ifCond .eq 5, 3) := by decide +kernel
theorem dX12_key_42 : decode cX12_key 42 = .ok (.iconst 3, 1) := by decide +kernel
theorem dX12_key_43 : decode cX12_key 43 = .ok (.ireturn, 1) := by decide +kernel
theorem dX12_key_44 : decode cX12_key 44 = .ok (.aload_n 0, 1) := by decide +kernel
theorem dX12_key_45 : decode cX12_key 45 = .ok (.ldc 78, 2) := by decide +kernel
theorem dX12_key_47 : decode cX12_key 47 = .ok (.invokevirtual 68, 3) := by decide +kernel
theorem dX12_key_50 : decode cX12_key 50 = .ok (.ifCond .eq 5, 3) := by decide +kernel
theorem dX12_key_53 : decode cX12_key 53 = .ok (.iconst 4, 1) := by decide +kernel
theorem dX12_key_54 : decode cX12_key 54 = .ok (.ireturn, 1) := by decide +kernel
theorem dX12_key_55 : decode cX12_key 55 = .ok (.aload_n 0, 1) := by decide +kernel
theorem dX12_key_56 : decode cX12_key 56 = .ok (.ldc 80, 2) := by decide +kernel
theorem dX12_key_58 : decode cX12_key 58 = .ok (.invokevirtual 68, 3) := by decide +kernel
theorem dX12_key_61 : decode cX12_key 61 = .ok (.ifCond .eq 7, 3) := by decide +kernel
theorem dX12_key_64 : decode cX12_key 64 = .ok (.iconst 5, 1) := by decide +kernel
theorem dX12_key_65 : decode cX12_key 65 = .ok (.goto 4, 3) := by decide +kernel
theorem dX12_key_68 : decode cX12_key 68 = .ok (.iconst (-1), 1) := by decide +kernel
theorem dX12_key_69 : decode cX12_key 69 = .ok (.ireturn, 1) := by decide +kernel
theorem dX12_readTrust_0 : decode cX12_readTrust 0 = .ok (.iconst 0, 1) := by decide +kernel
theorem dX12_readTrust_1 : decode cX12_readTrust 1 = .ok (.istore_n 1, 1) := by decide +kernel
theorem dX12_readTrust_2 : decode cX12_readTrust 2 = .ok (.iload_n 1, 1) := by decide +kernel
theorem dX12_readTrust_3 : decode cX12_readTrust 3 = .ok (.bipush 9, 2) := by decide +kernel
theorem dX12_readTrust_5 : decode cX12_readTrust 5 = .ok (.if_icmp .ge 20, 3) := by decide +kernel
theorem dX12_readTrust_8 : decode cX12_readTrust 8 = .ok (.aload_n 0, 1) := by decide +kernel
theorem dX12_readTrust_9 : decode cX12_readTrust 9 = .ok (.getfield 82, 3) := by decide +kernel
theorem dX12_readTrust_12 : decode cX12_readTrust 12 = .ok (.iload_n 1, 1) := by decide +kernel
theorem dX12_readTrust_13 : decode cX12_readTrust 13 = .ok (.getstatic 86, 3) := by decide +kernel
theorem dX12_readTrust_16 : decode cX12_readTrust 16 = .ok (.iload_n 1, 1) := by decide +kernel
theorem dX12_readTrust_17 : decode cX12_readTrust 17 = .ok (.iaload, 1) := by decide +kernel
theorem dX12_readTrust_18 : decode cX12_readTrust 18 = .ok (.iastore, 1) := by decide +kernel
theorem dX12_readTrust_19 : decode cX12_readTrust 19 = .ok (.iinc 1 1, 3) := by decide +kernel
theorem dX12_readTrust_22 : decode cX12_readTrust 22 = .ok (.goto (-20), 3) := by decide +kernel
theorem dX12_readTrust_25 : decode cX12_readTrust 25 = .ok (.iconst 0, 1) := by decide +kernel
theorem dX12_readTrust_26 : decode cX12_readTrust 26 = .ok (.istore_n 1, 1) := by decide +kernel
theorem dX12_readTrust_27 : decode cX12_readTrust 27 = .ok (.iload_n 1, 1) := by decide +kernel
theorem dX12_readTrust_28 : decode cX12_readTrust 28 = .ok (.aload_n 0, 1) := by decide +kernel
theorem dX12_readTrust_29 : decode cX12_readTrust 29 = .ok (.getfield 89, 3) := by decide +kernel
theorem dX12_readTrust_32 : decode cX12_readTrust 32 = .ok (.arraylength, 1) := by decide +kernel
theorem dX12_readTrust_33 : decode cX12_readTrust 33 = .ok (.if_icmp .ge 16, 3) := by decide +kernel
theorem dX12_readTrust_36 : decode cX12_readTrust 36 = .ok (.aload_n 0, 1) := by decide +kernel
theorem dX12_readTrust_37 : decode cX12_readTrust 37 = .ok (.getfield 89, 3) := by decide +kernel
theorem dX12_readTrust_40 : decode cX12_readTrust 40 = .ok (.iload_n 1, 1) := by decide +kernel
theorem dX12_readTrust_41 : decode cX12_readTrust 41 = .ok (.iconst 0, 1) := by decide +kernel
theorem dX12_readTrust_42 : decode cX12_readTrust 42 = .ok (.bastore, 1) := by decide +kernel
theorem dX12_readTrust_43 : decode cX12_readTrust 43 = .ok (.iinc 1 1, 3) := by decide +kernel
theorem dX12_readTrust_46 : decode cX12_readTrust 46 = .ok (.goto (-19), 3) := by decide +kernel
theorem dX12_readTrust_49 : decode cX12_readTrust 49 = .ok (.iconst 0, 1) := by decide +kernel
theorem dX12_readTrust_50 : decode cX12_readTrust 50 = .ok (.istore_n 1, 1) := by decide +kernel
theorem dX12_readTrust_51 : decode cX12_readTrust 51 = .ok (.aload_n 0, 1) := by decide +kernel
theorem dX12_readTrust_52 : decode cX12_readTrust 52 = .ok (.getfield 31, 3) := by decide +kernel
theorem dX12_readTrust_55 : decode cX12_readTrust 55 = .ok (.ifCond .eq 74, 3) := by decide +kernel
theorem dX12_readTrust_58 : decode cX12_readTrust 58 = .ok (.aload_n 0, 1) := by decide +kernel
theorem dX12_readTrust_59 : decode cX12_readTrust 59 = .ok (.invokevirtual 93, 3) := by decide +kernel
theorem dX12_readTrust_62 : decode cX12_readTrust 62 = .ok (.istore_n 2, 1) := by decide +kernel
theorem dX12_readTrust_63 : decode cX12_readTrust 63 = .ok (.iload_n 2, 1) := by decide +kernel
theorem dX12_readTrust_64 : decode cX12_readTrust 64 = .ok (.iconst (-1), 1) := by decide +kernel
theorem dX12_readTrust_65 : decode cX12_readTrust 65 = .ok (.if_icmp .ne 9, 3) := by decide +kernel
theorem dX12_readTrust_68 : decode cX12_readTrust 68 = .ok (.aload_n 0, 1) := by decide +kernel
theorem dX12_readTrust_69 : decode cX12_readTrust 69 = .ok (.iconst 1, 1) := by decide +kernel
theorem dX12_readTrust_70 : decode cX12_readTrust 70 = .ok (.invokevirtual 54, 3) := by decide +kernel
theorem dX12_readTrust_73 : decode cX12_readTrust 73 = .ok (.athrow, 1) := by decide +kernel
theorem dX12_readTrust_74 : decode cX12_readTrust 74 = .ok (.aload_n 0, 1) := by decide +kernel
theorem dX12_readTrust_75 : decode cX12_readTrust 75 = .ok (.getfield 89, 3) := by decide +kernel
theorem dX12_readTrust_78 : decode cX12_readTrust 78 = .ok (.iload_n 2, 1) := by decide +kernel
theorem dX12_readTrust_79 : decode cX12_readTrust 79 = .ok (.baload, 1) := by decide +kernel
theorem dX12_readTrust_80 : decode cX12_readTrust 80 = .ok (.ifCond .eq 9, 3) := by decide +kernel
theorem dX12_readTrust_83 : decode cX12_readTrust 83 = .ok (.aload_n 0, 1) := by decide +kernel
theorem dX12_readTrust_84 : decode cX12_readTrust 84 = .ok (.iconst 3, 1) := by decide +kernel
theorem dX12_readTrust_85 : decode cX12_readTrust 85 = .ok (.invokevirtual 54, 3) := by decide +kernel
theorem dX12_readTrust_88 : decode cX12_readTrust 88 = .ok (.athrow, 1) := by decide +kernel
theorem dX12_readTrust_89 : decode cX12_readTrust 89 = .ok (.aload_n 0, 1) := by decide +kernel
theorem dX12_readTrust_90 : decode cX12_readTrust 90 = .ok (.getfield 89, 3) := by decide +kernel
theorem dX12_readTrust_93 : decode cX12_readTrust 93 = .ok (.iload_n 2, 1) := by decide +kernel
theorem dX12_readTrust_94 : decode cX12_readTrust 94 = .ok (.iconst 1, 1) := by decide +kernel
theorem dX12_readTrust_95 : decode cX12_readTrust 95 = .ok (.bastore, 1) := by decide +kernel
theorem dX12_readTrust_96 : decode cX12_readTrust 96 = .ok (.aload_n 0, 1) := by decide +kernel
theorem dX12_readTrust_97 : decode cX12_readTrust 97 = .ok (.invokevirtual 62, 3) := by decide +kernel
theorem dX12_readTrust_100 : decode cX12_readTrust 100 = .ok (.aload_n 0, 1) := by decide +kernel
theorem dX12_readTrust_101 : decode cX12_readTrust 101 = .ok (.iload_n 2, 1) := by decide +kernel
theorem dX12_readTrust_102 : decode cX12_readTrust 102 = .ok (.invokevirtual 96, 3) := by decide +kernel
theorem dX12_readTrust_105 : decode cX12_readTrust 105 = .ok (.aload_n 0, 1) := by decide +kernel
theorem dX12_readTrust_106 : decode cX12_readTrust 106 = .ok (.getfield 31, 3) := by decide +kernel
theorem dX12_readTrust_109 : decode cX12_readTrust 109 = .ok (.iconst 3, 1) := by decide +kernel
theorem dX12_readTrust_110 : decode cX12_readTrust 110 = .ok (.if_icmp .eq 9, 3) := by decide +kernel
theorem dX12_readTrust_113 : decode cX12_readTrust 113 = .ok (.aload_n 0, 1) := by decide +kernel
theorem dX12_readTrust_114 : decode cX12_readTrust 114 = .ok (.iconst 1, 1) := by decide +kernel
theorem dX12_readTrust_115 : decode cX12_readTrust 115 = .ok (.invokevirtual 54, 3) := by decide +kernel
theorem dX12_readTrust_118 : decode cX12_readTrust 118 = .ok (.athrow, 1) := by decide +kernel
theorem dX12_readTrust_119 : decode cX12_readTrust 119 = .ok (.aload_n 0, 1) := by decide +kernel
theorem dX12_readTrust_120 : decode cX12_readTrust 120 = .ok (.invokevirtual 62, 3) := by decide +kernel
theorem dX12_readTrust_123 : decode cX12_readTrust 123 = .ok (.iinc 1 1, 3) := by decide +kernel
theorem dX12_readTrust_126 : decode cX12_readTrust 126 = .ok (.goto (-75), 3) := by decide +kernel
theorem dX12_readTrust_129 : decode cX12_readTrust 129 = .ok (.iload_n 1, 1) := by decide +kernel
theorem dX12_readTrust_130 : decode cX12_readTrust 130 = .ok (.ireturn, 1) := by decide +kernel
theorem dX12_readLine_0 : decode cX12_readLine 0 = .ok (.iload_n 1, 1) := by decide +kernel
theorem dX12_readLine_1 : decode cX12_readLine 1 = .ok (.tableswitch 156 0 4 #[35, 77, 93, 109, 139], 35) := by decide +kernel
theorem dX12_readLine_36 : decode cX12_readLine 36 = .ok (.aload_n 0, 1) := by decide +kernel
theorem dX12_readLine_37 : decode cX12_readLine 37 = .ok (.getfield 82, 3) := by decide +kernel
theorem dX12_readLine_40 : decode cX12_readLine 40 = .ok (.iconst 0, 1) := by decide +kernel
theorem dX12_readLine_41 : decode cX12_readLine 41 = .ok (.aload_n 0, 1) := by decide +kernel
theorem dX12_readLine_42 : decode cX12_readLine 42 = .ok (.iconst 0, 1) := by decide +kernel
theorem dX12_readLine_43 : decode cX12_readLine 43 = .ok (.bipush 100, 2) := by decide +kernel
theorem dX12_readLine_45 : decode cX12_readLine 45 = .ok (.invokevirtual 100, 3) := by decide +kernel
theorem dX12_readLine_48 : decode cX12_readLine 48 = .ok (.iastore, 1) := by decide +kernel
theorem dX12_readLine_49 : decode cX12_readLine 49 = .ok (.aload_n 0, 1) := by decide +kernel
theorem dX12_readLine_50 : decode cX12_readLine 50 = .ok (.getfield 82, 3) := by decide +kernel
theorem dX12_readLine_53 : decode cX12_readLine 53 = .ok (.iconst 1, 1) := by decide +kernel
theorem dX12_readLine_54 : decode cX12_readLine 54 = .ok (.aload_n 0, 1) := by decide +kernel
theorem dX12_readLine_55 : decode cX12_readLine 55 = .ok (.iconst 0, 1) := by decide +kernel
theorem dX12_readLine_56 : decode cX12_readLine 56 = .ok (.ldc 104, 2) := by decide +kernel
theorem dX12_readLine_58 : decode cX12_readLine 58 = .ok (.invokevirtual 100, 3) := by decide +kernel
theorem dX12_readLine_61 : decode cX12_readLine 61 = .ok (.iastore, 1) := by decide +kernel
theorem dX12_readLine_62 : decode cX12_readLine 62 = .ok (.aload_n 0, 1) := by decide +kernel
theorem dX12_readLine_63 : decode cX12_readLine 63 = .ok (.getfield 82, 3) := by decide +kernel
theorem dX12_readLine_66 : decode cX12_readLine 66 = .ok (.iconst 2, 1) := by decide +kernel
theorem dX12_readLine_67 : decode cX12_readLine 67 = .ok (.aload_n 0, 1) := by decide +kernel
theorem dX12_readLine_68 : decode cX12_readLine 68 = .ok (.iconst 0, 1) := by decide +kernel
theorem dX12_readLine_69 : decode cX12_readLine 69 = .ok (.bipush 119, 2) := by decide +kernel
theorem dX12_readLine_71 : decode cX12_readLine 71 = .ok (.invokevirtual 100, 3) := by decide +kernel
theorem dX12_readLine_74 : decode cX12_readLine 74 = .ok (.iastore, 1) := by decide +kernel
theorem dX12_readLine_75 : decode cX12_readLine 75 = .ok (.goto 131, 3) := by decide +kernel
theorem dX12_readLine_78 : decode cX12_readLine 78 = .ok (.aload_n 0, 1) := by decide +kernel
theorem dX12_readLine_79 : decode cX12_readLine 79 = .ok (.getfield 82, 3) := by decide +kernel
theorem dX12_readLine_82 : decode cX12_readLine 82 = .ok (.iconst 3, 1) := by decide +kernel
theorem dX12_readLine_83 : decode cX12_readLine 83 = .ok (.aload_n 0, 1) := by decide +kernel
theorem dX12_readLine_84 : decode cX12_readLine 84 = .ok (.iconst 0, 1) := by decide +kernel
theorem dX12_readLine_85 : decode cX12_readLine 85 = .ok (.bipush 50, 2) := by decide +kernel
theorem dX12_readLine_87 : decode cX12_readLine 87 = .ok (.invokevirtual 100, 3) := by decide +kernel
theorem dX12_readLine_90 : decode cX12_readLine 90 = .ok (.iastore, 1) := by decide +kernel
theorem dX12_readLine_91 : decode cX12_readLine 91 = .ok (.goto 115, 3) := by decide +kernel
theorem dX12_readLine_94 : decode cX12_readLine 94 = .ok (.aload_n 0, 1) := by decide +kernel
theorem dX12_readLine_95 : decode cX12_readLine 95 = .ok (.getfield 82, 3) := by decide +kernel
theorem dX12_readLine_98 : decode cX12_readLine 98 = .ok (.iconst 4, 1) := by decide +kernel
theorem dX12_readLine_99 : decode cX12_readLine 99 = .ok (.aload_n 0, 1) := by decide +kernel
theorem dX12_readLine_100 : decode cX12_readLine 100 = .ok (.iconst 1, 1) := by decide +kernel
theorem dX12_readLine_101 : decode cX12_readLine 101 = .ok (.bipush 12, 2) := by decide +kernel
theorem dX12_readLine_103 : decode cX12_readLine 103 = .ok (.invokevirtual 100, 3) := by decide +kernel
theorem dX12_readLine_106 : decode cX12_readLine 106 = .ok (.iastore, 1) := by decide +kernel
theorem dX12_readLine_107 : decode cX12_readLine 107 = .ok (.goto 99, 3) := by decide +kernel
theorem dX12_readLine_110 : decode cX12_readLine 110 = .ok (.aload_n 0, 1) := by decide +kernel
theorem dX12_readLine_111 : decode cX12_readLine 111 = .ok (.getfield 82, 3) := by decide +kernel
theorem dX12_readLine_114 : decode cX12_readLine 114 = .ok (.iconst 5, 1) := by decide +kernel
theorem dX12_readLine_115 : decode cX12_readLine 115 = .ok (.aload_n 0, 1) := by decide +kernel
theorem dX12_readLine_116 : decode cX12_readLine 116 = .ok (.iconst 0, 1) := by decide +kernel
theorem dX12_readLine_117 : decode cX12_readLine 117 = .ok (.ldc 104, 2) := by decide +kernel
theorem dX12_readLine_119 : decode cX12_readLine 119 = .ok (.invokevirtual 100, 3) := by decide +kernel
theorem dX12_readLine_122 : decode cX12_readLine 122 = .ok (.iastore, 1) := by decide +kernel
theorem dX12_readLine_123 : decode cX12_readLine 123 = .ok (.aload_n 0, 1) := by decide +kernel
theorem dX12_readLine_124 : decode cX12_readLine 124 = .ok (.getfield 82, 3) := by decide +kernel
theorem dX12_readLine_127 : decode cX12_readLine 127 = .ok (.bipush 6, 2) := by decide +kernel
theorem dX12_readLine_129 : decode cX12_readLine 129 = .ok (.aload_n 0, 1) := by decide +kernel
theorem dX12_readLine_130 : decode cX12_readLine 130 = .ok (.iconst 0, 1) := by decide +kernel
theorem dX12_readLine_131 : decode cX12_readLine 131 = .ok (.bipush 10, 2) := by decide +kernel
theorem dX12_readLine_133 : decode cX12_readLine 133 = .ok (.invokevirtual 100, 3) := by decide +kernel
theorem dX12_readLine_136 : decode cX12_readLine 136 = .ok (.iastore, 1) := by decide +kernel
theorem dX12_readLine_137 : decode cX12_readLine 137 = .ok (.goto 69, 3) := by decide +kernel
theorem dX12_readLine_140 : decode cX12_readLine 140 = .ok (.aload_n 0, 1) := by decide +kernel
theorem dX12_readLine_141 : decode cX12_readLine 141 = .ok (.getfield 82, 3) := by decide +kernel
theorem dX12_readLine_144 : decode cX12_readLine 144 = .ok (.bipush 7, 2) := by decide +kernel
theorem dX12_readLine_146 : decode cX12_readLine 146 = .ok (.aload_n 0, 1) := by decide +kernel
theorem dX12_readLine_147 : decode cX12_readLine 147 = .ok (.iconst 1, 1) := by decide +kernel
theorem dX12_readLine_148 : decode cX12_readLine 148 = .ok (.ldc 104, 2) := by decide +kernel
theorem dX12_readLine_150 : decode cX12_readLine 150 = .ok (.invokevirtual 100, 3) := by decide +kernel
theorem dX12_readLine_153 : decode cX12_readLine 153 = .ok (.iastore, 1) := by decide +kernel
theorem dX12_readLine_154 : decode cX12_readLine 154 = .ok (.goto 52, 3) := by decide +kernel
theorem dX12_readLine_157 : decode cX12_readLine 157 = .ok (.aload_n 0, 1) := by decide +kernel
theorem dX12_readLine_158 : decode cX12_readLine 158 = .ok (.ldc 105, 2) := by decide +kernel
theorem dX12_readLine_160 : decode cX12_readLine 160 = .ok (.invokevirtual 68, 3) := by decide +kernel
theorem dX12_readLine_163 : decode cX12_readLine 163 = .ok (.ifCond .ne 18, 3) := by decide +kernel
theorem dX12_readLine_166 : decode cX12_readLine 166 = .ok (.aload_n 0, 1) := by decide +kernel
theorem dX12_readLine_167 : decode cX12_readLine 167 = .ok (.ldc 107, 2) := by decide +kernel
theorem dX12_readLine_169 : decode cX12_readLine 169 = .ok (.invokevirtual 68, 3) := by decide +kernel
theorem dX12_readLine_172 : decode cX12_readLine 172 = .ok (.ifCond .ne 9, 3) := by decide +kernel
theorem dX12_readLine_175 : decode cX12_readLine 175 = .ok (.aload_n 0, 1) := by decide +kernel
theorem dX12_readLine_176 : decode cX12_readLine 176 = .ok (.iconst 1, 1) := by decide +kernel
theorem dX12_readLine_177 : decode cX12_readLine 177 = .ok (.invokevirtual 54, 3) := by decide +kernel
theorem dX12_readLine_180 : decode cX12_readLine 180 = .ok (.athrow, 1) := by decide +kernel
theorem dX12_readLine_181 : decode cX12_readLine 181 = .ok (.aload_n 0, 1) := by decide +kernel
theorem dX12_readLine_182 : decode cX12_readLine 182 = .ok (.getfield 82, 3) := by decide +kernel
theorem dX12_readLine_185 : decode cX12_readLine 185 = .ok (.bipush 8, 2) := by decide +kernel
theorem dX12_readLine_187 : decode cX12_readLine 187 = .ok (.aload_n 0, 1) := by decide +kernel
theorem dX12_readLine_188 : decode cX12_readLine 188 = .ok (.ldc 105, 2) := by decide +kernel
theorem dX12_readLine_190 : decode cX12_readLine 190 = .ok (.invokevirtual 68, 3) := by decide +kernel
theorem dX12_readLine_193 : decode cX12_readLine 193 = .ok (.ifCond .eq 7, 3) := by decide +kernel
theorem dX12_readLine_196 : decode cX12_readLine 196 = .ok (.iconst 1, 1) := by decide +kernel
theorem dX12_readLine_197 : decode cX12_readLine 197 = .ok (.goto 4, 3) := by decide +kernel
theorem dX12_readLine_200 : decode cX12_readLine 200 = .ok (.iconst 0, 1) := by decide +kernel
theorem dX12_readLine_201 : decode cX12_readLine 201 = .ok (.iastore, 1) := by decide +kernel
theorem dX12_readLine_202 : decode cX12_readLine 202 = .ok (.aload_n 0, 1) := by decide +kernel
theorem dX12_readLine_203 : decode cX12_readLine 203 = .ok (.invokevirtual 62, 3) := by decide +kernel
theorem dX12_readLine_206 : decode cX12_readLine 206 = .ok (.return_, 1) := by decide +kernel
theorem dX12_init_0 : decode cX12_init 0 = .ok (.aload_n 0, 1) := by decide +kernel
theorem dX12_init_1 : decode cX12_init 1 = .ok (.invokespecial 109, 3) := by decide +kernel
theorem dX12_init_4 : decode cX12_init 4 = .ok (.aload_n 0, 1) := by decide +kernel
theorem dX12_init_5 : decode cX12_init 5 = .ok (.bipush 9, 2) := by decide +kernel
theorem dX12_init_7 : decode cX12_init 7 = .ok (.newarray .int, 2) := by decide +kernel
theorem dX12_init_9 : decode cX12_init 9 = .ok (.putfield 114, 3) := by decide +kernel
theorem dX12_init_12 : decode cX12_init 12 = .ok (.aload_n 0, 1) := by decide +kernel
theorem dX12_init_13 : decode cX12_init 13 = .ok (.bipush 9, 2) := by decide +kernel
theorem dX12_init_15 : decode cX12_init 15 = .ok (.newarray .int, 2) := by decide +kernel
theorem dX12_init_17 : decode cX12_init 17 = .ok (.putfield 82, 3) := by decide +kernel
theorem dX12_init_20 : decode cX12_init 20 = .ok (.aload_n 0, 1) := by decide +kernel
theorem dX12_init_21 : decode cX12_init 21 = .ok (.new 117, 3) := by decide +kernel
theorem dX12_init_24 : decode cX12_init 24 = .ok (.dup, 1) := by decide +kernel
theorem dX12_init_25 : decode cX12_init 25 = .ok (.invokespecial 119, 3) := by decide +kernel
theorem dX12_init_28 : decode cX12_init 28 = .ok (.putfield 13, 3) := by decide +kernel
theorem dX12_init_31 : decode cX12_init 31 = .ok (.aload_n 0, 1) := by decide +kernel
theorem dX12_init_32 : decode cX12_init 32 = .ok (.sipush 400, 3) := by decide +kernel
theorem dX12_init_35 : decode cX12_init 35 = .ok (.newarray .byte, 2) := by decide +kernel
theorem dX12_init_37 : decode cX12_init 37 = .ok (.putfield 20, 3) := by decide +kernel
theorem dX12_init_40 : decode cX12_init 40 = .ok (.aload_n 0, 1) := by decide +kernel
theorem dX12_init_41 : decode cX12_init 41 = .ok (.iconst (-1), 1) := by decide +kernel
theorem dX12_init_42 : decode cX12_init 42 = .ok (.putfield 10, 3) := by decide +kernel
theorem dX12_init_45 : decode cX12_init 45 = .ok (.aload_n 0, 1) := by decide +kernel
theorem dX12_init_46 : decode cX12_init 46 = .ok (.bipush 6, 2) := by decide +kernel
theorem dX12_init_48 : decode cX12_init 48 = .ok (.newarray .boolean, 2) := by decide +kernel
theorem dX12_init_50 : decode cX12_init 50 = .ok (.putfield 89, 3) := by decide +kernel
theorem dX12_init_53 : decode cX12_init 53 = .ok (.aload_n 0, 1) := by decide +kernel
theorem dX12_init_54 : decode cX12_init 54 = .ok (.bipush 30, 2) := by decide +kernel
theorem dX12_init_56 : decode cX12_init 56 = .ok (.newarray .int, 2) := by decide +kernel
theorem dX12_init_58 : decode cX12_init 58 = .ok (.putfield 120, 3) := by decide +kernel
theorem dX12_init_61 : decode cX12_init 61 = .ok (.aload_n 0, 1) := by decide +kernel
theorem dX12_init_62 : decode cX12_init 62 = .ok (.bipush 30, 2) := by decide +kernel
theorem dX12_init_64 : decode cX12_init 64 = .ok (.newarray .int, 2) := by decide +kernel
theorem dX12_init_66 : decode cX12_init 66 = .ok (.putfield 123, 3) := by decide +kernel
theorem dX12_init_69 : decode cX12_init 69 = .ok (.aload_n 0, 1) := by decide +kernel
theorem dX12_init_70 : decode cX12_init 70 = .ok (.bipush 30, 2) := by decide +kernel
theorem dX12_init_72 : decode cX12_init 72 = .ok (.newarray .int, 2) := by decide +kernel
theorem dX12_init_74 : decode cX12_init 74 = .ok (.putfield 126, 3) := by decide +kernel
theorem dX12_init_77 : decode cX12_init 77 = .ok (.aload_n 0, 1) := by decide +kernel
theorem dX12_init_78 : decode cX12_init 78 = .ok (.bipush 30, 2) := by decide +kernel
theorem dX12_init_80 : decode cX12_init 80 = .ok (.newarray .int, 2) := by decide +kernel
theorem dX12_init_82 : decode cX12_init 82 = .ok (.putfield 129, 3) := by decide +kernel
theorem dX12_init_85 : decode cX12_init 85 = .ok (.aload_n 0, 1) := by decide +kernel
theorem dX12_init_86 : decode cX12_init 86 = .ok (.bipush 30, 2) := by decide +kernel
theorem dX12_init_88 : decode cX12_init 88 = .ok (.newarray .boolean, 2) := by decide +kernel
theorem dX12_init_90 : decode cX12_init 90 = .ok (.putfield 132, 3) := by decide +kernel
theorem dX12_init_93 : decode cX12_init 93 = .ok (.aload_n 0, 1) := by decide +kernel
theorem dX12_init_94 : decode cX12_init 94 = .ok (.bipush 60, 2) := by decide +kernel
theorem dX12_init_96 : decode cX12_init 96 = .ok (.newarray .int, 2) := by decide +kernel
theorem dX12_init_98 : decode cX12_init 98 = .ok (.putfield 135, 3) := by decide +kernel
theorem dX12_init_101 : decode cX12_init 101 = .ok (.aload_n 0, 1) := by decide +kernel
theorem dX12_init_102 : decode cX12_init 102 = .ok (.bipush 60, 2) := by decide +kernel
theorem dX12_init_104 : decode cX12_init 104 = .ok (.newarray .int, 2) := by decide +kernel
theorem dX12_init_106 : decode cX12_init 106 = .ok (.putfield 138, 3) := by decide +kernel
theorem dX12_init_109 : decode cX12_init 109 = .ok (.aload_n 0, 1) := by decide +kernel
theorem dX12_init_110 : decode cX12_init 110 = .ok (.bipush 60, 2) := by decide +kernel
theorem dX12_init_112 : decode cX12_init 112 = .ok (.newarray .int, 2) := by decide +kernel
theorem dX12_init_114 : decode cX12_init 114 = .ok (.putfield 141, 3) := by decide +kernel
theorem dX12_init_117 : decode cX12_init 117 = .ok (.aload_n 0, 1) := by decide +kernel
theorem dX12_init_118 : decode cX12_init 118 = .ok (.bipush 60, 2) := by decide +kernel
theorem dX12_init_120 : decode cX12_init 120 = .ok (.newarray .int, 2) := by decide +kernel
theorem dX12_init_122 : decode cX12_init 122 = .ok (.putfield 144, 3) := by decide +kernel
theorem dX12_init_125 : decode cX12_init 125 = .ok (.aload_n 0, 1) := by decide +kernel
theorem dX12_init_126 : decode cX12_init 126 = .ok (.bipush 60, 2) := by decide +kernel
theorem dX12_init_128 : decode cX12_init 128 = .ok (.newarray .int, 2) := by decide +kernel
theorem dX12_init_130 : decode cX12_init 130 = .ok (.putfield 147, 3) := by decide +kernel
theorem dX12_init_133 : decode cX12_init 133 = .ok (.aload_n 0, 1) := by decide +kernel
theorem dX12_init_134 : decode cX12_init 134 = .ok (.bipush 60, 2) := by decide +kernel
theorem dX12_init_136 : decode cX12_init 136 = .ok (.newarray .int, 2) := by decide +kernel
theorem dX12_init_138 : decode cX12_init 138 = .ok (.putfield 150, 3) := by decide +kernel
theorem dX12_init_141 : decode cX12_init 141 = .ok (.aload_n 0, 1) := by decide +kernel
theorem dX12_init_142 : decode cX12_init 142 = .ok (.bipush 60, 2) := by decide +kernel
theorem dX12_init_144 : decode cX12_init 144 = .ok (.newarray .boolean, 2) := by decide +kernel
theorem dX12_init_146 : decode cX12_init 146 = .ok (.putfield 153, 3) := by decide +kernel
theorem dX12_init_149 : decode cX12_init 149 = .ok (.aload_n 0, 1) := by decide +kernel
theorem dX12_init_150 : decode cX12_init 150 = .ok (.bipush 60, 2) := by decide +kernel
theorem dX12_init_152 : decode cX12_init 152 = .ok (.newarray .boolean, 2) := by decide +kernel
theorem dX12_init_154 : decode cX12_init 154 = .ok (.putfield 156, 3) := by decide +kernel
theorem dX12_init_157 : decode cX12_init 157 = .ok (.aload_n 0, 1) := by decide +kernel
theorem dX12_init_158 : decode cX12_init 158 = .ok (.sipush 5040, 3) := by decide +kernel
theorem dX12_init_161 : decode cX12_init 161 = .ok (.newarray .int, 2) := by decide +kernel
theorem dX12_init_163 : decode cX12_init 163 = .ok (.putfield 159, 3) := by decide +kernel
theorem dX12_init_166 : decode cX12_init 166 = .ok (.aload_n 0, 1) := by decide +kernel
theorem dX12_init_167 : decode cX12_init 167 = .ok (.sipush 5040, 3) := by decide +kernel
theorem dX12_init_170 : decode cX12_init 170 = .ok (.newarray .int, 2) := by decide +kernel
theorem dX12_init_172 : decode cX12_init 172 = .ok (.putfield 162, 3) := by decide +kernel
theorem dX12_init_175 : decode cX12_init 175 = .ok (.aload_n 0, 1) := by decide +kernel
theorem dX12_init_176 : decode cX12_init 176 = .ok (.sipush 5040, 3) := by decide +kernel
theorem dX12_init_179 : decode cX12_init 179 = .ok (.newarray .boolean, 2) := by decide +kernel
theorem dX12_init_181 : decode cX12_init 181 = .ok (.putfield 165, 3) := by decide +kernel
theorem dX12_init_184 : decode cX12_init 184 = .ok (.aload_n 0, 1) := by decide +kernel
theorem dX12_init_185 : decode cX12_init 185 = .ok (.sipush 5040, 3) := by decide +kernel
theorem dX12_init_188 : decode cX12_init 188 = .ok (.newarray .boolean, 2) := by decide +kernel
theorem dX12_init_190 : decode cX12_init 190 = .ok (.putfield 168, 3) := by decide +kernel
theorem dX12_init_193 : decode cX12_init 193 = .ok (.aload_n 0, 1) := by decide +kernel
theorem dX12_init_194 : decode cX12_init 194 = .ok (.sipush 250, 3) := by decide +kernel
theorem dX12_init_197 : decode cX12_init 197 = .ok (.newarray .int, 2) := by decide +kernel
theorem dX12_init_199 : decode cX12_init 199 = .ok (.putfield 171, 3) := by decide +kernel
theorem dX12_init_202 : decode cX12_init 202 = .ok (.aload_n 0, 1) := by decide +kernel
theorem dX12_init_203 : decode cX12_init 203 = .ok (.sipush 250, 3) := by decide +kernel
theorem dX12_init_206 : decode cX12_init 206 = .ok (.newarray .int, 2) := by decide +kernel
theorem dX12_init_208 : decode cX12_init 208 = .ok (.putfield 174, 3) := by decide +kernel
theorem dX12_init_211 : decode cX12_init 211 = .ok (.aload_n 0, 1) := by decide +kernel
theorem dX12_init_212 : decode cX12_init 212 = .ok (.sipush 250, 3) := by decide +kernel
theorem dX12_init_215 : decode cX12_init 215 = .ok (.newarray .int, 2) := by decide +kernel
theorem dX12_init_217 : decode cX12_init 217 = .ok (.putfield 177, 3) := by decide +kernel
theorem dX12_init_220 : decode cX12_init 220 = .ok (.aload_n 0, 1) := by decide +kernel
theorem dX12_init_221 : decode cX12_init 221 = .ok (.sipush 250, 3) := by decide +kernel
theorem dX12_init_224 : decode cX12_init 224 = .ok (.newarray .boolean, 2) := by decide +kernel
theorem dX12_init_226 : decode cX12_init 226 = .ok (.putfield 180, 3) := by decide +kernel
theorem dX12_init_229 : decode cX12_init 229 = .ok (.aload_n 0, 1) := by decide +kernel
theorem dX12_init_230 : decode cX12_init 230 = .ok (.bipush 8, 2) := by decide +kernel
theorem dX12_init_232 : decode cX12_init 232 = .ok (.newarray .int, 2) := by decide +kernel
theorem dX12_init_234 : decode cX12_init 234 = .ok (.putfield 183, 3) := by decide +kernel
theorem dX12_init_237 : decode cX12_init 237 = .ok (.aload_n 0, 1) := by decide +kernel
theorem dX12_init_238 : decode cX12_init 238 = .ok (.bipush 8, 2) := by decide +kernel
theorem dX12_init_240 : decode cX12_init 240 = .ok (.newarray .int, 2) := by decide +kernel
theorem dX12_init_242 : decode cX12_init 242 = .ok (.putfield 186, 3) := by decide +kernel
theorem dX12_init_245 : decode cX12_init 245 = .ok (.aload_n 0, 1) := by decide +kernel
theorem dX12_init_246 : decode cX12_init 246 = .ok (.bipush 8, 2) := by decide +kernel
end
section
theorem dX12_init_248 : decode cX12_init 248 = .ok (.newarray .int, 2) := by decide +kernel
theorem dX12_init_250 : decode cX12_init 250 = .ok (.putfield 188, 3) := by decide +kernel
theorem dX12_init_253 : decode cX12_init 253 = .ok (.aload_n 0, 1) := by decide +kernel
theorem dX12_init_254 : decode cX12_init 254 = .ok (.bipush 8, 2) := by decide +kernel
theorem dX12_init_256 : decode cX12_init 256 = .ok (.newarray .int, 2) := by decide +kernel
theorem dX12_init_258 : decode cX12_init 258 = .ok (.putfield 191, 3) := by decide +kernel
theorem dX12_init_261 : decode cX12_init 261 = .ok (.aload_n 0, 1) := by decide +kernel
theorem dX12_init_262 : decode cX12_init 262 = .ok (.bipush 8, 2) := by decide +kernel
theorem dX12_init_264 : decode cX12_init 264 = .ok (.newarray .int, 2) := by decide +kernel
theorem dX12_init_266 : decode cX12_init 266 = .ok (.putfield 194, 3) := by decide +kernel
theorem dX12_init_269 : decode cX12_init 269 = .ok (.aload_n 0, 1) := by decide +kernel
theorem dX12_init_270 : decode cX12_init 270 = .ok (.bipush 30, 2) := by decide +kernel
theorem dX12_init_272 : decode cX12_init 272 = .ok (.newarray .int, 2) := by decide +kernel
theorem dX12_init_274 : decode cX12_init 274 = .ok (.putfield 197, 3) := by decide +kernel
theorem dX12_init_277 : decode cX12_init 277 = .ok (.aload_n 0, 1) := by decide +kernel
theorem dX12_init_278 : decode cX12_init 278 = .ok (.bipush 30, 2) := by decide +kernel
theorem dX12_init_280 : decode cX12_init 280 = .ok (.newarray .int, 2) := by decide +kernel
theorem dX12_init_282 : decode cX12_init 282 = .ok (.putfield 200, 3) := by decide +kernel
theorem dX12_init_285 : decode cX12_init 285 = .ok (.iconst 0, 1) := by decide +kernel
theorem dX12_init_286 : decode cX12_init 286 = .ok (.istore_n 1, 1) := by decide +kernel
theorem dX12_init_287 : decode cX12_init 287 = .ok (.iload_n 1, 1) := by decide +kernel
theorem dX12_init_288 : decode cX12_init 288 = .ok (.bipush 9, 2) := by decide +kernel
theorem dX12_init_290 : decode cX12_init 290 = .ok (.if_icmp .ge 20, 3) := by decide +kernel
theorem dX12_init_293 : decode cX12_init 293 = .ok (.aload_n 0, 1) := by decide +kernel
theorem dX12_init_294 : decode cX12_init 294 = .ok (.getfield 114, 3) := by decide +kernel
theorem dX12_init_297 : decode cX12_init 297 = .ok (.iload_n 1, 1) := by decide +kernel
theorem dX12_init_298 : decode cX12_init 298 = .ok (.getstatic 86, 3) := by decide +kernel
theorem dX12_init_301 : decode cX12_init 301 = .ok (.iload_n 1, 1) := by decide +kernel
theorem dX12_init_302 : decode cX12_init 302 = .ok (.iaload, 1) := by decide +kernel
theorem dX12_init_303 : decode cX12_init 303 = .ok (.iastore, 1) := by decide +kernel
theorem dX12_init_304 : decode cX12_init 304 = .ok (.iinc 1 1, 3) := by decide +kernel
theorem dX12_init_307 : decode cX12_init 307 = .ok (.goto (-20), 3) := by decide +kernel
theorem dX12_init_310 : decode cX12_init 310 = .ok (.iconst 0, 1) := by decide +kernel
theorem dX12_init_311 : decode cX12_init 311 = .ok (.istore_n 1, 1) := by decide +kernel
theorem dX12_init_312 : decode cX12_init 312 = .ok (.iload_n 1, 1) := by decide +kernel
theorem dX12_init_313 : decode cX12_init 313 = .ok (.bipush 30, 2) := by decide +kernel
theorem dX12_init_315 : decode cX12_init 315 = .ok (.if_icmp .ge 23, 3) := by decide +kernel
theorem dX12_init_318 : decode cX12_init 318 = .ok (.aload_n 0, 1) := by decide +kernel
theorem dX12_init_319 : decode cX12_init 319 = .ok (.getfield 120, 3) := by decide +kernel
theorem dX12_init_322 : decode cX12_init 322 = .ok (.iload_n 1, 1) := by decide +kernel
theorem dX12_init_323 : decode cX12_init 323 = .ok (.iconst (-1), 1) := by decide +kernel
theorem dX12_init_324 : decode cX12_init 324 = .ok (.iastore, 1) := by decide +kernel
theorem dX12_init_325 : decode cX12_init 325 = .ok (.aload_n 0, 1) := by decide +kernel
theorem dX12_init_326 : decode cX12_init 326 = .ok (.getfield 123, 3) := by decide +kernel
theorem dX12_init_329 : decode cX12_init 329 = .ok (.iload_n 1, 1) := by decide +kernel
theorem dX12_init_330 : decode cX12_init 330 = .ok (.iconst (-1), 1) := by decide +kernel
theorem dX12_init_331 : decode cX12_init 331 = .ok (.iastore, 1) := by decide +kernel
theorem dX12_init_332 : decode cX12_init 332 = .ok (.iinc 1 1, 3) := by decide +kernel
theorem dX12_init_335 : decode cX12_init 335 = .ok (.goto (-23), 3) := by decide +kernel
theorem dX12_init_338 : decode cX12_init 338 = .ok (.return_, 1) := by decide +kernel
theorem dX12_feed_0 : decode cX12_feed 0 = .ok (.aload_n 0, 1) := by decide +kernel
theorem dX12_feed_1 : decode cX12_feed 1 = .ok (.getfield 203, 3) := by decide +kernel
theorem dX12_feed_4 : decode cX12_feed 4 = .ok (.bipush 20, 2) := by decide +kernel
theorem dX12_feed_6 : decode cX12_feed 6 = .ok (.iadd, 1) := by decide +kernel
theorem dX12_feed_7 : decode cX12_feed 7 = .ok (.sipush 400, 3) := by decide +kernel
theorem dX12_feed_10 : decode cX12_feed 10 = .ok (.if_icmp .le 6, 3) := by decide +kernel
theorem dX12_feed_13 : decode cX12_feed 13 = .ok (.bipush (-3), 2) := by decide +kernel
theorem dX12_feed_15 : decode cX12_feed 15 = .ok (.ireturn, 1) := by decide +kernel
theorem dX12_feed_16 : decode cX12_feed 16 = .ok (.aload_n 0, 1) := by decide +kernel
theorem dX12_feed_17 : decode cX12_feed 17 = .ok (.iload_n 1, 1) := by decide +kernel
theorem dX12_feed_18 : decode cX12_feed 18 = .ok (.invokevirtual 206, 3) := by decide +kernel
theorem dX12_feed_21 : decode cX12_feed 21 = .ok (.aload_n 0, 1) := by decide +kernel
theorem dX12_feed_22 : decode cX12_feed 22 = .ok (.iload_n 2, 1) := by decide +kernel
theorem dX12_feed_23 : decode cX12_feed 23 = .ok (.invokevirtual 206, 3) := by decide +kernel
theorem dX12_feed_26 : decode cX12_feed 26 = .ok (.aload_n 0, 1) := by decide +kernel
theorem dX12_feed_27 : decode cX12_feed 27 = .ok (.iload_n 3, 1) := by decide +kernel
theorem dX12_feed_28 : decode cX12_feed 28 = .ok (.invokevirtual 206, 3) := by decide +kernel
theorem dX12_feed_31 : decode cX12_feed 31 = .ok (.aload_n 0, 1) := by decide +kernel
theorem dX12_feed_32 : decode cX12_feed 32 = .ok (.iload 4, 2) := by decide +kernel
theorem dX12_feed_34 : decode cX12_feed 34 = .ok (.invokevirtual 206, 3) := by decide +kernel
theorem dX12_feed_37 : decode cX12_feed 37 = .ok (.aload_n 0, 1) := by decide +kernel
theorem dX12_feed_38 : decode cX12_feed 38 = .ok (.iload 5, 2) := by decide +kernel
theorem dX12_feed_40 : decode cX12_feed 40 = .ok (.invokevirtual 206, 3) := by decide +kernel
theorem dX12_feed_43 : decode cX12_feed 43 = .ok (.aload_n 0, 1) := by decide +kernel
theorem dX12_feed_44 : decode cX12_feed 44 = .ok (.getfield 203, 3) := by decide +kernel
theorem dX12_feed_47 : decode cX12_feed 47 = .ok (.ireturn, 1) := by decide +kernel
theorem dX12_lay_0 : decode cX12_lay 0 = .ok (.bipush 24, 2) := by decide +kernel
theorem dX12_lay_2 : decode cX12_lay 2 = .ok (.istore_n 2, 1) := by decide +kernel
theorem dX12_lay_3 : decode cX12_lay 3 = .ok (.iload_n 2, 1) := by decide +kernel
theorem dX12_lay_4 : decode cX12_lay 4 = .ok (.ifCond .lt 32, 3) := by decide +kernel
theorem dX12_lay_7 : decode cX12_lay 7 = .ok (.aload_n 0, 1) := by decide +kernel
theorem dX12_lay_8 : decode cX12_lay 8 = .ok (.getfield 20, 3) := by decide +kernel
theorem dX12_lay_11 : decode cX12_lay 11 = .ok (.aload_n 0, 1) := by decide +kernel
theorem dX12_lay_12 : decode cX12_lay 12 = .ok (.getfield 203, 3) := by decide +kernel
theorem dX12_lay_15 : decode cX12_lay 15 = .ok (.iload_n 1, 1) := by decide +kernel
theorem dX12_lay_16 : decode cX12_lay 16 = .ok (.iload_n 2, 1) := by decide +kernel
theorem dX12_lay_17 : decode cX12_lay 17 = .ok (.ishr, 1) := by decide +kernel
theorem dX12_lay_18 : decode cX12_lay 18 = .ok (.i2b, 1) := by decide +kernel
theorem dX12_lay_19 : decode cX12_lay 19 = .ok (.bastore, 1) := by decide +kernel
theorem dX12_lay_20 : decode cX12_lay 20 = .ok (.aload_n 0, 1) := by decide +kernel
theorem dX12_lay_21 : decode cX12_lay 21 = .ok (.dup, 1) := by decide +kernel
theorem dX12_lay_22 : decode cX12_lay 22 = .ok (.getfield 203, 3) := by decide +kernel
theorem dX12_lay_25 : decode cX12_lay 25 = .ok (.iconst 1, 1) := by decide +kernel
theorem dX12_lay_26 : decode cX12_lay 26 = .ok (.iadd, 1) := by decide +kernel
theorem dX12_lay_27 : decode cX12_lay 27 = .ok (.putfield 203, 3) := by decide +kernel
theorem dX12_lay_30 : decode cX12_lay 30 = .ok (.iinc 2 (-8), 3) := by decide +kernel
theorem dX12_lay_33 : decode cX12_lay 33 = .ok (.goto (-30), 3) := by decide +kernel
theorem dX12_lay_36 : decode cX12_lay 36 = .ok (.return_, 1) := by decide +kernel
theorem dX12_end_0 : decode cX12_end 0 = .ok (.iload_n 1, 1) := by decide +kernel
theorem dX12_end_1 : decode cX12_end 1 = .ok (.i2l, 1) := by decide +kernel
theorem dX12_end_2 : decode cX12_end 2 = .ok (.lconst 0, 1) := by decide +kernel
theorem dX12_end_3 : decode cX12_end 3 = .ok (.aload_n 0, 1) := by decide +kernel
theorem dX12_end_4 : decode cX12_end 4 = .ok (.getfield 203, 3) := by decide +kernel
theorem dX12_end_7 : decode cX12_end 7 = .ok (.i2l, 1) := by decide +kernel
theorem dX12_end_8 : decode cX12_end 8 = .ok (.invokestatic 58, 3) := by decide +kernel
theorem dX12_end_11 : decode cX12_end 11 = .ok (.ifCond .ne 5, 3) := by decide +kernel
theorem dX12_end_14 : decode cX12_end 14 = .ok (.iconst (-1), 1) := by decide +kernel
theorem dX12_end_15 : decode cX12_end 15 = .ok (.ireturn, 1) := by decide +kernel
theorem dX12_end_16 : decode cX12_end 16 = .ok (.aload_n 0, 1) := by decide +kernel
theorem dX12_end_17 : decode cX12_end 17 = .ok (.iload_n 1, 1) := by decide +kernel
theorem dX12_end_18 : decode cX12_end 18 = .ok (.putfield 203, 3) := by decide +kernel
theorem dX12_end_21 : decode cX12_end 21 = .ok (.iload_n 1, 1) := by decide +kernel
theorem dX12_end_22 : decode cX12_end 22 = .ok (.ireturn, 1) := by decide +kernel
theorem dX12_trust_0 : decode cX12_trust 0 = .ok (.aload_n 0, 1) := by decide +kernel
theorem dX12_trust_1 : decode cX12_trust 1 = .ok (.aload_n 0, 1) := by decide +kernel
theorem dX12_trust_2 : decode cX12_trust 2 = .ok (.getfield 203, 3) := by decide +kernel
theorem dX12_trust_5 : decode cX12_trust 5 = .ok (.putfield 17, 3) := by decide +kernel
theorem dX12_trust_8 : decode cX12_trust 8 = .ok (.aload_n 0, 1) := by decide +kernel
theorem dX12_trust_9 : decode cX12_trust 9 = .ok (.iconst 0, 1) := by decide +kernel
theorem dX12_trust_10 : decode cX12_trust 10 = .ok (.putfield 203, 3) := by decide +kernel
theorem dX12_trust_13 : decode cX12_trust 13 = .ok (.aload_n 0, 1) := by decide +kernel
theorem dX12_trust_14 : decode cX12_trust 14 = .ok (.iconst 0, 1) := by decide +kernel
theorem dX12_trust_15 : decode cX12_trust 15 = .ok (.putfield 24, 3) := by decide +kernel
theorem dX12_trust_18 : decode cX12_trust 18 = .ok (.aload_n 0, 1) := by decide +kernel
theorem dX12_trust_19 : decode cX12_trust 19 = .ok (.iconst 0, 1) := by decide +kernel
theorem dX12_trust_20 : decode cX12_trust 20 = .ok (.putfield 1, 3) := by decide +kernel
theorem dX12_trust_23 : decode cX12_trust 23 = .ok (.aload_n 0, 1) := by decide +kernel
theorem dX12_trust_24 : decode cX12_trust 24 = .ok (.iconst (-1), 1) := by decide +kernel
theorem dX12_trust_25 : decode cX12_trust 25 = .ok (.putfield 10, 3) := by decide +kernel
theorem dX12_trust_28 : decode cX12_trust 28 = .ok (.aload_n 0, 1) := by decide +kernel
theorem dX12_trust_29 : decode cX12_trust 29 = .ok (.invokevirtual 62, 3) := by decide +kernel
theorem dX12_trust_32 : decode cX12_trust 32 = .ok (.aload_n 0, 1) := by decide +kernel
theorem dX12_trust_33 : decode cX12_trust 33 = .ok (.invokevirtual 209, 3) := by decide +kernel
theorem dX12_trust_36 : decode cX12_trust 36 = .ok (.istore_n 1, 1) := by decide +kernel
theorem dX12_trust_37 : decode cX12_trust 37 = .ok (.goto 6, 3) := by decide +kernel
theorem dX12_trust_40 : decode cX12_trust 40 = .ok (.astore_n 2, 1) := by decide +kernel
theorem dX12_trust_41 : decode cX12_trust 41 = .ok (.iconst (-1), 1) := by decide +kernel
theorem dX12_trust_42 : decode cX12_trust 42 = .ok (.ireturn, 1) := by decide +kernel
theorem dX12_trust_43 : decode cX12_trust 43 = .ok (.iconst 0, 1) := by decide +kernel
theorem dX12_trust_44 : decode cX12_trust 44 = .ok (.istore_n 2, 1) := by decide +kernel
theorem dX12_trust_45 : decode cX12_trust 45 = .ok (.iload_n 2, 1) := by decide +kernel
theorem dX12_trust_46 : decode cX12_trust 46 = .ok (.bipush 9, 2) := by decide +kernel
theorem dX12_trust_48 : decode cX12_trust 48 = .ok (.if_icmp .ge 21, 3) := by decide +kernel
theorem dX12_trust_51 : decode cX12_trust 51 = .ok (.aload_n 0, 1) := by decide +kernel
theorem dX12_trust_52 : decode cX12_trust 52 = .ok (.getfield 114, 3) := by decide +kernel
theorem dX12_trust_55 : decode cX12_trust 55 = .ok (.iload_n 2, 1) := by decide +kernel
theorem dX12_trust_56 : decode cX12_trust 56 = .ok (.aload_n 0, 1) := by decide +kernel
theorem dX12_trust_57 : decode cX12_trust 57 = .ok (.getfield 82, 3) := by decide +kernel
theorem dX12_trust_60 : decode cX12_trust 60 = .ok (.iload_n 2, 1) := by decide +kernel
theorem dX12_trust_61 : decode cX12_trust 61 = .ok (.iaload, 1) := by decide +kernel
theorem dX12_trust_62 : decode cX12_trust 62 = .ok (.iastore, 1) := by decide +kernel
theorem dX12_trust_63 : decode cX12_trust 63 = .ok (.iinc 2 1, 3) := by decide +kernel
theorem dX12_trust_66 : decode cX12_trust 66 = .ok (.goto (-21), 3) := by decide +kernel
theorem dX12_trust_69 : decode cX12_trust 69 = .ok (.iload_n 1, 1) := by decide +kernel
theorem dX12_trust_70 : decode cX12_trust 70 = .ok (.ireturn, 1) := by decide +kernel
theorem dX12_fault_0 : decode cX12_fault 0 = .ok (.iload_n 1, 1) := by decide +kernel
theorem dX12_fault_1 : decode cX12_fault 1 = .ok (.ifCond .ne 10, 3) := by decide +kernel
theorem dX12_fault_4 : decode cX12_fault 4 = .ok (.aload_n 0, 1) := by decide +kernel
theorem dX12_fault_5 : decode cX12_fault 5 = .ok (.getfield 1, 3) := by decide +kernel
theorem dX12_fault_8 : decode cX12_fault 8 = .ok (.goto 16, 3) := by decide +kernel
theorem dX12_fault_11 : decode cX12_fault 11 = .ok (.iload_n 1, 1) := by decide +kernel
theorem dX12_fault_12 : decode cX12_fault 12 = .ok (.iconst 1, 1) := by decide +kernel
theorem dX12_fault_13 : decode cX12_fault 13 = .ok (.if_icmp .ne 10, 3) := by decide +kernel
theorem dX12_fault_16 : decode cX12_fault 16 = .ok (.aload_n 0, 1) := by decide +kernel
theorem dX12_fault_17 : decode cX12_fault 17 = .ok (.getfield 10, 3) := by decide +kernel
theorem dX12_fault_20 : decode cX12_fault 20 = .ok (.goto 4, 3) := by decide +kernel
theorem dX12_fault_23 : decode cX12_fault 23 = .ok (.iconst (-1), 1) := by decide +kernel
theorem dX12_fault_24 : decode cX12_fault 24 = .ok (.ireturn, 1) := by decide +kernel
theorem dX12_rule_0 : decode cX12_rule 0 = .ok (.iload_n 1, 1) := by decide +kernel
theorem dX12_rule_1 : decode cX12_rule 1 = .ok (.i2l, 1) := by decide +kernel
theorem dX12_rule_2 : decode cX12_rule 2 = .ok (.lconst 0, 1) := by decide +kernel
theorem dX12_rule_3 : decode cX12_rule 3 = .ok (.ldc2_w 212, 3) := by decide +kernel
theorem dX12_rule_6 : decode cX12_rule 6 = .ok (.invokestatic 58, 3) := by decide +kernel
theorem dX12_rule_9 : decode cX12_rule 9 = .ok (.ifCond .eq 12, 3) := by decide +kernel
theorem dX12_rule_12 : decode cX12_rule 12 = .ok (.aload_n 0, 1) := by decide +kernel
theorem dX12_rule_13 : decode cX12_rule 13 = .ok (.getfield 114, 3) := by decide +kernel
theorem dX12_rule_16 : decode cX12_rule 16 = .ok (.iload_n 1, 1) := by decide +kernel
theorem dX12_rule_17 : decode cX12_rule 17 = .ok (.iaload, 1) := by decide +kernel
theorem dX12_rule_18 : decode cX12_rule 18 = .ok (.goto 5, 3) := by decide +kernel
theorem dX12_rule_21 : decode cX12_rule 21 = .ok (.bipush (-9), 2) := by decide +kernel
theorem dX12_rule_23 : decode cX12_rule 23 = .ok (.ireturn, 1) := by decide +kernel
theorem dX12_isGiver_0 : decode cX12_isGiver 0 = .ok (.iload_n 0, 1) := by decide +kernel
theorem dX12_isGiver_1 : decode cX12_isGiver 1 = .ok (.i2l, 1) := by decide +kernel
theorem dX12_isGiver_2 : decode cX12_isGiver 2 = .ok (.lconst 0, 1) := by decide +kernel
theorem dX12_isGiver_3 : decode cX12_isGiver 3 = .ok (.ldc2_w 214, 3) := by decide +kernel
theorem dX12_isGiver_6 : decode cX12_isGiver 6 = .ok (.invokestatic 58, 3) := by decide +kernel
theorem dX12_isGiver_9 : decode cX12_isGiver 9 = .ok (.ireturn, 1) := by decide +kernel
theorem dX12_isMonth_0 : decode cX12_isMonth 0 = .ok (.iload_n 0, 1) := by decide +kernel
theorem dX12_isMonth_1 : decode cX12_isMonth 1 = .ok (.i2l, 1) := by decide +kernel
theorem dX12_isMonth_2 : decode cX12_isMonth 2 = .ok (.lconst 0, 1) := by decide +kernel
theorem dX12_isMonth_3 : decode cX12_isMonth 3 = .ok (.ldc2_w 216, 3) := by decide +kernel
theorem dX12_isMonth_6 : decode cX12_isMonth 6 = .ok (.invokestatic 58, 3) := by decide +kernel
theorem dX12_isMonth_9 : decode cX12_isMonth 9 = .ok (.ireturn, 1) := by decide +kernel
theorem dX12_declare_0 : decode cX12_declare 0 = .ok (.iload_n 1, 1) := by decide +kernel
theorem dX12_declare_1 : decode cX12_declare 1 = .ok (.invokestatic 218, 3) := by decide +kernel
theorem dX12_declare_4 : decode cX12_declare 4 = .ok (.ifCond .eq 23, 3) := by decide +kernel
theorem dX12_declare_7 : decode cX12_declare 7 = .ok (.iload_n 2, 1) := by decide +kernel
theorem dX12_declare_8 : decode cX12_declare 8 = .ok (.invokestatic 221, 3) := by decide +kernel
theorem dX12_declare_11 : decode cX12_declare 11 = .ok (.ifCond .eq 16, 3) := by decide +kernel
theorem dX12_declare_14 : decode cX12_declare 14 = .ok (.iload_n 3, 1) := by decide +kernel
theorem dX12_declare_15 : decode cX12_declare 15 = .ok (.i2l, 1) := by decide +kernel
theorem dX12_declare_16 : decode cX12_declare 16 = .ok (.iload_n 2, 1) := by decide +kernel
theorem dX12_declare_17 : decode cX12_declare 17 = .ok (.i2l, 1) := by decide +kernel
theorem dX12_declare_18 : decode cX12_declare 18 = .ok (.ldc2_w 216, 3) := by decide +kernel
theorem dX12_declare_21 : decode cX12_declare 21 = .ok (.invokestatic 58, 3) := by decide +kernel
theorem dX12_declare_24 : decode cX12_declare 24 = .ok (.ifCond .ne 6, 3) := by decide +kernel
theorem dX12_declare_27 : decode cX12_declare 27 = .ok (.bipush (-2), 2) := by decide +kernel
theorem dX12_declare_29 : decode cX12_declare 29 = .ok (.ireturn, 1) := by decide +kernel
theorem dX12_declare_30 : decode cX12_declare 30 = .ok (.aload_n 0, 1) := by decide +kernel
theorem dX12_declare_31 : decode cX12_declare 31 = .ok (.getfield 224, 3) := by decide +kernel
theorem dX12_declare_34 : decode cX12_declare 34 = .ok (.ifCond .eq 6, 3) := by decide +kernel
theorem dX12_declare_37 : decode cX12_declare 37 = .ok (.bipush (-4), 2) := by decide +kernel
theorem dX12_declare_39 : decode cX12_declare 39 = .ok (.ireturn, 1) := by decide +kernel
theorem dX12_declare_40 : decode cX12_declare 40 = .ok (.aload_n 0, 1) := by decide +kernel
theorem dX12_declare_41 : decode cX12_declare 41 = .ok (.getfield 120, 3) := by decide +kernel
theorem dX12_declare_44 : decode cX12_declare 44 = .ok (.iload_n 1, 1) := by decide +kernel
theorem dX12_declare_45 : decode cX12_declare 45 = .ok (.iload_n 2, 1) := by decide +kernel
theorem dX12_declare_46 : decode cX12_declare 46 = .ok (.iastore, 1) := by decide +kernel
theorem dX12_declare_47 : decode cX12_declare 47 = .ok (.aload_n 0, 1) := by decide +kernel
theorem dX12_declare_48 : decode cX12_declare 48 = .ok (.getfield 123, 3) := by decide +kernel
theorem dX12_declare_51 : decode cX12_declare 51 = .ok (.iload_n 1, 1) := by decide +kernel
theorem dX12_declare_52 : decode cX12_declare 52 = .ok (.iload_n 3, 1) := by decide +kernel
theorem dX12_declare_53 : decode cX12_declare 53 = .ok (.iastore, 1) := by decide +kernel
theorem dX12_declare_54 : decode cX12_declare 54 = .ok (.iconst 1, 1) := by decide +kernel
theorem dX12_declare_55 : decode cX12_declare 55 = .ok (.ireturn, 1) := by decide +kernel
theorem dX12_nameless_0 : decode cX12_nameless 0 = .ok (.iload_n 1, 1) := by decide +kernel
theorem dX12_nameless_1 : decode cX12_nameless 1 = .ok (.invokestatic 218, 3) := by decide +kernel
theorem dX12_nameless_4 : decode cX12_nameless 4 = .ok (.ifCond .ne 6, 3) := by decide +kernel
theorem dX12_nameless_7 : decode cX12_nameless 7 = .ok (.bipush (-2), 2) := by decide +kernel
theorem dX12_nameless_9 : decode cX12_nameless 9 = .ok (.ireturn, 1) := by decide +kernel
theorem dX12_nameless_10 : decode cX12_nameless 10 = .ok (.aload_n 0, 1) := by decide +kernel
theorem dX12_nameless_11 : decode cX12_nameless 11 = .ok (.getfield 224, 3) := by decide +kernel
theorem dX12_nameless_14 : decode cX12_nameless 14 = .ok (.ifCond .eq 6, 3) := by decide +kernel
theorem dX12_nameless_17 : decode cX12_nameless 17 = .ok (.bipush (-4), 2) := by decide +kernel
theorem dX12_nameless_19 : decode cX12_nameless 19 = .ok (.ireturn, 1) := by decide +kernel
theorem dX12_nameless_20 : decode cX12_nameless 20 = .ok (.aload_n 0, 1) := by decide +kernel
theorem dX12_nameless_21 : decode cX12_nameless 21 = .ok (.getfield 132, 3) := by decide +kernel
theorem dX12_nameless_24 : decode cX12_nameless 24 = .ok (.iload_n 1, 1) := by decide +kernel
theorem dX12_nameless_25 : decode cX12_nameless 25 = .ok (.baload, 1) := by decide +kernel
theorem dX12_nameless_26 : decode cX12_nameless 26 = .ok (.istore_n 3, 1) := by decide +kernel
theorem dX12_nameless_27 : decode cX12_nameless 27 = .ok (.aload_n 0, 1) := by decide +kernel
theorem dX12_nameless_28 : decode cX12_nameless 28 = .ok (.getfield 132, 3) := by decide +kernel
theorem dX12_nameless_31 : decode cX12_nameless 31 = .ok (.iload_n 1, 1) := by decide +kernel
theorem dX12_nameless_32 : decode cX12_nameless 32 = .ok (.iload_n 2, 1) := by decide +kernel
theorem dX12_nameless_33 : decode cX12_nameless 33 = .ok (.bastore, 1) := by decide +kernel
theorem dX12_nameless_34 : decode cX12_nameless 34 = .ok (.iload_n 3, 1) := by decide +kernel
theorem dX12_nameless_35 : decode cX12_nameless 35 = .ok (.iload_n 2, 1) := by decide +kernel
theorem dX12_nameless_36 : decode cX12_nameless 36 = .ok (.if_icmp .ne 7, 3) := by decide +kernel
theorem dX12_nameless_39 : decode cX12_nameless 39 = .ok (.iconst 0, 1) := by decide +kernel
theorem dX12_nameless_40 : decode cX12_nameless 40 = .ok (.goto 4, 3) := by decide +kernel
theorem dX12_nameless_43 : decode cX12_nameless 43 = .ok (.iconst 1, 1) := by decide +kernel
theorem dX12_nameless_44 : decode cX12_nameless 44 = .ok (.ireturn, 1) := by decide +kernel
theorem dX12_monthOf_0 : decode cX12_monthOf 0 = .ok (.aload_n 0, 1) := by decide +kernel
theorem dX12_monthOf_1 : decode cX12_monthOf 1 = .ok (.getfield 141, 3) := by decide +kernel
theorem dX12_monthOf_4 : decode cX12_monthOf 4 = .ok (.iload_n 1, 1) := by decide +kernel
theorem dX12_monthOf_5 : decode cX12_monthOf 5 = .ok (.iaload, 1) := by decide +kernel
theorem dX12_monthOf_6 : decode cX12_monthOf 6 = .ok (.iload_n 2, 1) := by decide +kernel
theorem dX12_monthOf_7 : decode cX12_monthOf 7 = .ok (.aload_n 0, 1) := by decide +kernel
theorem dX12_monthOf_8 : decode cX12_monthOf 8 = .ok (.getfield 144, 3) := by decide +kernel
theorem dX12_monthOf_11 : decode cX12_monthOf 11 = .ok (.iload_n 1, 1) := by decide +kernel
theorem dX12_monthOf_12 : decode cX12_monthOf 12 = .ok (.iaload, 1) := by decide +kernel
theorem dX12_monthOf_13 : decode cX12_monthOf 13 = .ok (.imul, 1) := by decide +kernel
theorem dX12_monthOf_14 : decode cX12_monthOf 14 = .ok (.iadd, 1) := by decide +kernel
theorem dX12_monthOf_15 : decode cX12_monthOf 15 = .ok (.ireturn, 1) := by decide +kernel
theorem dX12_pledge_0 : decode cX12_pledge 0 = .ok (.iload_n 1, 1) := by decide +kernel
theorem dX12_pledge_1 : decode cX12_pledge 1 = .ok (.invokestatic 218, 3) := by decide +kernel
theorem dX12_pledge_4 : decode cX12_pledge 4 = .ok (.ifCond .eq 57, 3) := by decide +kernel
theorem dX12_pledge_7 : decode cX12_pledge 7 = .ok (.iload_n 2, 1) := by decide +kernel
theorem dX12_pledge_8 : decode cX12_pledge 8 = .ok (.i2l, 1) := by decide +kernel
theorem dX12_pledge_9 : decode cX12_pledge 9 = .ok (.lconst 1, 1) := by decide +kernel
theorem dX12_pledge_10 : decode cX12_pledge 10 = .ok (.ldc2_w 228, 3) := by decide +kernel
theorem dX12_pledge_13 : decode cX12_pledge 13 = .ok (.invokestatic 58, 3) := by decide +kernel
theorem dX12_pledge_16 : decode cX12_pledge 16 = .ok (.ifCond .eq 45, 3) := by decide +kernel
theorem dX12_pledge_19 : decode cX12_pledge 19 = .ok (.iload_n 3, 1) := by decide +kernel
theorem dX12_pledge_20 : decode cX12_pledge 20 = .ok (.i2l, 1) := by decide +kernel
theorem dX12_pledge_21 : decode cX12_pledge 21 = .ok (.aload_n 0, 1) := by decide +kernel
theorem dX12_pledge_22 : decode cX12_pledge 22 = .ok (.getfield 230, 3) := by decide +kernel
theorem dX12_pledge_25 : decode cX12_pledge 25 = .ok (.i2l, 1) := by decide +kernel
theorem dX12_pledge_26 : decode cX12_pledge 26 = .ok (.ldc2_w 216, 3) := by decide +kernel
theorem dX12_pledge_29 : decode cX12_pledge 29 = .ok (.invokestatic 58, 3) := by decide +kernel
theorem dX12_pledge_32 : decode cX12_pledge 32 = .ok (.ifCond .eq 29, 3) := by decide +kernel
theorem dX12_pledge_35 : decode cX12_pledge 35 = .ok (.iload 4, 2) := by decide +kernel
theorem dX12_pledge_37 : decode cX12_pledge 37 = .ok (.i2l, 1) := by decide +kernel
theorem dX12_pledge_38 : decode cX12_pledge 38 = .ok (.lconst 1, 1) := by decide +kernel
theorem dX12_pledge_39 : decode cX12_pledge 39 = .ok (.ldc2_w 233, 3) := by decide +kernel
theorem dX12_pledge_42 : decode cX12_pledge 42 = .ok (.invokestatic 58, 3) := by decide +kernel
theorem dX12_pledge_45 : decode cX12_pledge 45 = .ok (.ifCond .eq 16, 3) := by decide +kernel
theorem dX12_pledge_48 : decode cX12_pledge 48 = .ok (.iload 5, 2) := by decide +kernel
theorem dX12_pledge_50 : decode cX12_pledge 50 = .ok (.i2l, 1) := by decide +kernel
theorem dX12_pledge_51 : decode cX12_pledge 51 = .ok (.lconst 1, 1) := by decide +kernel
theorem dX12_pledge_52 : decode cX12_pledge 52 = .ok (.ldc2_w 235, 3) := by decide +kernel
theorem dX12_pledge_55 : decode cX12_pledge 55 = .ok (.invokestatic 58, 3) := by decide +kernel
theorem dX12_pledge_58 : decode cX12_pledge 58 = .ok (.ifCond .ne 6, 3) := by decide +kernel
theorem dX12_pledge_61 : decode cX12_pledge 61 = .ok (.bipush (-2), 2) := by decide +kernel
theorem dX12_pledge_63 : decode cX12_pledge 63 = .ok (.ireturn, 1) := by decide +kernel
theorem dX12_pledge_64 : decode cX12_pledge 64 = .ok (.aload_n 0, 1) := by decide +kernel
theorem dX12_pledge_65 : decode cX12_pledge 65 = .ok (.getfield 224, 3) := by decide +kernel
theorem dX12_pledge_68 : decode cX12_pledge 68 = .ok (.ifCond .eq 6, 3) := by decide +kernel
theorem dX12_pledge_71 : decode cX12_pledge 71 = .ok (.bipush (-4), 2) := by decide +kernel
theorem dX12_pledge_73 : decode cX12_pledge 73 = .ok (.ireturn, 1) := by decide +kernel
theorem dX12_pledge_74 : decode cX12_pledge 74 = .ok (.aload_n 0, 1) := by decide +kernel
theorem dX12_pledge_75 : decode cX12_pledge 75 = .ok (.getfield 237, 3) := by decide +kernel
theorem dX12_pledge_78 : decode cX12_pledge 78 = .ok (.bipush 60, 2) := by decide +kernel
theorem dX12_pledge_80 : decode cX12_pledge 80 = .ok (.if_icmp .ne 6, 3) := by decide +kernel
theorem dX12_pledge_83 : decode cX12_pledge 83 = .ok (.bipush (-3), 2) := by decide +kernel
theorem dX12_pledge_85 : decode cX12_pledge 85 = .ok (.ireturn, 1) := by decide +kernel
theorem dX12_pledge_86 : decode cX12_pledge 86 = .ok (.aload_n 0, 1) := by decide +kernel
theorem dX12_pledge_87 : decode cX12_pledge 87 = .ok (.getfield 237, 3) := by decide +kernel
theorem dX12_pledge_90 : decode cX12_pledge 90 = .ok (.istore 6, 2) := by decide +kernel
theorem dX12_pledge_92 : decode cX12_pledge 92 = .ok (.aload_n 0, 1) := by decide +kernel
theorem dX12_pledge_93 : decode cX12_pledge 93 = .ok (.getfield 135, 3) := by decide +kernel
theorem dX12_pledge_96 : decode cX12_pledge 96 = .ok (.iload 6, 2) := by decide +kernel
theorem dX12_pledge_98 : decode cX12_pledge 98 = .ok (.iload_n 1, 1) := by decide +kernel
theorem dX12_pledge_99 : decode cX12_pledge 99 = .ok (.iastore, 1) := by decide +kernel
theorem dX12_pledge_100 : decode cX12_pledge 100 = .ok (.aload_n 0, 1) := by decide +kernel
theorem dX12_pledge_101 : decode cX12_pledge 101 = .ok (.getfield 138, 3) := by decide +kernel
theorem dX12_pledge_104 : decode cX12_pledge 104 = .ok (.iload 6, 2) := by decide +kernel
theorem dX12_pledge_106 : decode cX12_pledge 106 = .ok (.iload_n 2, 1) := by decide +kernel
theorem dX12_pledge_107 : decode cX12_pledge 107 = .ok (.iastore, 1) := by decide +kernel
theorem dX12_pledge_108 : decode cX12_pledge 108 = .ok (.aload_n 0, 1) := by decide +kernel
theorem dX12_pledge_109 : decode cX12_pledge 109 = .ok (.getfield 141, 3) := by decide +kernel
theorem dX12_pledge_112 : decode cX12_pledge 112 = .ok (.iload 6, 2) := by decide +kernel
theorem dX12_pledge_114 : decode cX12_pledge 114 = .ok (.iload_n 3, 1) := by decide +kernel
theorem dX12_pledge_115 : decode cX12_pledge 115 = .ok (.iastore, 1) := by decide +kernel
theorem dX12_pledge_116 : decode cX12_pledge 116 = .ok (.aload_n 0, 1) := by decide +kernel
theorem dX12_pledge_117 : decode cX12_pledge 117 = .ok (.getfield 144, 3) := by decide +kernel
theorem dX12_pledge_120 : decode cX12_pledge 120 = .ok (.iload 6, 2) := by decide +kernel
theorem dX12_pledge_122 : decode cX12_pledge 122 = .ok (.iload 4, 2) := by decide +kernel
theorem dX12_pledge_124 : decode cX12_pledge 124 = .ok (.iastore, 1) := by decide +kernel
theorem dX12_pledge_125 : decode cX12_pledge 125 = .ok (.aload_n 0, 1) := by decide +kernel
theorem dX12_pledge_126 : decode cX12_pledge 126 = .ok (.getfield 147, 3) := by decide +kernel
theorem dX12_pledge_129 : decode cX12_pledge 129 = .ok (.iload 6, 2) := by decide +kernel
theorem dX12_pledge_131 : decode cX12_pledge 131 = .ok (.iload 5, 2) := by decide +kernel
theorem dX12_pledge_133 : decode cX12_pledge 133 = .ok (.iastore, 1) := by decide +kernel
theorem dX12_pledge_134 : decode cX12_pledge 134 = .ok (.aload_n 0, 1) := by decide +kernel
theorem dX12_pledge_135 : decode cX12_pledge 135 = .ok (.getfield 150, 3) := by decide +kernel
theorem dX12_pledge_138 : decode cX12_pledge 138 = .ok (.iload 6, 2) := by decide +kernel
theorem dX12_pledge_140 : decode cX12_pledge 140 = .ok (.iconst (-1), 1) := by decide +kernel
theorem dX12_pledge_141 : decode cX12_pledge 141 = .ok (.iastore, 1) := by decide +kernel
theorem dX12_pledge_142 : decode cX12_pledge 142 = .ok (.iconst 0, 1) := by decide +kernel
theorem dX12_pledge_143 : decode cX12_pledge 143 = .ok (.istore 7, 2) := by decide +kernel
theorem dX12_pledge_145 : decode cX12_pledge 145 = .ok (.iload 7, 2) := by decide +kernel
theorem dX12_pledge_147 : decode cX12_pledge 147 = .ok (.iload 5, 2) := by decide +kernel
theorem dX12_pledge_149 : decode cX12_pledge 149 = .ok (.if_icmp .ge 80, 3) := by decide +kernel
theorem dX12_pledge_152 : decode cX12_pledge 152 = .ok (.aload_n 0, 1) := by decide +kernel
theorem dX12_pledge_153 : decode cX12_pledge 153 = .ok (.getfield 159, 3) := by decide +kernel
theorem dX12_pledge_156 : decode cX12_pledge 156 = .ok (.bipush 84, 2) := by decide +kernel
theorem dX12_pledge_158 : decode cX12_pledge 158 = .ok (.iload 6, 2) := by decide +kernel
theorem dX12_pledge_160 : decode cX12_pledge 160 = .ok (.imul, 1) := by decide +kernel
theorem dX12_pledge_161 : decode cX12_pledge 161 = .ok (.iload 7, 2) := by decide +kernel
theorem dX12_pledge_163 : decode cX12_pledge 163 = .ok (.iadd, 1) := by decide +kernel
theorem dX12_pledge_164 : decode cX12_pledge 164 = .ok (.iload_n 2, 1) := by decide +kernel
theorem dX12_pledge_165 : decode cX12_pledge 165 = .ok (.iastore, 1) := by decide +kernel
theorem dX12_pledge_166 : decode cX12_pledge 166 = .ok (.aload_n 0, 1) := by decide +kernel
theorem dX12_pledge_167 : decode cX12_pledge 167 = .ok (.getfield 165, 3) := by decide +kernel
theorem dX12_pledge_170 : decode cX12_pledge 170 = .ok (.bipush 84, 2) := by decide +kernel
theorem dX12_pledge_172 : decode cX12_pledge 172 = .ok (.iload 6, 2) := by decide +kernel
theorem dX12_pledge_174 : decode cX12_pledge 174 = .ok (.imul, 1) := by decide +kernel
theorem dX12_pledge_175 : decode cX12_pledge 175 = .ok (.iload 7, 2) := by decide +kernel
theorem dX12_pledge_177 : decode cX12_pledge 177 = .ok (.iadd, 1) := by decide +kernel
theorem dX12_pledge_178 : decode cX12_pledge 178 = .ok (.aload_n 0, 1) := by decide +kernel
theorem dX12_pledge_179 : decode cX12_pledge 179 = .ok (.iload 6, 2) := by decide +kernel
theorem dX12_pledge_181 : decode cX12_pledge 181 = .ok (.iload 7, 2) := by decide +kernel
theorem dX12_pledge_183 : decode cX12_pledge 183 = .ok (.invokevirtual 240, 3) := by decide +kernel
theorem dX12_pledge_186 : decode cX12_pledge 186 = .ok (.bipush 119, 2) := by decide +kernel
theorem dX12_pledge_188 : decode cX12_pledge 188 = .ok (.if_icmp .gt 7, 3) := by decide +kernel
theorem dX12_pledge_191 : decode cX12_pledge 191 = .ok (.iconst 1, 1) := by decide +kernel
theorem dX12_pledge_192 : decode cX12_pledge 192 = .ok (.goto 4, 3) := by decide +kernel
theorem dX12_pledge_195 : decode cX12_pledge 195 = .ok (.iconst 0, 1) := by decide +kernel
theorem dX12_pledge_196 : decode cX12_pledge 196 = .ok (.bastore, 1) := by decide +kernel
theorem dX12_pledge_197 : decode cX12_pledge 197 = .ok (.aload_n 0, 1) := by decide +kernel
theorem dX12_pledge_198 : decode cX12_pledge 198 = .ok (.getfield 168, 3) := by decide +kernel
theorem dX12_pledge_201 : decode cX12_pledge 201 = .ok (.bipush 84, 2) := by decide +kernel
theorem dX12_pledge_203 : decode cX12_pledge 203 = .ok (.iload 6, 2) := by decide +kernel
theorem dX12_pledge_205 : decode cX12_pledge 205 = .ok (.imul, 1) := by decide +kernel
theorem dX12_pledge_206 : decode cX12_pledge 206 = .ok (.iload 7, 2) := by decide +kernel
theorem dX12_pledge_208 : decode cX12_pledge 208 = .ok (.iadd, 1) := by decide +kernel
theorem dX12_pledge_209 : decode cX12_pledge 209 = .ok (.aload_n 0, 1) := by decide +kernel
theorem dX12_pledge_210 : decode cX12_pledge 210 = .ok (.getfield 165, 3) := by decide +kernel
theorem dX12_pledge_213 : decode cX12_pledge 213 = .ok (.bipush 84, 2) := by decide +kernel
theorem dX12_pledge_215 : decode cX12_pledge 215 = .ok (.iload 6, 2) := by decide +kernel
theorem dX12_pledge_217 : decode cX12_pledge 217 = .ok (.imul, 1) := by decide +kernel
theorem dX12_pledge_218 : decode cX12_pledge 218 = .ok (.iload 7, 2) := by decide +kernel
theorem dX12_pledge_220 : decode cX12_pledge 220 = .ok (.iadd, 1) := by decide +kernel
theorem dX12_pledge_221 : decode cX12_pledge 221 = .ok (.baload, 1) := by decide +kernel
theorem dX12_pledge_222 : decode cX12_pledge 222 = .ok (.bastore, 1) := by decide +kernel
theorem dX12_pledge_223 : decode cX12_pledge 223 = .ok (.iinc 7 1, 3) := by decide +kernel
theorem dX12_pledge_226 : decode cX12_pledge 226 = .ok (.goto (-81), 3) := by decide +kernel
theorem dX12_pledge_229 : decode cX12_pledge 229 = .ok (.aload_n 0, 1) := by decide +kernel
theorem dX12_pledge_230 : decode cX12_pledge 230 = .ok (.dup, 1) := by decide +kernel
theorem dX12_pledge_231 : decode cX12_pledge 231 = .ok (.getfield 237, 3) := by decide +kernel
theorem dX12_pledge_234 : decode cX12_pledge 234 = .ok (.iconst 1, 1) := by decide +kernel
theorem dX12_pledge_235 : decode cX12_pledge 235 = .ok (.iadd, 1) := by decide +kernel
theorem dX12_pledge_236 : decode cX12_pledge 236 = .ok (.putfield 237, 3) := by decide +kernel
theorem dX12_pledge_239 : decode cX12_pledge 239 = .ok (.iload 6, 2) := by decide +kernel
theorem dX12_pledge_241 : decode cX12_pledge 241 = .ok (.ireturn, 1) := by decide +kernel
theorem dX12_isPledge_0 : decode cX12_isPledge 0 = .ok (.iload_n 1, 1) := by decide +kernel
theorem dX12_isPledge_1 : decode cX12_isPledge 1 = .ok (.i2l, 1) := by decide +kernel
theorem dX12_isPledge_2 : decode cX12_isPledge 2 = .ok (.lconst 0, 1) := by decide +kernel
theorem dX12_isPledge_3 : decode cX12_isPledge 3 = .ok (.aload_n 0, 1) := by decide +kernel
theorem dX12_isPledge_4 : decode cX12_isPledge 4 = .ok (.getfield 237, 3) := by decide +kernel
theorem dX12_isPledge_7 : decode cX12_isPledge 7 = .ok (.i2l, 1) := by decide +kernel
theorem dX12_isPledge_8 : decode cX12_isPledge 8 = .ok (.lconst 1, 1) := by decide +kernel
theorem dX12_isPledge_9 : decode cX12_isPledge 9 = .ok (.lsub, 1) := by decide +kernel
theorem dX12_isPledge_10 : decode cX12_isPledge 10 = .ok (.invokestatic 58, 3) := by decide +kernel
theorem dX12_isPledge_13 : decode cX12_isPledge 13 = .ok (.ireturn, 1) := by decide +kernel
theorem dX12_change_0 : decode cX12_change 0 = .ok (.aload_n 0, 1) := by decide +kernel
theorem dX12_change_1 : decode cX12_change 1 = .ok (.iload_n 1, 1) := by decide +kernel
theorem dX12_change_2 : decode cX12_change 2 = .ok (.invokevirtual 243, 3) := by decide +kernel
theorem dX12_change_5 : decode cX12_change 5 = .ok (.ifCond .eq 15, 3) := by decide +kernel
theorem dX12_change_8 : decode cX12_change 8 = .ok (.iload_n 2, 1) := by decide +kernel
theorem dX12_change_9 : decode cX12_change 9 = .ok (.i2l, 1) := by decide +kernel
theorem dX12_change_10 : decode cX12_change 10 = .ok (.lconst 1, 1) := by decide +kernel
theorem dX12_change_11 : decode cX12_change 11 = .ok (.ldc2_w 228, 3) := by decide +kernel
theorem dX12_change_14 : decode cX12_change 14 = .ok (.invokestatic 58, 3) := by decide +kernel
theorem dX12_change_17 : decode cX12_change 17 = .ok (.ifCond .ne 6, 3) := by decide +kernel
theorem dX12_change_20 : decode cX12_change 20 = .ok (.bipush (-2), 2) := by decide +kernel
theorem dX12_change_22 : decode cX12_change 22 = .ok (.ireturn, 1) := by decide +kernel
theorem dX12_change_23 : decode cX12_change 23 = .ok (.aload_n 0, 1) := by decide +kernel
theorem dX12_change_24 : decode cX12_change 24 = .ok (.getfield 224, 3) := by decide +kernel
theorem dX12_change_27 : decode cX12_change 27 = .ok (.ifCond .ne 12, 3) := by decide +kernel
theorem dX12_change_30 : decode cX12_change 30 = .ok (.aload_n 0, 1) := by decide +kernel
theorem dX12_change_31 : decode cX12_change 31 = .ok (.getfield 153, 3) := by decide +kernel
theorem dX12_change_34 : decode cX12_change 34 = .ok (.iload_n 1, 1) := by decide +kernel
theorem dX12_change_35 : decode cX12_change 35 = .ok (.baload, 1) := by decide +kernel
theorem dX12_change_36 : decode cX12_change 36 = .ok (.ifCond .eq 6, 3) := by decide +kernel
theorem dX12_change_39 : decode cX12_change 39 = .ok (.bipush (-4), 2) := by decide +kernel
theorem dX12_change_41 : decode cX12_change 41 = .ok (.ireturn, 1) := by decide +kernel
theorem dX12_change_42 : decode cX12_change 42 = .ok (.aload_n 0, 1) := by decide +kernel
theorem dX12_change_43 : decode cX12_change 43 = .ok (.getfield 138, 3) := by decide +kernel
theorem dX12_change_46 : decode cX12_change 46 = .ok (.iload_n 1, 1) := by decide +kernel
theorem dX12_change_47 : decode cX12_change 47 = .ok (.iload_n 2, 1) := by decide +kernel
theorem dX12_change_48 : decode cX12_change 48 = .ok (.iastore, 1) := by decide +kernel
theorem dX12_change_49 : decode cX12_change 49 = .ok (.iconst 0, 1) := by decide +kernel
theorem dX12_change_50 : decode cX12_change 50 = .ok (.istore_n 3, 1) := by decide +kernel
theorem dX12_change_51 : decode cX12_change 51 = .ok (.iload_n 3, 1) := by decide +kernel
theorem dX12_change_52 : decode cX12_change 52 = .ok (.aload_n 0, 1) := by decide +kernel
theorem dX12_change_53 : decode cX12_change 53 = .ok (.getfield 147, 3) := by decide +kernel
theorem dX12_change_56 : decode cX12_change 56 = .ok (.iload_n 1, 1) := by decide +kernel
theorem dX12_change_57 : decode cX12_change 57 = .ok (.iaload, 1) := by decide +kernel
theorem dX12_change_58 : decode cX12_change 58 = .ok (.if_icmp .ge 48, 3) := by decide +kernel
theorem dX12_change_61 : decode cX12_change 61 = .ok (.aload_n 0, 1) := by decide +kernel
theorem dX12_change_62 : decode cX12_change 62 = .ok (.iload_n 1, 1) := by decide +kernel
theorem dX12_change_63 : decode cX12_change 63 = .ok (.iload_n 3, 1) := by decide +kernel
theorem dX12_change_64 : decode cX12_change 64 = .ok (.invokevirtual 240, 3) := by decide +kernel
theorem dX12_change_67 : decode cX12_change 67 = .ok (.aload_n 0, 1) := by decide +kernel
theorem dX12_change_68 : decode cX12_change 68 = .ok (.getfield 230, 3) := by decide +kernel
theorem dX12_change_71 : decode cX12_change 71 = .ok (.if_icmp .le 29, 3) := by decide +kernel
theorem dX12_change_74 : decode cX12_change 74 = .ok (.aload_n 0, 1) := by decide +kernel
theorem dX12_change_75 : decode cX12_change 75 = .ok (.getfield 162, 3) := by decide +kernel
theorem dX12_change_78 : decode cX12_change 78 = .ok (.bipush 84, 2) := by decide +kernel
theorem dX12_change_80 : decode cX12_change 80 = .ok (.iload_n 1, 1) := by decide +kernel
theorem dX12_change_81 : decode cX12_change 81 = .ok (.imul, 1) := by decide +kernel
theorem dX12_change_82 : decode cX12_change 82 = .ok (.iload_n 3, 1) := by decide +kernel
theorem dX12_change_83 : decode cX12_change 83 = .ok (.iadd, 1) := by decide +kernel
theorem dX12_change_84 : decode cX12_change 84 = .ok (.iaload, 1) := by decide +kernel
theorem dX12_change_85 : decode cX12_change 85 = .ok (.ifCond .ne 15, 3) := by decide +kernel
theorem dX12_change_88 : decode cX12_change 88 = .ok (.aload_n 0, 1) := by decide +kernel
theorem dX12_change_89 : decode cX12_change 89 = .ok (.getfield 159, 3) := by decide +kernel
theorem dX12_change_92 : decode cX12_change 92 = .ok (.bipush 84, 2) := by decide +kernel
theorem dX12_change_94 : decode cX12_change 94 = .ok (.iload_n 1, 1) := by decide +kernel
theorem dX12_change_95 : decode cX12_change 95 = .ok (.imul, 1) := by decide +kernel
theorem dX12_change_96 : decode cX12_change 96 = .ok (.iload_n 3, 1) := by decide +kernel
theorem dX12_change_97 : decode cX12_change 97 = .ok (.iadd, 1) := by decide +kernel
theorem dX12_change_98 : decode cX12_change 98 = .ok (.iload_n 2, 1) := by decide +kernel
theorem dX12_change_99 : decode cX12_change 99 = .ok (.iastore, 1) := by decide +kernel
theorem dX12_change_100 : decode cX12_change 100 = .ok (.iinc 3 1, 3) := by decide +kernel
theorem dX12_change_103 : decode cX12_change 103 = .ok (.goto (-52), 3) := by decide +kernel
theorem dX12_change_106 : decode cX12_change 106 = .ok (.iconst 1, 1) := by decide +kernel
theorem dX12_change_107 : decode cX12_change 107 = .ok (.ireturn, 1) := by decide +kernel
theorem dX12_unfilled_0 : decode cX12_unfilled 0 = .ok (.iconst 0, 1) := by decide +kernel
theorem dX12_unfilled_1 : decode cX12_unfilled 1 = .ok (.istore_n 2, 1) := by decide +kernel
theorem dX12_unfilled_2 : decode cX12_unfilled 2 = .ok (.bipush 84, 2) := by decide +kernel
theorem dX12_unfilled_4 : decode cX12_unfilled 4 = .ok (.iload_n 1, 1) := by decide +kernel
theorem dX12_unfilled_5 : decode cX12_unfilled 5 = .ok (.imul, 1) := by decide +kernel
theorem dX12_unfilled_6 : decode cX12_unfilled 6 = .ok (.istore_n 3, 1) := by decide +kernel
theorem dX12_unfilled_7 : decode cX12_unfilled 7 = .ok (.iload_n 3, 1) := by decide +kernel
theorem dX12_unfilled_8 : decode cX12_unfilled 8 = .ok (.bipush 84, 2) := by decide +kernel
theorem dX12_unfilled_10 : decode cX12_unfilled 10 = .ok (.iload_n 1, 1) := by decide +kernel
theorem dX12_unfilled_11 : decode cX12_unfilled 11 = .ok (.imul, 1) := by decide +kernel
theorem dX12_unfilled_12 : decode cX12_unfilled 12 = .ok (.aload_n 0, 1) := by decide +kernel
theorem dX12_unfilled_13 : decode cX12_unfilled 13 = .ok (.getfield 147, 3) := by decide +kernel
theorem dX12_unfilled_16 : decode cX12_unfilled 16 = .ok (.iload_n 1, 1) := by decide +kernel
theorem dX12_unfilled_17 : decode cX12_unfilled 17 = .ok (.iaload, 1) := by decide +kernel
theorem dX12_unfilled_18 : decode cX12_unfilled 18 = .ok (.iadd, 1) := by decide +kernel
theorem dX12_unfilled_19 : decode cX12_unfilled 19 = .ok (.if_icmp .ge 38, 3) := by decide +kernel
theorem dX12_unfilled_22 : decode cX12_unfilled 22 = .ok (.iload_n 2, 1) := by decide +kernel
theorem dX12_unfilled_23 : decode cX12_unfilled 23 = .ok (.aload_n 0, 1) := by decide +kernel
theorem dX12_unfilled_24 : decode cX12_unfilled 24 = .ok (.getfield 165, 3) := by decide +kernel
theorem dX12_unfilled_27 : decode cX12_unfilled 27 = .ok (.iload_n 3, 1) := by decide +kernel
theorem dX12_unfilled_28 : decode cX12_unfilled 28 = .ok (.baload, 1) := by decide +kernel
theorem dX12_unfilled_29 : decode cX12_unfilled 29 = .ok (.ifCond .eq 19, 3) := by decide +kernel
theorem dX12_unfilled_32 : decode cX12_unfilled 32 = .ok (.aload_n 0, 1) := by decide +kernel
theorem dX12_unfilled_33 : decode cX12_unfilled 33 = .ok (.getfield 159, 3) := by decide +kernel
theorem dX12_unfilled_36 : decode cX12_unfilled 36 = .ok (.iload_n 3, 1) := by decide +kernel
theorem dX12_unfilled_37 : decode cX12_unfilled 37 = .ok (.iaload, 1) := by decide +kernel
theorem dX12_unfilled_38 : decode cX12_unfilled 38 = .ok (.aload_n 0, 1) := by decide +kernel
theorem dX12_unfilled_39 : decode cX12_unfilled 39 = .ok (.getfield 162, 3) := by decide +kernel
theorem dX12_unfilled_42 : decode cX12_unfilled 42 = .ok (.iload_n 3, 1) := by decide +kernel
theorem dX12_unfilled_43 : decode cX12_unfilled 43 = .ok (.iaload, 1) := by decide +kernel
theorem dX12_unfilled_44 : decode cX12_unfilled 44 = .ok (.isub, 1) := by decide +kernel
theorem dX12_unfilled_45 : decode cX12_unfilled 45 = .ok (.goto 4, 3) := by decide +kernel
theorem dX12_unfilled_48 : decode cX12_unfilled 48 = .ok (.iconst 0, 1) := by decide +kernel
theorem dX12_unfilled_49 : decode cX12_unfilled 49 = .ok (.iadd, 1) := by decide +kernel
theorem dX12_unfilled_50 : decode cX12_unfilled 50 = .ok (.istore_n 2, 1) := by decide +kernel
theorem dX12_unfilled_51 : decode cX12_unfilled 51 = .ok (.iinc 3 1, 3) := by decide +kernel
theorem dX12_unfilled_54 : decode cX12_unfilled 54 = .ok (.goto (-47), 3) := by decide +kernel
theorem dX12_unfilled_57 : decode cX12_unfilled 57 = .ok (.iload_n 2, 1) := by decide +kernel
theorem dX12_unfilled_58 : decode cX12_unfilled 58 = .ok (.ireturn, 1) := by decide +kernel
theorem dX12_come_0 : decode cX12_come 0 = .ok (.aload_n 0, 1) := by decide +kernel
theorem dX12_come_1 : decode cX12_come 1 = .ok (.getfield 171, 3) := by decide +kernel
theorem dX12_come_4 : decode cX12_come 4 = .ok (.aload_n 0, 1) := by decide +kernel
theorem dX12_come_5 : decode cX12_come 5 = .ok (.getfield 246, 3) := by decide +kernel
theorem dX12_come_8 : decode cX12_come 8 = .ok (.iload_n 1, 1) := by decide +kernel
theorem dX12_come_9 : decode cX12_come 9 = .ok (.iastore, 1) := by decide +kernel
theorem dX12_come_10 : decode cX12_come 10 = .ok (.aload_n 0, 1) := by decide +kernel
theorem dX12_come_11 : decode cX12_come 11 = .ok (.getfield 174, 3) := by decide +kernel
theorem dX12_come_14 : decode cX12_come 14 = .ok (.aload_n 0, 1) := by decide +kernel
theorem dX12_come_15 : decode cX12_come 15 = .ok (.getfield 246, 3) := by decide +kernel
theorem dX12_come_18 : decode cX12_come 18 = .ok (.aload_n 0, 1) := by decide +kernel
theorem dX12_come_19 : decode cX12_come 19 = .ok (.getfield 230, 3) := by decide +kernel
theorem dX12_come_22 : decode cX12_come 22 = .ok (.iastore, 1) := by decide +kernel
theorem dX12_come_23 : decode cX12_come 23 = .ok (.aload_n 0, 1) := by decide +kernel
theorem dX12_come_24 : decode cX12_come 24 = .ok (.getfield 177, 3) := by decide +kernel
theorem dX12_come_27 : decode cX12_come 27 = .ok (.aload_n 0, 1) := by decide +kernel
theorem dX12_come_28 : decode cX12_come 28 = .ok (.getfield 246, 3) := by decide +kernel
theorem dX12_come_31 : decode cX12_come 31 = .ok (.iload_n 2, 1) := by decide +kernel
theorem dX12_come_32 : decode cX12_come 32 = .ok (.iastore, 1) := by decide +kernel
theorem dX12_come_33 : decode cX12_come 33 = .ok (.aload_n 0, 1) := by decide +kernel
theorem dX12_come_34 : decode cX12_come 34 = .ok (.getfield 180, 3) := by decide +kernel
theorem dX12_come_37 : decode cX12_come 37 = .ok (.aload_n 0, 1) := by decide +kernel
theorem dX12_come_38 : decode cX12_come 38 = .ok (.getfield 246, 3) := by decide +kernel
theorem dX12_come_41 : decode cX12_come 41 = .ok (.iconst 0, 1) := by decide +kernel
theorem dX12_come_42 : decode cX12_come 42 = .ok (.bastore, 1) := by decide +kernel
theorem dX12_come_43 : decode cX12_come 43 = .ok (.aload_n 0, 1) := by decide +kernel
theorem dX12_come_44 : decode cX12_come 44 = .ok (.dup, 1) := by decide +kernel
theorem dX12_come_45 : decode cX12_come 45 = .ok (.getfield 246, 3) := by decide +kernel
theorem dX12_come_48 : decode cX12_come 48 = .ok (.iconst 1, 1) := by decide +kernel
theorem dX12_come_49 : decode cX12_come 49 = .ok (.iadd, 1) := by decide +kernel
theorem dX12_come_50 : decode cX12_come 50 = .ok (.putfield 246, 3) := by decide +kernel
theorem dX12_come_53 : decode cX12_come 53 = .ok (.aload_n 0, 1) := by decide +kernel
theorem dX12_come_54 : decode cX12_come 54 = .ok (.getfield 126, 3) := by decide +kernel
theorem dX12_come_57 : decode cX12_come 57 = .ok (.iload_n 1, 1) := by decide +kernel
theorem dX12_come_58 : decode cX12_come 58 = .ok (.dup2, 1) := by decide +kernel
theorem dX12_come_59 : decode cX12_come 59 = .ok (.iaload, 1) := by decide +kernel
theorem dX12_come_60 : decode cX12_come 60 = .ok (.iload_n 2, 1) := by decide +kernel
theorem dX12_come_61 : decode cX12_come 61 = .ok (.iadd, 1) := by decide +kernel
theorem dX12_come_62 : decode cX12_come 62 = .ok (.iastore, 1) := by decide +kernel
theorem dX12_come_63 : decode cX12_come 63 = .ok (.aload_n 0, 1) := by decide +kernel
theorem dX12_come_64 : decode cX12_come 64 = .ok (.getfield 230, 3) := by decide +kernel
theorem dX12_come_67 : decode cX12_come 67 = .ok (.aload_n 0, 1) := by decide +kernel
theorem dX12_come_68 : decode cX12_come 68 = .ok (.getfield 114, 3) := by decide +kernel
theorem dX12_come_71 : decode cX12_come 71 = .ok (.iconst 2, 1) := by decide +kernel
theorem dX12_come_72 : decode cX12_come 72 = .ok (.iaload, 1) := by decide +kernel
theorem dX12_come_73 : decode cX12_come 73 = .ok (.if_icmp .le 7, 3) := by decide +kernel
theorem dX12_come_76 : decode cX12_come 76 = .ok (.iconst 0, 1) := by decide +kernel
theorem dX12_come_77 : decode cX12_come 77 = .ok (.goto 18, 3) := by decide +kernel
theorem dX12_come_80 : decode cX12_come 80 = .ok (.aload_n 0, 1) := by decide +kernel
theorem dX12_come_81 : decode cX12_come 81 = .ok (.getfield 114, 3) := by decide +kernel
theorem dX12_come_84 : decode cX12_come 84 = .ok (.iconst 0, 1) := by decide +kernel
theorem dX12_come_85 : decode cX12_come 85 = .ok (.iaload, 1) := by decide +kernel
theorem dX12_come_86 : decode cX12_come 86 = .ok (.i2l, 1) := by decide +kernel
theorem dX12_come_87 : decode cX12_come 87 = .ok (.iload_n 2, 1) := by decide +kernel
theorem dX12_come_88 : decode cX12_come 88 = .ok (.i2l, 1) := by decide +kernel
theorem dX12_come_89 : decode cX12_come 89 = .ok (.lmul, 1) := by decide +kernel
theorem dX12_come_90 : decode cX12_come 90 = .ok (.ldc2_w 249, 3) := by decide +kernel
theorem dX12_come_93 : decode cX12_come 93 = .ok (.ldiv, 1) := by decide +kernel
theorem dX12_come_94 : decode cX12_come 94 = .ok (.l2i, 1) := by decide +kernel
theorem dX12_come_95 : decode cX12_come 95 = .ok (.istore_n 3, 1) := by decide +kernel
theorem dX12_come_96 : decode cX12_come 96 = .ok (.iconst 0, 1) := by decide +kernel
theorem dX12_come_97 : decode cX12_come 97 = .ok (.iload_n 3, 1) := by decide +kernel
theorem dX12_come_98 : decode cX12_come 98 = .ok (.bipush 100, 2) := by decide +kernel
theorem dX12_come_100 : decode cX12_come 100 = .ok (.aload_n 0, 1) := by decide +kernel
theorem dX12_come_101 : decode cX12_come 101 = .ok (.getfield 114, 3) := by decide +kernel
theorem dX12_come_104 : decode cX12_come 104 = .ok (.iconst 1, 1) := by decide +kernel
theorem dX12_come_105 : decode cX12_come 105 = .ok (.iaload, 1) := by decide +kernel
theorem dX12_come_106 : decode cX12_come 106 = .ok (.imul, 1) := by decide +kernel
theorem dX12_come_107 : decode cX12_come 107 = .ok (.aload_n 0, 1) := by decide +kernel
theorem dX12_come_108 : decode cX12_come 108 = .ok (.getfield 251, 3) := by decide +kernel
theorem dX12_come_111 : decode cX12_come 111 = .ok (.isub, 1) := by decide +kernel
theorem dX12_come_112 : decode cX12_come 112 = .ok (.invokestatic 254, 3) := by decide +kernel
theorem dX12_come_115 : decode cX12_come 115 = .ok (.invokestatic 259, 3) := by decide +kernel
theorem dX12_come_118 : decode cX12_come 118 = .ok (.istore_n 3, 1) := by decide +kernel
theorem dX12_come_119 : decode cX12_come 119 = .ok (.aload_n 0, 1) := by decide +kernel
theorem dX12_come_120 : decode cX12_come 120 = .ok (.dup, 1) := by decide +kernel
theorem dX12_come_121 : decode cX12_come 121 = .ok (.getfield 251, 3) := by decide +kernel
theorem dX12_come_124 : decode cX12_come 124 = .ok (.iload_n 3, 1) := by decide +kernel
theorem dX12_come_125 : decode cX12_come 125 = .ok (.iadd, 1) := by decide +kernel
theorem dX12_come_126 : decode cX12_come 126 = .ok (.putfield 251, 3) := by decide +kernel
theorem dX12_come_129 : decode cX12_come 129 = .ok (.aload_n 0, 1) := by decide +kernel
theorem dX12_come_130 : decode cX12_come 130 = .ok (.dup, 1) := by decide +kernel
theorem dX12_come_131 : decode cX12_come 131 = .ok (.getfield 262, 3) := by decide +kernel
theorem dX12_come_134 : decode cX12_come 134 = .ok (.iload_n 2, 1) := by decide +kernel
theorem dX12_come_135 : decode cX12_come 135 = .ok (.iload_n 3, 1) := by decide +kernel
theorem dX12_come_136 : decode cX12_come 136 = .ok (.iadd, 1) := by decide +kernel
theorem dX12_come_137 : decode cX12_come 137 = .ok (.iadd, 1) := by decide +kernel
theorem dX12_come_138 : decode cX12_come 138 = .ok (.putfield 262, 3) := by decide +kernel
theorem dX12_come_141 : decode cX12_come 141 = .ok (.iload_n 3, 1) := by decide +kernel
theorem dX12_come_142 : decode cX12_come 142 = .ok (.ireturn, 1) := by decide +kernel
theorem dX12_pay_0 : decode cX12_pay 0 = .ok (.aload_n 0, 1) := by decide +kernel
theorem dX12_pay_1 : decode cX12_pay 1 = .ok (.iload_n 1, 1) := by decide +kernel
theorem dX12_pay_2 : decode cX12_pay 2 = .ok (.invokevirtual 243, 3) := by decide +kernel
theorem dX12_pay_5 : decode cX12_pay 5 = .ok (.ifCond .eq 15, 3) := by decide +kernel
theorem dX12_pay_8 : decode cX12_pay 8 = .ok (.iload_n 2, 1) := by decide +kernel
theorem dX12_pay_9 : decode cX12_pay 9 = .ok (.i2l, 1) := by decide +kernel
theorem dX12_pay_10 : decode cX12_pay 10 = .ok (.lconst 1, 1) := by decide +kernel
theorem dX12_pay_11 : decode cX12_pay 11 = .ok (.ldc2_w 265, 3) := by decide +kernel
theorem dX12_pay_14 : decode cX12_pay 14 = .ok (.invokestatic 58, 3) := by decide +kernel
theorem dX12_pay_17 : decode cX12_pay 17 = .ok (.ifCond .ne 6, 3) := by decide +kernel
theorem dX12_pay_20 : decode cX12_pay 20 = .ok (.bipush (-2), 2) := by decide +kernel
theorem dX12_pay_22 : decode cX12_pay 22 = .ok (.ireturn, 1) := by decide +kernel
theorem dX12_pay_23 : decode cX12_pay 23 = .ok (.aload_n 0, 1) := by decide +kernel
theorem dX12_pay_24 : decode cX12_pay 24 = .ok (.getfield 153, 3) := by decide +kernel
theorem dX12_pay_27 : decode cX12_pay 27 = .ok (.iload_n 1, 1) := by decide +kernel
theorem dX12_pay_28 : decode cX12_pay 28 = .ok (.baload, 1) := by decide +kernel
theorem dX12_pay_29 : decode cX12_pay 29 = .ok (.ifCond .eq 6, 3) := by decide +kernel
theorem dX12_pay_32 : decode cX12_pay 32 = .ok (.bipush (-4), 2) := by decide +kernel
theorem dX12_pay_34 : decode cX12_pay 34 = .ok (.ireturn, 1) := by decide +kernel
theorem dX12_pay_35 : decode cX12_pay 35 = .ok (.iload_n 2, 1) := by decide +kernel
theorem dX12_pay_36 : decode cX12_pay 36 = .ok (.aload_n 0, 1) := by decide +kernel
theorem dX12_pay_37 : decode cX12_pay 37 = .ok (.iload_n 1, 1) := by decide +kernel
theorem dX12_pay_38 : decode cX12_pay 38 = .ok (.invokevirtual 267, 3) := by decide +kernel
theorem dX12_pay_41 : decode cX12_pay 41 = .ok (.if_icmp .le 6, 3) := by decide +kernel
theorem dX12_pay_44 : decode cX12_pay 44 = .ok (.bipush (-2), 2) := by decide +kernel
theorem dX12_pay_46 : decode cX12_pay 46 = .ok (.ireturn, 1) := by decide +kernel
theorem dX12_pay_47 : decode cX12_pay 47 = .ok (.aload_n 0, 1) := by decide +kernel
theorem dX12_pay_48 : decode cX12_pay 48 = .ok (.getfield 224, 3) := by decide +kernel
theorem dX12_pay_51 : decode cX12_pay 51 = .ok (.ifCond .eq 6, 3) := by decide +kernel
theorem dX12_pay_54 : decode cX12_pay 54 = .ok (.bipush (-4), 2) := by decide +kernel
theorem dX12_pay_56 : decode cX12_pay 56 = .ok (.ireturn, 1) := by decide +kernel
theorem dX12_pay_57 : decode cX12_pay 57 = .ok (.aload_n 0, 1) := by decide +kernel
theorem dX12_pay_58 : decode cX12_pay 58 = .ok (.getfield 246, 3) := by decide +kernel
theorem dX12_pay_61 : decode cX12_pay 61 = .ok (.sipush 250, 3) := by decide +kernel
theorem dX12_pay_64 : decode cX12_pay 64 = .ok (.if_icmp .ne 6, 3) := by decide +kernel
theorem dX12_pay_67 : decode cX12_pay 67 = .ok (.bipush (-3), 2) := by decide +kernel
theorem dX12_pay_69 : decode cX12_pay 69 = .ok (.ireturn, 1) := by decide +kernel
theorem dX12_pay_70 : decode cX12_pay 70 = .ok (.iload_n 2, 1) := by decide +kernel
theorem dX12_pay_71 : decode cX12_pay 71 = .ok (.istore_n 3, 1) := by decide +kernel
theorem dX12_pay_72 : decode cX12_pay 72 = .ok (.bipush 84, 2) := by decide +kernel
theorem dX12_pay_74 : decode cX12_pay 74 = .ok (.iload_n 1, 1) := by decide +kernel
theorem dX12_pay_75 : decode cX12_pay 75 = .ok (.imul, 1) := by decide +kernel
theorem dX12_pay_76 : decode cX12_pay 76 = .ok (.istore 4, 2) := by decide +kernel
theorem dX12_pay_78 : decode cX12_pay 78 = .ok (.iload 4, 2) := by decide +kernel
theorem dX12_pay_80 : decode cX12_pay 80 = .ok (.bipush 84, 2) := by decide +kernel
theorem dX12_pay_82 : decode cX12_pay 82 = .ok (.iload_n 1, 1) := by decide +kernel
theorem dX12_pay_83 : decode cX12_pay 83 = .ok (.imul, 1) := by decide +kernel
theorem dX12_pay_84 : decode cX12_pay 84 = .ok (.aload_n 0, 1) := by decide +kernel
theorem dX12_pay_85 : decode cX12_pay 85 = .ok (.getfield 147, 3) := by decide +kernel
theorem dX12_pay_88 : decode cX12_pay 88 = .ok (.iload_n 1, 1) := by decide +kernel
theorem dX12_pay_89 : decode cX12_pay 89 = .ok (.iaload, 1) := by decide +kernel
theorem dX12_pay_90 : decode cX12_pay 90 = .ok (.iadd, 1) := by decide +kernel
theorem dX12_pay_91 : decode cX12_pay 91 = .ok (.if_icmp .ge 60, 3) := by decide +kernel
theorem dX12_pay_94 : decode cX12_pay 94 = .ok (.aload_n 0, 1) := by decide +kernel
theorem dX12_pay_95 : decode cX12_pay 95 = .ok (.getfield 165, 3) := by decide +kernel
theorem dX12_pay_98 : decode cX12_pay 98 = .ok (.iload 4, 2) := by decide +kernel
theorem dX12_pay_100 : decode cX12_pay 100 = .ok (.baload, 1) := by decide +kernel
theorem dX12_pay_101 : decode cX12_pay 101 = .ok (.ifCond .ne 6, 3) := by decide +kernel
theorem dX12_pay_104 : decode cX12_pay 104 = .ok (.goto 41, 3) := by decide +kernel
theorem dX12_pay_107 : decode cX12_pay 107 = .ok (.iload_n 3, 1) := by decide +kernel
theorem dX12_pay_108 : decode cX12_pay 108 = .ok (.aload_n 0, 1) := by decide +kernel
theorem dX12_pay_109 : decode cX12_pay 109 = .ok (.getfield 159, 3) := by decide +kernel
theorem dX12_pay_112 : decode cX12_pay 112 = .ok (.iload 4, 2) := by decide +kernel
theorem dX12_pay_114 : decode cX12_pay 114 = .ok (.iaload, 1) := by decide +kernel
theorem dX12_pay_115 : decode cX12_pay 115 = .ok (.aload_n 0, 1) := by decide +kernel
theorem dX12_pay_116 : decode cX12_pay 116 = .ok (.getfield 162, 3) := by decide +kernel
theorem dX12_pay_119 : decode cX12_pay 119 = .ok (.iload 4, 2) := by decide +kernel
theorem dX12_pay_121 : decode cX12_pay 121 = .ok (.iaload, 1) := by decide +kernel
theorem dX12_pay_122 : decode cX12_pay 122 = .ok (.isub, 1) := by decide +kernel
theorem dX12_pay_123 : decode cX12_pay 123 = .ok (.invokestatic 254, 3) := by decide +kernel
theorem dX12_pay_126 : decode cX12_pay 126 = .ok (.istore 5, 2) := by decide +kernel
theorem dX12_pay_128 : decode cX12_pay 128 = .ok (.aload_n 0, 1) := by decide +kernel
theorem dX12_pay_129 : decode cX12_pay 129 = .ok (.getfield 162, 3) := by decide +kernel
theorem dX12_pay_132 : decode cX12_pay 132 = .ok (.iload 4, 2) := by decide +kernel
theorem dX12_pay_134 : decode cX12_pay 134 = .ok (.dup2, 1) := by decide +kernel
theorem dX12_pay_135 : decode cX12_pay 135 = .ok (.iaload, 1) := by decide +kernel
theorem dX12_pay_136 : decode cX12_pay 136 = .ok (.iload 5, 2) := by decide +kernel
theorem dX12_pay_138 : decode cX12_pay 138 = .ok (.iadd, 1) := by decide +kernel
theorem dX12_pay_139 : decode cX12_pay 139 = .ok (.iastore, 1) := by decide +kernel
theorem dX12_pay_140 : decode cX12_pay 140 = .ok (.iload_n 3, 1) := by decide +kernel
theorem dX12_pay_141 : decode cX12_pay 141 = .ok (.iload 5, 2) := by decide +kernel
theorem dX12_pay_143 : decode cX12_pay 143 = .ok (.isub, 1) := by decide +kernel
theorem dX12_pay_144 : decode cX12_pay 144 = .ok (.istore_n 3, 1) := by decide +kernel
theorem dX12_pay_145 : decode cX12_pay 145 = .ok (.iinc 4 1, 3) := by decide +kernel
theorem dX12_pay_148 : decode cX12_pay 148 = .ok (.goto (-70), 3) := by decide +kernel
theorem dX12_pay_151 : decode cX12_pay 151 = .ok (.aload_n 0, 1) := by decide +kernel
theorem dX12_pay_152 : decode cX12_pay 152 = .ok (.aload_n 0, 1) := by decide +kernel
theorem dX12_pay_153 : decode cX12_pay 153 = .ok (.getfield 135, 3) := by decide +kernel
theorem dX12_pay_156 : decode cX12_pay 156 = .ok (.iload_n 1, 1) := by decide +kernel
theorem dX12_pay_157 : decode cX12_pay 157 = .ok (.iaload, 1) := by decide +kernel
theorem dX12_pay_158 : decode cX12_pay 158 = .ok (.iload_n 2, 1) := by decide +kernel
theorem dX12_pay_159 : decode cX12_pay 159 = .ok (.invokevirtual 270, 3) := by decide +kernel
theorem dX12_pay_162 : decode cX12_pay 162 = .ok (.ireturn, 1) := by decide +kernel
theorem dX12_gift_0 : decode cX12_gift 0 = .ok (.iload_n 1, 1) := by decide +kernel
theorem dX12_gift_1 : decode cX12_gift 1 = .ok (.invokestatic 218, 3) := by decide +kernel
theorem dX12_gift_4 : decode cX12_gift 4 = .ok (.ifCond .eq 15, 3) := by decide +kernel
theorem dX12_gift_7 : decode cX12_gift 7 = .ok (.iload_n 2, 1) := by decide +kernel
theorem dX12_gift_8 : decode cX12_gift 8 = .ok (.i2l, 1) := by decide +kernel
theorem dX12_gift_9 : decode cX12_gift 9 = .ok (.lconst 1, 1) := by decide +kernel
theorem dX12_gift_10 : decode cX12_gift 10 = .ok (.ldc2_w 265, 3) := by decide +kernel
theorem dX12_gift_13 : decode cX12_gift 13 = .ok (.invokestatic 58, 3) := by decide +kernel
theorem dX12_gift_16 : decode cX12_gift 16 = .ok (.ifCond .ne 6, 3) := by decide +kernel
theorem dX12_gift_19 : decode cX12_gift 19 = .ok (.bipush (-2), 2) := by decide +kernel
theorem dX12_gift_21 : decode cX12_gift 21 = .ok (.ireturn, 1) := by decide +kernel
theorem dX12_gift_22 : decode cX12_gift 22 = .ok (.aload_n 0, 1) := by decide +kernel
theorem dX12_gift_23 : decode cX12_gift 23 = .ok (.getfield 224, 3) := by decide +kernel
theorem dX12_gift_26 : decode cX12_gift 26 = .ok (.ifCond .eq 6, 3) := by decide +kernel
theorem dX12_gift_29 : decode cX12_gift 29 = .ok (.bipush (-4), 2) := by decide +kernel
theorem dX12_gift_31 : decode cX12_gift 31 = .ok (.ireturn, 1) := by decide +kernel
theorem dX12_gift_32 : decode cX12_gift 32 = .ok (.aload_n 0, 1) := by decide +kernel
theorem dX12_gift_33 : decode cX12_gift 33 = .ok (.getfield 246, 3) := by decide +kernel
theorem dX12_gift_36 : decode cX12_gift 36 = .ok (.sipush 250, 3) := by decide +kernel
theorem dX12_gift_39 : decode cX12_gift 39 = .ok (.if_icmp .ne 8, 3) := by decide +kernel
theorem dX12_gift_42 : decode cX12_gift 42 = .ok (.bipush (-3), 2) := by decide +kernel
theorem dX12_gift_44 : decode cX12_gift 44 = .ok (.goto 9, 3) := by decide +kernel
theorem dX12_gift_47 : decode cX12_gift 47 = .ok (.aload_n 0, 1) := by decide +kernel
theorem dX12_gift_48 : decode cX12_gift 48 = .ok (.iload_n 1, 1) := by decide +kernel
theorem dX12_gift_49 : decode cX12_gift 49 = .ok (.iload_n 2, 1) := by decide +kernel
theorem dX12_gift_50 : decode cX12_gift 50 = .ok (.invokevirtual 270, 3) := by decide +kernel
theorem dX12_gift_53 : decode cX12_gift 53 = .ok (.ireturn, 1) := by decide +kernel
theorem dX12_toCome_0 : decode cX12_toCome 0 = .ok (.iconst 0, 1) := by decide +kernel
theorem dX12_toCome_1 : decode cX12_toCome 1 = .ok (.istore_n 2, 1) := by decide +kernel
theorem dX12_toCome_2 : decode cX12_toCome 2 = .ok (.iconst 0, 1) := by decide +kernel
theorem dX12_toCome_3 : decode cX12_toCome 3 = .ok (.istore_n 3, 1) := by decide +kernel
theorem dX12_toCome_4 : decode cX12_toCome 4 = .ok (.iload_n 3, 1) := by decide +kernel
theorem dX12_toCome_5 : decode cX12_toCome 5 = .ok (.aload_n 0, 1) := by decide +kernel
theorem dX12_toCome_6 : decode cX12_toCome 6 = .ok (.getfield 147, 3) := by decide +kernel
theorem dX12_toCome_9 : decode cX12_toCome 9 = .ok (.iload_n 1, 1) := by decide +kernel
theorem dX12_toCome_10 : decode cX12_toCome 10 = .ok (.iaload, 1) := by decide +kernel
theorem dX12_toCome_11 : decode cX12_toCome 11 = .ok (.if_icmp .ge 44, 3) := by decide +kernel
theorem dX12_toCome_14 : decode cX12_toCome 14 = .ok (.iload_n 2, 1) := by decide +kernel
theorem dX12_toCome_15 : decode cX12_toCome 15 = .ok (.aload_n 0, 1) := by decide +kernel
theorem dX12_toCome_16 : decode cX12_toCome 16 = .ok (.getfield 165, 3) := by decide +kernel
theorem dX12_toCome_19 : decode cX12_toCome 19 = .ok (.bipush 84, 2) := by decide +kernel
theorem dX12_toCome_21 : decode cX12_toCome 21 = .ok (.iload_n 1, 1) := by decide +kernel
theorem dX12_toCome_22 : decode cX12_toCome 22 = .ok (.imul, 1) := by decide +kernel
theorem dX12_toCome_23 : decode cX12_toCome 23 = .ok (.iload_n 3, 1) := by decide +kernel
theorem dX12_toCome_24 : decode cX12_toCome 24 = .ok (.iadd, 1) := by decide +kernel
theorem dX12_toCome_25 : decode cX12_toCome 25 = .ok (.baload, 1) := by decide +kernel
theorem dX12_toCome_26 : decode cX12_toCome 26 = .ok (.ifCond .eq 20, 3) := by decide +kernel
theorem dX12_toCome_29 : decode cX12_toCome 29 = .ok (.aload_n 0, 1) := by decide +kernel
theorem dX12_toCome_30 : decode cX12_toCome 30 = .ok (.iload_n 1, 1) := by decide +kernel
theorem dX12_toCome_31 : decode cX12_toCome 31 = .ok (.iload_n 3, 1) := by decide +kernel
theorem dX12_toCome_32 : decode cX12_toCome 32 = .ok (.invokevirtual 240, 3) := by decide +kernel
theorem dX12_toCome_35 : decode cX12_toCome 35 = .ok (.aload_n 0, 1) := by decide +kernel
theorem dX12_toCome_36 : decode cX12_toCome 36 = .ok (.getfield 230, 3) := by decide +kernel
theorem dX12_toCome_39 : decode cX12_toCome 39 = .ok (.if_icmp .le 7, 3) := by decide +kernel
theorem dX12_toCome_42 : decode cX12_toCome 42 = .ok (.iconst 1, 1) := by decide +kernel
theorem dX12_toCome_43 : decode cX12_toCome 43 = .ok (.goto 4, 3) := by decide +kernel
theorem dX12_toCome_46 : decode cX12_toCome 46 = .ok (.iconst 0, 1) := by decide +kernel
theorem dX12_toCome_47 : decode cX12_toCome 47 = .ok (.iadd, 1) := by decide +kernel
theorem dX12_toCome_48 : decode cX12_toCome 48 = .ok (.istore_n 2, 1) := by decide +kernel
theorem dX12_toCome_49 : decode cX12_toCome 49 = .ok (.iinc 3 1, 3) := by decide +kernel
theorem dX12_toCome_52 : decode cX12_toCome 52 = .ok (.goto (-48), 3) := by decide +kernel
theorem dX12_toCome_55 : decode cX12_toCome 55 = .ok (.iload_n 2, 1) := by decide +kernel
theorem dX12_toCome_56 : decode cX12_toCome 56 = .ok (.ireturn, 1) := by decide +kernel
theorem dX12_takeUp_0 : decode cX12_takeUp 0 = .ok (.aload_n 0, 1) := by decide +kernel
theorem dX12_takeUp_1 : decode cX12_takeUp 1 = .ok (.iload_n 1, 1) := by decide +kernel
theorem dX12_takeUp_2 : decode cX12_takeUp 2 = .ok (.invokevirtual 243, 3) := by decide +kernel
theorem dX12_takeUp_5 : decode cX12_takeUp 5 = .ok (.ifCond .ne 6, 3) := by decide +kernel
theorem dX12_takeUp_8 : decode cX12_takeUp 8 = .ok (.bipush (-2), 2) := by decide +kernel
theorem dX12_takeUp_10 : decode cX12_takeUp 10 = .ok (.ireturn, 1) := by decide +kernel
theorem dX12_takeUp_11 : decode cX12_takeUp 11 = .ok (.aload_n 0, 1) := by decide +kernel
theorem dX12_takeUp_12 : decode cX12_takeUp 12 = .ok (.getfield 224, 3) := by decide +kernel
theorem dX12_takeUp_15 : decode cX12_takeUp 15 = .ok (.ifCond .ne 21, 3) := by decide +kernel
theorem dX12_takeUp_18 : decode cX12_takeUp 18 = .ok (.aload_n 0, 1) := by decide +kernel
theorem dX12_takeUp_19 : decode cX12_takeUp 19 = .ok (.getfield 153, 3) := by decide +kernel
theorem dX12_takeUp_22 : decode cX12_takeUp 22 = .ok (.iload_n 1, 1) := by decide +kernel
theorem dX12_takeUp_23 : decode cX12_takeUp 23 = .ok (.baload, 1) := by decide +kernel
theorem dX12_takeUp_24 : decode cX12_takeUp 24 = .ok (.ifCond .eq 12, 3) := by decide +kernel
theorem dX12_takeUp_27 : decode cX12_takeUp 27 = .ok (.aload_n 0, 1) := by decide +kernel
theorem dX12_takeUp_28 : decode cX12_takeUp 28 = .ok (.getfield 156, 3) := by decide +kernel
theorem dX12_takeUp_31 : decode cX12_takeUp 31 = .ok (.iload_n 1, 1) := by decide +kernel
theorem dX12_takeUp_32 : decode cX12_takeUp 32 = .ok (.baload, 1) := by decide +kernel
theorem dX12_takeUp_33 : decode cX12_takeUp 33 = .ok (.ifCond .eq 6, 3) := by decide +kernel
theorem dX12_takeUp_36 : decode cX12_takeUp 36 = .ok (.bipush (-4), 2) := by decide +kernel
theorem dX12_takeUp_38 : decode cX12_takeUp 38 = .ok (.ireturn, 1) := by decide +kernel
theorem dX12_takeUp_39 : decode cX12_takeUp 39 = .ok (.aload_n 0, 1) := by decide +kernel
theorem dX12_takeUp_40 : decode cX12_takeUp 40 = .ok (.getfield 153, 3) := by decide +kernel
theorem dX12_takeUp_43 : decode cX12_takeUp 43 = .ok (.iload_n 1, 1) := by decide +kernel
theorem dX12_takeUp_44 : decode cX12_takeUp 44 = .ok (.iconst 0, 1) := by decide +kernel
theorem dX12_takeUp_45 : decode cX12_takeUp 45 = .ok (.bastore, 1) := by decide +kernel
theorem dX12_takeUp_46 : decode cX12_takeUp 46 = .ok (.aload_n 0, 1) := by decide +kernel
theorem dX12_takeUp_47 : decode cX12_takeUp 47 = .ok (.getfield 156, 3) := by decide +kernel
theorem dX12_takeUp_50 : decode cX12_takeUp 50 = .ok (.iload_n 1, 1) := by decide +kernel
theorem dX12_takeUp_51 : decode cX12_takeUp 51 = .ok (.iconst 1, 1) := by decide +kernel
theorem dX12_takeUp_52 : decode cX12_takeUp 52 = .ok (.bastore, 1) := by decide +kernel
theorem dX12_takeUp_53 : decode cX12_takeUp 53 = .ok (.iconst 0, 1) := by decide +kernel
theorem dX12_takeUp_54 : decode cX12_takeUp 54 = .ok (.istore_n 2, 1) := by decide +kernel
theorem dX12_takeUp_55 : decode cX12_takeUp 55 = .ok (.iload_n 2, 1) := by decide +kernel
theorem dX12_takeUp_56 : decode cX12_takeUp 56 = .ok (.aload_n 0, 1) := by decide +kernel
theorem dX12_takeUp_57 : decode cX12_takeUp 57 = .ok (.getfield 147, 3) := by decide +kernel
theorem dX12_takeUp_60 : decode cX12_takeUp 60 = .ok (.iload_n 1, 1) := by decide +kernel
theorem dX12_takeUp_61 : decode cX12_takeUp 61 = .ok (.iaload, 1) := by decide +kernel
theorem dX12_takeUp_62 : decode cX12_takeUp 62 = .ok (.if_icmp .ge 59, 3) := by decide +kernel
theorem dX12_takeUp_65 : decode cX12_takeUp 65 = .ok (.aload_n 0, 1) := by decide +kernel
theorem dX12_takeUp_66 : decode cX12_takeUp 66 = .ok (.iload_n 1, 1) := by decide +kernel
theorem dX12_takeUp_67 : decode cX12_takeUp 67 = .ok (.iload_n 2, 1) := by decide +kernel
theorem dX12_takeUp_68 : decode cX12_takeUp 68 = .ok (.invokevirtual 240, 3) := by decide +kernel
theorem dX12_takeUp_71 : decode cX12_takeUp 71 = .ok (.i2l, 1) := by decide +kernel
theorem dX12_takeUp_72 : decode cX12_takeUp 72 = .ok (.aload_n 0, 1) := by decide +kernel
theorem dX12_takeUp_73 : decode cX12_takeUp 73 = .ok (.getfield 230, 3) := by decide +kernel
theorem dX12_takeUp_76 : decode cX12_takeUp 76 = .ok (.i2l, 1) := by decide +kernel
theorem dX12_takeUp_77 : decode cX12_takeUp 77 = .ok (.lconst 1, 1) := by decide +kernel
theorem dX12_takeUp_78 : decode cX12_takeUp 78 = .ok (.ladd, 1) := by decide +kernel
theorem dX12_takeUp_79 : decode cX12_takeUp 79 = .ok (.ldc2_w 216, 3) := by decide +kernel
theorem dX12_takeUp_82 : decode cX12_takeUp 82 = .ok (.invokestatic 58, 3) := by decide +kernel
theorem dX12_takeUp_85 : decode cX12_takeUp 85 = .ok (.ifCond .ne 6, 3) := by decide +kernel
theorem dX12_takeUp_88 : decode cX12_takeUp 88 = .ok (.goto 27, 3) := by decide +kernel
theorem dX12_takeUp_91 : decode cX12_takeUp 91 = .ok (.aload_n 0, 1) := by decide +kernel
theorem dX12_takeUp_92 : decode cX12_takeUp 92 = .ok (.getfield 165, 3) := by decide +kernel
theorem dX12_takeUp_95 : decode cX12_takeUp 95 = .ok (.bipush 84, 2) := by decide +kernel
theorem dX12_takeUp_97 : decode cX12_takeUp 97 = .ok (.iload_n 1, 1) := by decide +kernel
theorem dX12_takeUp_98 : decode cX12_takeUp 98 = .ok (.imul, 1) := by decide +kernel
theorem dX12_takeUp_99 : decode cX12_takeUp 99 = .ok (.iload_n 2, 1) := by decide +kernel
theorem dX12_takeUp_100 : decode cX12_takeUp 100 = .ok (.iadd, 1) := by decide +kernel
theorem dX12_takeUp_101 : decode cX12_takeUp 101 = .ok (.iconst 1, 1) := by decide +kernel
theorem dX12_takeUp_102 : decode cX12_takeUp 102 = .ok (.bastore, 1) := by decide +kernel
theorem dX12_takeUp_103 : decode cX12_takeUp 103 = .ok (.aload_n 0, 1) := by decide +kernel
theorem dX12_takeUp_104 : decode cX12_takeUp 104 = .ok (.getfield 168, 3) := by decide +kernel
theorem dX12_takeUp_107 : decode cX12_takeUp 107 = .ok (.bipush 84, 2) := by decide +kernel
theorem dX12_takeUp_109 : decode cX12_takeUp 109 = .ok (.iload_n 1, 1) := by decide +kernel
theorem dX12_takeUp_110 : decode cX12_takeUp 110 = .ok (.imul, 1) := by decide +kernel
theorem dX12_takeUp_111 : decode cX12_takeUp 111 = .ok (.iload_n 2, 1) := by decide +kernel
theorem dX12_takeUp_112 : decode cX12_takeUp 112 = .ok (.iadd, 1) := by decide +kernel
theorem dX12_takeUp_113 : decode cX12_takeUp 113 = .ok (.iconst 1, 1) := by decide +kernel
theorem dX12_takeUp_114 : decode cX12_takeUp 114 = .ok (.bastore, 1) := by decide +kernel
theorem dX12_takeUp_115 : decode cX12_takeUp 115 = .ok (.iinc 2 1, 3) := by decide +kernel
theorem dX12_takeUp_118 : decode cX12_takeUp 118 = .ok (.goto (-63), 3) := by decide +kernel
theorem dX12_takeUp_121 : decode cX12_takeUp 121 = .ok (.aload_n 0, 1) := by decide +kernel
theorem dX12_takeUp_122 : decode cX12_takeUp 122 = .ok (.iload_n 1, 1) := by decide +kernel
theorem dX12_takeUp_123 : decode cX12_takeUp 123 = .ok (.invokevirtual 273, 3) := by decide +kernel
theorem dX12_takeUp_126 : decode cX12_takeUp 126 = .ok (.ireturn, 1) := by decide +kernel
theorem dX12_claim_0 : decode cX12_claim 0 = .ok (.aload_n 0, 1) := by decide +kernel
theorem dX12_claim_1 : decode cX12_claim 1 = .ok (.getfield 224, 3) := by decide +kernel
theorem dX12_claim_4 : decode cX12_claim 4 = .ok (.ifCond .eq 6, 3) := by decide +kernel
theorem dX12_claim_7 : decode cX12_claim 7 = .ok (.bipush (-4), 2) := by decide +kernel
theorem dX12_claim_9 : decode cX12_claim 9 = .ok (.ireturn, 1) := by decide +kernel
theorem dX12_claim_10 : decode cX12_claim 10 = .ok (.iconst 0, 1) := by decide +kernel
theorem dX12_claim_11 : decode cX12_claim 11 = .ok (.istore_n 1, 1) := by decide +kernel
theorem dX12_claim_12 : decode cX12_claim 12 = .ok (.iconst 0, 1) := by decide +kernel
theorem dX12_claim_13 : decode cX12_claim 13 = .ok (.istore_n 2, 1) := by decide +kernel
theorem dX12_claim_14 : decode cX12_claim 14 = .ok (.iload_n 2, 1) := by decide +kernel
theorem dX12_claim_15 : decode cX12_claim 15 = .ok (.aload_n 0, 1) := by decide +kernel
theorem dX12_claim_16 : decode cX12_claim 16 = .ok (.getfield 246, 3) := by decide +kernel
theorem dX12_claim_19 : decode cX12_claim 19 = .ok (.if_icmp .ge 104, 3) := by decide +kernel
theorem dX12_claim_22 : decode cX12_claim 22 = .ok (.aload_n 0, 1) := by decide +kernel
theorem dX12_claim_23 : decode cX12_claim 23 = .ok (.getfield 114, 3) := by decide +kernel
theorem dX12_claim_26 : decode cX12_claim 26 = .ok (.iconst 3, 1) := by decide +kernel
theorem dX12_claim_27 : decode cX12_claim 27 = .ok (.iaload, 1) := by decide +kernel
theorem dX12_claim_28 : decode cX12_claim 28 = .ok (.ifCond .le 95, 3) := by decide +kernel
theorem dX12_claim_31 : decode cX12_claim 31 = .ok (.aload_n 0, 1) := by decide +kernel
theorem dX12_claim_32 : decode cX12_claim 32 = .ok (.getfield 171, 3) := by decide +kernel
theorem dX12_claim_35 : decode cX12_claim 35 = .ok (.iload_n 2, 1) := by decide +kernel
theorem dX12_claim_36 : decode cX12_claim 36 = .ok (.iaload, 1) := by decide +kernel
theorem dX12_claim_37 : decode cX12_claim 37 = .ok (.istore_n 3, 1) := by decide +kernel
theorem dX12_claim_38 : decode cX12_claim 38 = .ok (.aload_n 0, 1) := by decide +kernel
theorem dX12_claim_39 : decode cX12_claim 39 = .ok (.getfield 180, 3) := by decide +kernel
theorem dX12_claim_42 : decode cX12_claim 42 = .ok (.iload_n 2, 1) := by decide +kernel
theorem dX12_claim_43 : decode cX12_claim 43 = .ok (.baload, 1) := by decide +kernel
theorem dX12_claim_44 : decode cX12_claim 44 = .ok (.ifCond .ne 73, 3) := by decide +kernel
theorem dX12_claim_47 : decode cX12_claim 47 = .ok (.aload_n 0, 1) := by decide +kernel
theorem dX12_claim_48 : decode cX12_claim 48 = .ok (.getfield 120, 3) := by decide +kernel
theorem dX12_claim_51 : decode cX12_claim 51 = .ok (.iload_n 3, 1) := by decide +kernel
theorem dX12_claim_52 : decode cX12_claim 52 = .ok (.iaload, 1) := by decide +kernel
theorem dX12_claim_53 : decode cX12_claim 53 = .ok (.iconst (-1), 1) := by decide +kernel
theorem dX12_claim_54 : decode cX12_claim 54 = .ok (.if_icmp .eq 63, 3) := by decide +kernel
theorem dX12_claim_57 : decode cX12_claim 57 = .ok (.aload_n 0, 1) := by decide +kernel
theorem dX12_claim_58 : decode cX12_claim 58 = .ok (.getfield 174, 3) := by decide +kernel
theorem dX12_claim_61 : decode cX12_claim 61 = .ok (.iload_n 2, 1) := by decide +kernel
theorem dX12_claim_62 : decode cX12_claim 62 = .ok (.iaload, 1) := by decide +kernel
theorem dX12_claim_63 : decode cX12_claim 63 = .ok (.i2l, 1) := by decide +kernel
theorem dX12_claim_64 : decode cX12_claim 64 = .ok (.aload_n 0, 1) := by decide +kernel
theorem dX12_claim_65 : decode cX12_claim 65 = .ok (.getfield 120, 3) := by decide +kernel
theorem dX12_claim_68 : decode cX12_claim 68 = .ok (.iload_n 3, 1) := by decide +kernel
theorem dX12_claim_69 : decode cX12_claim 69 = .ok (.iaload, 1) := by decide +kernel
theorem dX12_claim_70 : decode cX12_claim 70 = .ok (.i2l, 1) := by decide +kernel
theorem dX12_claim_71 : decode cX12_claim 71 = .ok (.aload_n 0, 1) := by decide +kernel
theorem dX12_claim_72 : decode cX12_claim 72 = .ok (.getfield 123, 3) := by decide +kernel
theorem dX12_claim_75 : decode cX12_claim 75 = .ok (.iload_n 3, 1) := by decide +kernel
theorem dX12_claim_76 : decode cX12_claim 76 = .ok (.iaload, 1) := by decide +kernel
theorem dX12_claim_77 : decode cX12_claim 77 = .ok (.i2l, 1) := by decide +kernel
theorem dX12_claim_78 : decode cX12_claim 78 = .ok (.invokestatic 58, 3) := by decide +kernel
theorem dX12_claim_81 : decode cX12_claim 81 = .ok (.ifCond .ne 6, 3) := by decide +kernel
theorem dX12_claim_84 : decode cX12_claim 84 = .ok (.goto 33, 3) := by decide +kernel
theorem dX12_claim_87 : decode cX12_claim 87 = .ok (.aload_n 0, 1) := by decide +kernel
theorem dX12_claim_88 : decode cX12_claim 88 = .ok (.getfield 180, 3) := by decide +kernel
theorem dX12_claim_91 : decode cX12_claim 91 = .ok (.iload_n 2, 1) := by decide +kernel
theorem dX12_claim_92 : decode cX12_claim 92 = .ok (.iconst 1, 1) := by decide +kernel
theorem dX12_claim_93 : decode cX12_claim 93 = .ok (.bastore, 1) := by decide +kernel
theorem dX12_claim_94 : decode cX12_claim 94 = .ok (.iload_n 1, 1) := by decide +kernel
theorem dX12_claim_95 : decode cX12_claim 95 = .ok (.aload_n 0, 1) := by decide +kernel
theorem dX12_claim_96 : decode cX12_claim 96 = .ok (.getfield 114, 3) := by decide +kernel
theorem dX12_claim_99 : decode cX12_claim 99 = .ok (.iconst 3, 1) := by decide +kernel
theorem dX12_claim_100 : decode cX12_claim 100 = .ok (.iaload, 1) := by decide +kernel
theorem dX12_claim_101 : decode cX12_claim 101 = .ok (.i2l, 1) := by decide +kernel
theorem dX12_claim_102 : decode cX12_claim 102 = .ok (.aload_n 0, 1) := by decide +kernel
theorem dX12_claim_103 : decode cX12_claim 103 = .ok (.getfield 177, 3) := by decide +kernel
theorem dX12_claim_106 : decode cX12_claim 106 = .ok (.iload_n 2, 1) := by decide +kernel
theorem dX12_claim_107 : decode cX12_claim 107 = .ok (.iaload, 1) := by decide +kernel
theorem dX12_claim_108 : decode cX12_claim 108 = .ok (.i2l, 1) := by decide +kernel
end
section
theorem dX12_claim_109 : decode cX12_claim 109 = .ok (.lmul, 1) := by decide +kernel
theorem dX12_claim_110 : decode cX12_claim 110 = .ok (.ldc2_w 249, 3) := by decide +kernel
theorem dX12_claim_113 : decode cX12_claim 113 = .ok (.ldiv, 1) := by decide +kernel
theorem dX12_claim_114 : decode cX12_claim 114 = .ok (.l2i, 1) := by decide +kernel
theorem dX12_claim_115 : decode cX12_claim 115 = .ok (.iadd, 1) := by decide +kernel
theorem dX12_claim_116 : decode cX12_claim 116 = .ok (.istore_n 1, 1) := by decide +kernel
theorem dX12_claim_117 : decode cX12_claim 117 = .ok (.iinc 2 1, 3) := by decide +kernel
theorem dX12_claim_120 : decode cX12_claim 120 = .ok (.goto (-106), 3) := by decide +kernel
theorem dX12_claim_123 : decode cX12_claim 123 = .ok (.aload_n 0, 1) := by decide +kernel
theorem dX12_claim_124 : decode cX12_claim 124 = .ok (.dup, 1) := by decide +kernel
theorem dX12_claim_125 : decode cX12_claim 125 = .ok (.getfield 276, 3) := by decide +kernel
theorem dX12_claim_128 : decode cX12_claim 128 = .ok (.iload_n 1, 1) := by decide +kernel
theorem dX12_claim_129 : decode cX12_claim 129 = .ok (.iadd, 1) := by decide +kernel
theorem dX12_claim_130 : decode cX12_claim 130 = .ok (.putfield 276, 3) := by decide +kernel
theorem dX12_claim_133 : decode cX12_claim 133 = .ok (.aload_n 0, 1) := by decide +kernel
theorem dX12_claim_134 : decode cX12_claim 134 = .ok (.dup, 1) := by decide +kernel
theorem dX12_claim_135 : decode cX12_claim 135 = .ok (.getfield 262, 3) := by decide +kernel
theorem dX12_claim_138 : decode cX12_claim 138 = .ok (.iload_n 1, 1) := by decide +kernel
theorem dX12_claim_139 : decode cX12_claim 139 = .ok (.iadd, 1) := by decide +kernel
theorem dX12_claim_140 : decode cX12_claim 140 = .ok (.putfield 262, 3) := by decide +kernel
theorem dX12_claim_143 : decode cX12_claim 143 = .ok (.iload_n 1, 1) := by decide +kernel
theorem dX12_claim_144 : decode cX12_claim 144 = .ok (.ireturn, 1) := by decide +kernel
theorem dX12_overdue_0 : decode cX12_overdue 0 = .ok (.iconst 0, 1) := by decide +kernel
theorem dX12_overdue_1 : decode cX12_overdue 1 = .ok (.istore_n 2, 1) := by decide +kernel
theorem dX12_overdue_2 : decode cX12_overdue 2 = .ok (.iconst 0, 1) := by decide +kernel
theorem dX12_overdue_3 : decode cX12_overdue 3 = .ok (.istore_n 3, 1) := by decide +kernel
theorem dX12_overdue_4 : decode cX12_overdue 4 = .ok (.iload_n 3, 1) := by decide +kernel
theorem dX12_overdue_5 : decode cX12_overdue 5 = .ok (.aload_n 0, 1) := by decide +kernel
theorem dX12_overdue_6 : decode cX12_overdue 6 = .ok (.getfield 147, 3) := by decide +kernel
theorem dX12_overdue_9 : decode cX12_overdue 9 = .ok (.iload_n 1, 1) := by decide +kernel
theorem dX12_overdue_10 : decode cX12_overdue 10 = .ok (.iaload, 1) := by decide +kernel
theorem dX12_overdue_11 : decode cX12_overdue 11 = .ok (.if_icmp .ge 69, 3) := by decide +kernel
theorem dX12_overdue_14 : decode cX12_overdue 14 = .ok (.iload_n 2, 1) := by decide +kernel
theorem dX12_overdue_15 : decode cX12_overdue 15 = .ok (.aload_n 0, 1) := by decide +kernel
theorem dX12_overdue_16 : decode cX12_overdue 16 = .ok (.getfield 165, 3) := by decide +kernel
theorem dX12_overdue_19 : decode cX12_overdue 19 = .ok (.bipush 84, 2) := by decide +kernel
theorem dX12_overdue_21 : decode cX12_overdue 21 = .ok (.iload_n 1, 1) := by decide +kernel
theorem dX12_overdue_22 : decode cX12_overdue 22 = .ok (.imul, 1) := by decide +kernel
theorem dX12_overdue_23 : decode cX12_overdue 23 = .ok (.iload_n 3, 1) := by decide +kernel
theorem dX12_overdue_24 : decode cX12_overdue 24 = .ok (.iadd, 1) := by decide +kernel
theorem dX12_overdue_25 : decode cX12_overdue 25 = .ok (.baload, 1) := by decide +kernel
theorem dX12_overdue_26 : decode cX12_overdue 26 = .ok (.ifCond .eq 45, 3) := by decide +kernel
theorem dX12_overdue_29 : decode cX12_overdue 29 = .ok (.aload_n 0, 1) := by decide +kernel
theorem dX12_overdue_30 : decode cX12_overdue 30 = .ok (.iload_n 1, 1) := by decide +kernel
theorem dX12_overdue_31 : decode cX12_overdue 31 = .ok (.iload_n 3, 1) := by decide +kernel
theorem dX12_overdue_32 : decode cX12_overdue 32 = .ok (.invokevirtual 240, 3) := by decide +kernel
theorem dX12_overdue_35 : decode cX12_overdue 35 = .ok (.aload_n 0, 1) := by decide +kernel
theorem dX12_overdue_36 : decode cX12_overdue 36 = .ok (.getfield 230, 3) := by decide +kernel
theorem dX12_overdue_39 : decode cX12_overdue 39 = .ok (.if_icmp .gt 32, 3) := by decide +kernel
theorem dX12_overdue_42 : decode cX12_overdue 42 = .ok (.aload_n 0, 1) := by decide +kernel
theorem dX12_overdue_43 : decode cX12_overdue 43 = .ok (.getfield 162, 3) := by decide +kernel
theorem dX12_overdue_46 : decode cX12_overdue 46 = .ok (.bipush 84, 2) := by decide +kernel
theorem dX12_overdue_48 : decode cX12_overdue 48 = .ok (.iload_n 1, 1) := by decide +kernel
theorem dX12_overdue_49 : decode cX12_overdue 49 = .ok (.imul, 1) := by decide +kernel
theorem dX12_overdue_50 : decode cX12_overdue 50 = .ok (.iload_n 3, 1) := by decide +kernel
theorem dX12_overdue_51 : decode cX12_overdue 51 = .ok (.iadd, 1) := by decide +kernel
theorem dX12_overdue_52 : decode cX12_overdue 52 = .ok (.iaload, 1) := by decide +kernel
theorem dX12_overdue_53 : decode cX12_overdue 53 = .ok (.aload_n 0, 1) := by decide +kernel
theorem dX12_overdue_54 : decode cX12_overdue 54 = .ok (.getfield 159, 3) := by decide +kernel
theorem dX12_overdue_57 : decode cX12_overdue 57 = .ok (.bipush 84, 2) := by decide +kernel
theorem dX12_overdue_59 : decode cX12_overdue 59 = .ok (.iload_n 1, 1) := by decide +kernel
theorem dX12_overdue_60 : decode cX12_overdue 60 = .ok (.imul, 1) := by decide +kernel
theorem dX12_overdue_61 : decode cX12_overdue 61 = .ok (.iload_n 3, 1) := by decide +kernel
theorem dX12_overdue_62 : decode cX12_overdue 62 = .ok (.iadd, 1) := by decide +kernel
theorem dX12_overdue_63 : decode cX12_overdue 63 = .ok (.iaload, 1) := by decide +kernel
theorem dX12_overdue_64 : decode cX12_overdue 64 = .ok (.if_icmp .ge 7, 3) := by decide +kernel
theorem dX12_overdue_67 : decode cX12_overdue 67 = .ok (.iconst 1, 1) := by decide +kernel
theorem dX12_overdue_68 : decode cX12_overdue 68 = .ok (.goto 4, 3) := by decide +kernel
theorem dX12_overdue_71 : decode cX12_overdue 71 = .ok (.iconst 0, 1) := by decide +kernel
theorem dX12_overdue_72 : decode cX12_overdue 72 = .ok (.iadd, 1) := by decide +kernel
theorem dX12_overdue_73 : decode cX12_overdue 73 = .ok (.istore_n 2, 1) := by decide +kernel
theorem dX12_overdue_74 : decode cX12_overdue 74 = .ok (.iinc 3 1, 3) := by decide +kernel
theorem dX12_overdue_77 : decode cX12_overdue 77 = .ok (.goto (-73), 3) := by decide +kernel
theorem dX12_overdue_80 : decode cX12_overdue 80 = .ok (.iload_n 2, 1) := by decide +kernel
theorem dX12_overdue_81 : decode cX12_overdue 81 = .ok (.ireturn, 1) := by decide +kernel
theorem dX12_about_0 : decode cX12_about 0 = .ok (.aload_n 0, 1) := by decide +kernel
theorem dX12_about_1 : decode cX12_about 1 = .ok (.iload_n 1, 1) := by decide +kernel
theorem dX12_about_2 : decode cX12_about 2 = .ok (.invokevirtual 243, 3) := by decide +kernel
theorem dX12_about_5 : decode cX12_about 5 = .ok (.ifCond .ne 5, 3) := by decide +kernel
theorem dX12_about_8 : decode cX12_about 8 = .ok (.iconst (-1), 1) := by decide +kernel
theorem dX12_about_9 : decode cX12_about 9 = .ok (.ireturn, 1) := by decide +kernel
theorem dX12_about_10 : decode cX12_about 10 = .ok (.iconst 0, 1) := by decide +kernel
theorem dX12_about_11 : decode cX12_about 11 = .ok (.istore_n 3, 1) := by decide +kernel
theorem dX12_about_12 : decode cX12_about 12 = .ok (.iload_n 2, 1) := by decide +kernel
theorem dX12_about_13 : decode cX12_about 13 = .ok (.tableswitch 216 0 7 #[47, 54, 61, 80, 120, 126, 141, 148], 47) := by decide +kernel
theorem dX12_about_60 : decode cX12_about 60 = .ok (.aload_n 0, 1) := by decide +kernel
theorem dX12_about_61 : decode cX12_about 61 = .ok (.getfield 135, 3) := by decide +kernel
theorem dX12_about_64 : decode cX12_about 64 = .ok (.iload_n 1, 1) := by decide +kernel
theorem dX12_about_65 : decode cX12_about 65 = .ok (.iaload, 1) := by decide +kernel
theorem dX12_about_66 : decode cX12_about 66 = .ok (.ireturn, 1) := by decide +kernel
theorem dX12_about_67 : decode cX12_about 67 = .ok (.aload_n 0, 1) := by decide +kernel
theorem dX12_about_68 : decode cX12_about 68 = .ok (.getfield 138, 3) := by decide +kernel
theorem dX12_about_71 : decode cX12_about 71 = .ok (.iload_n 1, 1) := by decide +kernel
theorem dX12_about_72 : decode cX12_about 72 = .ok (.iaload, 1) := by decide +kernel
theorem dX12_about_73 : decode cX12_about 73 = .ok (.ireturn, 1) := by decide +kernel
theorem dX12_about_74 : decode cX12_about 74 = .ok (.aload_n 0, 1) := by decide +kernel
theorem dX12_about_75 : decode cX12_about 75 = .ok (.getfield 153, 3) := by decide +kernel
theorem dX12_about_78 : decode cX12_about 78 = .ok (.iload_n 1, 1) := by decide +kernel
theorem dX12_about_79 : decode cX12_about 79 = .ok (.baload, 1) := by decide +kernel
theorem dX12_about_80 : decode cX12_about 80 = .ok (.ifCond .eq 7, 3) := by decide +kernel
theorem dX12_about_83 : decode cX12_about 83 = .ok (.iconst 0, 1) := by decide +kernel
theorem dX12_about_84 : decode cX12_about 84 = .ok (.goto 8, 3) := by decide +kernel
theorem dX12_about_87 : decode cX12_about 87 = .ok (.aload_n 0, 1) := by decide +kernel
theorem dX12_about_88 : decode cX12_about 88 = .ok (.iload_n 1, 1) := by decide +kernel
theorem dX12_about_89 : decode cX12_about 89 = .ok (.invokevirtual 279, 3) := by decide +kernel
theorem dX12_about_92 : decode cX12_about 92 = .ok (.ireturn, 1) := by decide +kernel
theorem dX12_about_93 : decode cX12_about 93 = .ok (.bipush 84, 2) := by decide +kernel
theorem dX12_about_95 : decode cX12_about 95 = .ok (.iload_n 1, 1) := by decide +kernel
theorem dX12_about_96 : decode cX12_about 96 = .ok (.imul, 1) := by decide +kernel
theorem dX12_about_97 : decode cX12_about 97 = .ok (.istore 4, 2) := by decide +kernel
theorem dX12_about_99 : decode cX12_about 99 = .ok (.iload 4, 2) := by decide +kernel
theorem dX12_about_101 : decode cX12_about 101 = .ok (.bipush 84, 2) := by decide +kernel
theorem dX12_about_103 : decode cX12_about 103 = .ok (.iload_n 1, 1) := by decide +kernel
theorem dX12_about_104 : decode cX12_about 104 = .ok (.imul, 1) := by decide +kernel
theorem dX12_about_105 : decode cX12_about 105 = .ok (.aload_n 0, 1) := by decide +kernel
theorem dX12_about_106 : decode cX12_about 106 = .ok (.getfield 147, 3) := by decide +kernel
theorem dX12_about_109 : decode cX12_about 109 = .ok (.iload_n 1, 1) := by decide +kernel
theorem dX12_about_110 : decode cX12_about 110 = .ok (.iaload, 1) := by decide +kernel
theorem dX12_about_111 : decode cX12_about 111 = .ok (.iadd, 1) := by decide +kernel
theorem dX12_about_112 : decode cX12_about 112 = .ok (.if_icmp .ge 19, 3) := by decide +kernel
theorem dX12_about_115 : decode cX12_about 115 = .ok (.iload_n 3, 1) := by decide +kernel
theorem dX12_about_116 : decode cX12_about 116 = .ok (.aload_n 0, 1) := by decide +kernel
theorem dX12_about_117 : decode cX12_about 117 = .ok (.getfield 162, 3) := by decide +kernel
theorem dX12_about_120 : decode cX12_about 120 = .ok (.iload 4, 2) := by decide +kernel
theorem dX12_about_122 : decode cX12_about 122 = .ok (.iaload, 1) := by decide +kernel
theorem dX12_about_123 : decode cX12_about 123 = .ok (.iadd, 1) := by decide +kernel
theorem dX12_about_124 : decode cX12_about 124 = .ok (.istore_n 3, 1) := by decide +kernel
theorem dX12_about_125 : decode cX12_about 125 = .ok (.iinc 4 1, 3) := by decide +kernel
theorem dX12_about_128 : decode cX12_about 128 = .ok (.goto (-29), 3) := by decide +kernel
theorem dX12_about_131 : decode cX12_about 131 = .ok (.iload_n 3, 1) := by decide +kernel
theorem dX12_about_132 : decode cX12_about 132 = .ok (.ireturn, 1) := by decide +kernel
theorem dX12_about_133 : decode cX12_about 133 = .ok (.aload_n 0, 1) := by decide +kernel
theorem dX12_about_134 : decode cX12_about 134 = .ok (.iload_n 1, 1) := by decide +kernel
theorem dX12_about_135 : decode cX12_about 135 = .ok (.invokevirtual 267, 3) := by decide +kernel
theorem dX12_about_138 : decode cX12_about 138 = .ok (.ireturn, 1) := by decide +kernel
theorem dX12_about_139 : decode cX12_about 139 = .ok (.aload_n 0, 1) := by decide +kernel
theorem dX12_about_140 : decode cX12_about 140 = .ok (.getfield 153, 3) := by decide +kernel
theorem dX12_about_143 : decode cX12_about 143 = .ok (.iload_n 1, 1) := by decide +kernel
theorem dX12_about_144 : decode cX12_about 144 = .ok (.baload, 1) := by decide +kernel
theorem dX12_about_145 : decode cX12_about 145 = .ok (.ifCond .eq 7, 3) := by decide +kernel
theorem dX12_about_148 : decode cX12_about 148 = .ok (.iconst 1, 1) := by decide +kernel
theorem dX12_about_149 : decode cX12_about 149 = .ok (.goto 4, 3) := by decide +kernel
theorem dX12_about_152 : decode cX12_about 152 = .ok (.iconst 0, 1) := by decide +kernel
theorem dX12_about_153 : decode cX12_about 153 = .ok (.ireturn, 1) := by decide +kernel
theorem dX12_about_154 : decode cX12_about 154 = .ok (.aload_n 0, 1) := by decide +kernel
theorem dX12_about_155 : decode cX12_about 155 = .ok (.getfield 150, 3) := by decide +kernel
theorem dX12_about_158 : decode cX12_about 158 = .ok (.iload_n 1, 1) := by decide +kernel
theorem dX12_about_159 : decode cX12_about 159 = .ok (.iaload, 1) := by decide +kernel
theorem dX12_about_160 : decode cX12_about 160 = .ok (.ireturn, 1) := by decide +kernel
theorem dX12_about_161 : decode cX12_about 161 = .ok (.iconst 0, 1) := by decide +kernel
theorem dX12_about_162 : decode cX12_about 162 = .ok (.istore 4, 2) := by decide +kernel
theorem dX12_about_164 : decode cX12_about 164 = .ok (.iload 4, 2) := by decide +kernel
theorem dX12_about_166 : decode cX12_about 166 = .ok (.aload_n 0, 1) := by decide +kernel
theorem dX12_about_167 : decode cX12_about 167 = .ok (.getfield 147, 3) := by decide +kernel
theorem dX12_about_170 : decode cX12_about 170 = .ok (.iload_n 1, 1) := by decide +kernel
theorem dX12_about_171 : decode cX12_about 171 = .ok (.iaload, 1) := by decide +kernel
theorem dX12_about_172 : decode cX12_about 172 = .ok (.if_icmp .ge 55, 3) := by decide +kernel
theorem dX12_about_175 : decode cX12_about 175 = .ok (.aload_n 0, 1) := by decide +kernel
theorem dX12_about_176 : decode cX12_about 176 = .ok (.getfield 153, 3) := by decide +kernel
theorem dX12_about_179 : decode cX12_about 179 = .ok (.iload_n 1, 1) := by decide +kernel
theorem dX12_about_180 : decode cX12_about 180 = .ok (.baload, 1) := by decide +kernel
theorem dX12_about_181 : decode cX12_about 181 = .ok (.ifCond .ne 46, 3) := by decide +kernel
theorem dX12_about_184 : decode cX12_about 184 = .ok (.aload_n 0, 1) := by decide +kernel
theorem dX12_about_185 : decode cX12_about 185 = .ok (.getfield 165, 3) := by decide +kernel
theorem dX12_about_188 : decode cX12_about 188 = .ok (.bipush 84, 2) := by decide +kernel
theorem dX12_about_190 : decode cX12_about 190 = .ok (.iload_n 1, 1) := by decide +kernel
theorem dX12_about_191 : decode cX12_about 191 = .ok (.imul, 1) := by decide +kernel
theorem dX12_about_192 : decode cX12_about 192 = .ok (.iload 4, 2) := by decide +kernel
theorem dX12_about_194 : decode cX12_about 194 = .ok (.iadd, 1) := by decide +kernel
theorem dX12_about_195 : decode cX12_about 195 = .ok (.baload, 1) := by decide +kernel
theorem dX12_about_196 : decode cX12_about 196 = .ok (.ifCond .eq 25, 3) := by decide +kernel
theorem dX12_about_199 : decode cX12_about 199 = .ok (.aload_n 0, 1) := by decide +kernel
theorem dX12_about_200 : decode cX12_about 200 = .ok (.iload_n 1, 1) := by decide +kernel
theorem dX12_about_201 : decode cX12_about 201 = .ok (.iload 4, 2) := by decide +kernel
theorem dX12_about_203 : decode cX12_about 203 = .ok (.invokevirtual 240, 3) := by decide +kernel
theorem dX12_about_206 : decode cX12_about 206 = .ok (.aload_n 0, 1) := by decide +kernel
theorem dX12_about_207 : decode cX12_about 207 = .ok (.getfield 230, 3) := by decide +kernel
theorem dX12_about_210 : decode cX12_about 210 = .ok (.if_icmp .le 11, 3) := by decide +kernel
theorem dX12_about_213 : decode cX12_about 213 = .ok (.aload_n 0, 1) := by decide +kernel
theorem dX12_about_214 : decode cX12_about 214 = .ok (.iload_n 1, 1) := by decide +kernel
theorem dX12_about_215 : decode cX12_about 215 = .ok (.iload 4, 2) := by decide +kernel
theorem dX12_about_217 : decode cX12_about 217 = .ok (.invokevirtual 240, 3) := by decide +kernel
theorem dX12_about_220 : decode cX12_about 220 = .ok (.ireturn, 1) := by decide +kernel
theorem dX12_about_221 : decode cX12_about 221 = .ok (.iinc 4 1, 3) := by decide +kernel
theorem dX12_about_224 : decode cX12_about 224 = .ok (.goto (-60), 3) := by decide +kernel
theorem dX12_about_227 : decode cX12_about 227 = .ok (.iconst (-1), 1) := by decide +kernel
theorem dX12_about_228 : decode cX12_about 228 = .ok (.ireturn, 1) := by decide +kernel
theorem dX12_about_229 : decode cX12_about 229 = .ok (.iconst (-1), 1) := by decide +kernel
theorem dX12_about_230 : decode cX12_about 230 = .ok (.ireturn, 1) := by decide +kernel
theorem dX12_giver_0 : decode cX12_giver 0 = .ok (.iload_n 1, 1) := by decide +kernel
theorem dX12_giver_1 : decode cX12_giver 1 = .ok (.invokestatic 218, 3) := by decide +kernel
theorem dX12_giver_4 : decode cX12_giver 4 = .ok (.ifCond .ne 6, 3) := by decide +kernel
theorem dX12_giver_7 : decode cX12_giver 7 = .ok (.bipush (-2), 2) := by decide +kernel
theorem dX12_giver_9 : decode cX12_giver 9 = .ok (.ireturn, 1) := by decide +kernel
theorem dX12_giver_10 : decode cX12_giver 10 = .ok (.iload_n 2, 1) := by decide +kernel
theorem dX12_giver_11 : decode cX12_giver 11 = .ok (.tableswitch 126 0 4 #[33, 40, 97, 104, 111], 33) := by decide +kernel
theorem dX12_giver_44 : decode cX12_giver 44 = .ok (.aload_n 0, 1) := by decide +kernel
theorem dX12_giver_45 : decode cX12_giver 45 = .ok (.getfield 126, 3) := by decide +kernel
theorem dX12_giver_48 : decode cX12_giver 48 = .ok (.iload_n 1, 1) := by decide +kernel
theorem dX12_giver_49 : decode cX12_giver 49 = .ok (.iaload, 1) := by decide +kernel
theorem dX12_giver_50 : decode cX12_giver 50 = .ok (.ireturn, 1) := by decide +kernel
theorem dX12_giver_51 : decode cX12_giver 51 = .ok (.iconst 0, 1) := by decide +kernel
theorem dX12_giver_52 : decode cX12_giver 52 = .ok (.istore_n 3, 1) := by decide +kernel
theorem dX12_giver_53 : decode cX12_giver 53 = .ok (.iconst 0, 1) := by decide +kernel
theorem dX12_giver_54 : decode cX12_giver 54 = .ok (.istore 4, 2) := by decide +kernel
theorem dX12_giver_56 : decode cX12_giver 56 = .ok (.iload 4, 2) := by decide +kernel
theorem dX12_giver_58 : decode cX12_giver 58 = .ok (.aload_n 0, 1) := by decide +kernel
theorem dX12_giver_59 : decode cX12_giver 59 = .ok (.getfield 246, 3) := by decide +kernel
theorem dX12_giver_62 : decode cX12_giver 62 = .ok (.if_icmp .ge 44, 3) := by decide +kernel
theorem dX12_giver_65 : decode cX12_giver 65 = .ok (.iload_n 3, 1) := by decide +kernel
theorem dX12_giver_66 : decode cX12_giver 66 = .ok (.aload_n 0, 1) := by decide +kernel
theorem dX12_giver_67 : decode cX12_giver 67 = .ok (.getfield 171, 3) := by decide +kernel
theorem dX12_giver_70 : decode cX12_giver 70 = .ok (.iload 4, 2) := by decide +kernel
theorem dX12_giver_72 : decode cX12_giver 72 = .ok (.iaload, 1) := by decide +kernel
theorem dX12_giver_73 : decode cX12_giver 73 = .ok (.iload_n 1, 1) := by decide +kernel
theorem dX12_giver_74 : decode cX12_giver 74 = .ok (.if_icmp .ne 23, 3) := by decide +kernel
theorem dX12_giver_77 : decode cX12_giver 77 = .ok (.aload_n 0, 1) := by decide +kernel
theorem dX12_giver_78 : decode cX12_giver 78 = .ok (.getfield 180, 3) := by decide +kernel
theorem dX12_giver_81 : decode cX12_giver 81 = .ok (.iload 4, 2) := by decide +kernel
theorem dX12_giver_83 : decode cX12_giver 83 = .ok (.baload, 1) := by decide +kernel
theorem dX12_giver_84 : decode cX12_giver 84 = .ok (.ifCond .ne 13, 3) := by decide +kernel
theorem dX12_giver_87 : decode cX12_giver 87 = .ok (.aload_n 0, 1) := by decide +kernel
theorem dX12_giver_88 : decode cX12_giver 88 = .ok (.getfield 177, 3) := by decide +kernel
theorem dX12_giver_91 : decode cX12_giver 91 = .ok (.iload 4, 2) := by decide +kernel
theorem dX12_giver_93 : decode cX12_giver 93 = .ok (.iaload, 1) := by decide +kernel
theorem dX12_giver_94 : decode cX12_giver 94 = .ok (.goto 4, 3) := by decide +kernel
theorem dX12_giver_97 : decode cX12_giver 97 = .ok (.iconst 0, 1) := by decide +kernel
theorem dX12_giver_98 : decode cX12_giver 98 = .ok (.iadd, 1) := by decide +kernel
theorem dX12_giver_99 : decode cX12_giver 99 = .ok (.istore_n 3, 1) := by decide +kernel
theorem dX12_giver_100 : decode cX12_giver 100 = .ok (.iinc 4 1, 3) := by decide +kernel
theorem dX12_giver_103 : decode cX12_giver 103 = .ok (.goto (-47), 3) := by decide +kernel
theorem dX12_giver_106 : decode cX12_giver 106 = .ok (.iload_n 3, 1) := by decide +kernel
theorem dX12_giver_107 : decode cX12_giver 107 = .ok (.ireturn, 1) := by decide +kernel
theorem dX12_giver_108 : decode cX12_giver 108 = .ok (.aload_n 0, 1) := by decide +kernel
theorem dX12_giver_109 : decode cX12_giver 109 = .ok (.getfield 120, 3) := by decide +kernel
theorem dX12_giver_112 : decode cX12_giver 112 = .ok (.iload_n 1, 1) := by decide +kernel
theorem dX12_giver_113 : decode cX12_giver 113 = .ok (.iaload, 1) := by decide +kernel
theorem dX12_giver_114 : decode cX12_giver 114 = .ok (.ireturn, 1) := by decide +kernel
theorem dX12_giver_115 : decode cX12_giver 115 = .ok (.aload_n 0, 1) := by decide +kernel
theorem dX12_giver_116 : decode cX12_giver 116 = .ok (.getfield 123, 3) := by decide +kernel
theorem dX12_giver_119 : decode cX12_giver 119 = .ok (.iload_n 1, 1) := by decide +kernel
theorem dX12_giver_120 : decode cX12_giver 120 = .ok (.iaload, 1) := by decide +kernel
theorem dX12_giver_121 : decode cX12_giver 121 = .ok (.ireturn, 1) := by decide +kernel
theorem dX12_giver_122 : decode cX12_giver 122 = .ok (.aload_n 0, 1) := by decide +kernel
theorem dX12_giver_123 : decode cX12_giver 123 = .ok (.getfield 132, 3) := by decide +kernel
theorem dX12_giver_126 : decode cX12_giver 126 = .ok (.iload_n 1, 1) := by decide +kernel
theorem dX12_giver_127 : decode cX12_giver 127 = .ok (.baload, 1) := by decide +kernel
theorem dX12_giver_128 : decode cX12_giver 128 = .ok (.ifCond .eq 7, 3) := by decide +kernel
theorem dX12_giver_131 : decode cX12_giver 131 = .ok (.iconst 1, 1) := by decide +kernel
theorem dX12_giver_132 : decode cX12_giver 132 = .ok (.goto 4, 3) := by decide +kernel
theorem dX12_giver_135 : decode cX12_giver 135 = .ok (.iconst 0, 1) := by decide +kernel
theorem dX12_giver_136 : decode cX12_giver 136 = .ok (.ireturn, 1) := by decide +kernel
theorem dX12_giver_137 : decode cX12_giver 137 = .ok (.bipush (-2), 2) := by decide +kernel
theorem dX12_giver_139 : decode cX12_giver 139 = .ok (.ireturn, 1) := by decide +kernel
theorem dX12_stage_0 : decode cX12_stage 0 = .ok (.iload_n 1, 1) := by decide +kernel
theorem dX12_stage_1 : decode cX12_stage 1 = .ok (.i2l, 1) := by decide +kernel
theorem dX12_stage_2 : decode cX12_stage 2 = .ok (.lconst 1, 1) := by decide +kernel
theorem dX12_stage_3 : decode cX12_stage 3 = .ok (.ldc2_w 282, 3) := by decide +kernel
theorem dX12_stage_6 : decode cX12_stage 6 = .ok (.invokestatic 58, 3) := by decide +kernel
theorem dX12_stage_9 : decode cX12_stage 9 = .ok (.ifCond .eq 15, 3) := by decide +kernel
theorem dX12_stage_12 : decode cX12_stage 12 = .ok (.iload_n 2, 1) := by decide +kernel
theorem dX12_stage_13 : decode cX12_stage 13 = .ok (.i2l, 1) := by decide +kernel
theorem dX12_stage_14 : decode cX12_stage 14 = .ok (.lconst 1, 1) := by decide +kernel
theorem dX12_stage_15 : decode cX12_stage 15 = .ok (.ldc2_w 284, 3) := by decide +kernel
theorem dX12_stage_18 : decode cX12_stage 18 = .ok (.invokestatic 58, 3) := by decide +kernel
theorem dX12_stage_21 : decode cX12_stage 21 = .ok (.ifCond .ne 6, 3) := by decide +kernel
theorem dX12_stage_24 : decode cX12_stage 24 = .ok (.bipush (-2), 2) := by decide +kernel
theorem dX12_stage_26 : decode cX12_stage 26 = .ok (.ireturn, 1) := by decide +kernel
theorem dX12_stage_27 : decode cX12_stage 27 = .ok (.aload_n 0, 1) := by decide +kernel
theorem dX12_stage_28 : decode cX12_stage 28 = .ok (.getfield 224, 3) := by decide +kernel
theorem dX12_stage_31 : decode cX12_stage 31 = .ok (.ifCond .eq 6, 3) := by decide +kernel
theorem dX12_stage_34 : decode cX12_stage 34 = .ok (.bipush (-4), 2) := by decide +kernel
theorem dX12_stage_36 : decode cX12_stage 36 = .ok (.ireturn, 1) := by decide +kernel
theorem dX12_stage_37 : decode cX12_stage 37 = .ok (.aload_n 0, 1) := by decide +kernel
theorem dX12_stage_38 : decode cX12_stage 38 = .ok (.getfield 286, 3) := by decide +kernel
theorem dX12_stage_41 : decode cX12_stage 41 = .ok (.bipush 8, 2) := by decide +kernel
theorem dX12_stage_43 : decode cX12_stage 43 = .ok (.if_icmp .ne 6, 3) := by decide +kernel
theorem dX12_stage_46 : decode cX12_stage 46 = .ok (.bipush (-3), 2) := by decide +kernel
theorem dX12_stage_48 : decode cX12_stage 48 = .ok (.ireturn, 1) := by decide +kernel
theorem dX12_stage_49 : decode cX12_stage 49 = .ok (.aload_n 0, 1) := by decide +kernel
theorem dX12_stage_50 : decode cX12_stage 50 = .ok (.getfield 183, 3) := by decide +kernel
theorem dX12_stage_53 : decode cX12_stage 53 = .ok (.aload_n 0, 1) := by decide +kernel
theorem dX12_stage_54 : decode cX12_stage 54 = .ok (.getfield 286, 3) := by decide +kernel
theorem dX12_stage_57 : decode cX12_stage 57 = .ok (.iload_n 1, 1) := by decide +kernel
theorem dX12_stage_58 : decode cX12_stage 58 = .ok (.iastore, 1) := by decide +kernel
theorem dX12_stage_59 : decode cX12_stage 59 = .ok (.aload_n 0, 1) := by decide +kernel
theorem dX12_stage_60 : decode cX12_stage 60 = .ok (.getfield 186, 3) := by decide +kernel
theorem dX12_stage_63 : decode cX12_stage 63 = .ok (.aload_n 0, 1) := by decide +kernel
theorem dX12_stage_64 : decode cX12_stage 64 = .ok (.getfield 286, 3) := by decide +kernel
theorem dX12_stage_67 : decode cX12_stage 67 = .ok (.iload_n 2, 1) := by decide +kernel
theorem dX12_stage_68 : decode cX12_stage 68 = .ok (.iastore, 1) := by decide +kernel
theorem dX12_stage_69 : decode cX12_stage 69 = .ok (.aload_n 0, 1) := by decide +kernel
theorem dX12_stage_70 : decode cX12_stage 70 = .ok (.dup, 1) := by decide +kernel
theorem dX12_stage_71 : decode cX12_stage 71 = .ok (.getfield 286, 3) := by decide +kernel
theorem dX12_stage_74 : decode cX12_stage 74 = .ok (.iconst 1, 1) := by decide +kernel
theorem dX12_stage_75 : decode cX12_stage 75 = .ok (.iadd, 1) := by decide +kernel
theorem dX12_stage_76 : decode cX12_stage 76 = .ok (.putfield 286, 3) := by decide +kernel
theorem dX12_stage_79 : decode cX12_stage 79 = .ok (.aload_n 0, 1) := by decide +kernel
theorem dX12_stage_80 : decode cX12_stage 80 = .ok (.getfield 286, 3) := by decide +kernel
theorem dX12_stage_83 : decode cX12_stage 83 = .ok (.iconst 1, 1) := by decide +kernel
theorem dX12_stage_84 : decode cX12_stage 84 = .ok (.isub, 1) := by decide +kernel
theorem dX12_stage_85 : decode cX12_stage 85 = .ok (.ireturn, 1) := by decide +kernel
theorem dX12_runs_0 : decode cX12_runs 0 = .ok (.aload_n 0, 1) := by decide +kernel
theorem dX12_runs_1 : decode cX12_runs 1 = .ok (.getfield 289, 3) := by decide +kernel
theorem dX12_runs_4 : decode cX12_runs 4 = .ok (.ifCond .le 32, 3) := by decide +kernel
theorem dX12_runs_7 : decode cX12_runs 7 = .ok (.aload_n 0, 1) := by decide +kernel
theorem dX12_runs_8 : decode cX12_runs 8 = .ok (.getfield 188, 3) := by decide +kernel
theorem dX12_runs_11 : decode cX12_runs 11 = .ok (.aload_n 0, 1) := by decide +kernel
theorem dX12_runs_12 : decode cX12_runs 12 = .ok (.getfield 289, 3) := by decide +kernel
theorem dX12_runs_15 : decode cX12_runs 15 = .ok (.iconst 1, 1) := by decide +kernel
theorem dX12_runs_16 : decode cX12_runs 16 = .ok (.isub, 1) := by decide +kernel
theorem dX12_runs_17 : decode cX12_runs 17 = .ok (.iaload, 1) := by decide +kernel
theorem dX12_runs_18 : decode cX12_runs 18 = .ok (.aload_n 0, 1) := by decide +kernel
theorem dX12_runs_19 : decode cX12_runs 19 = .ok (.getfield 186, 3) := by decide +kernel
theorem dX12_runs_22 : decode cX12_runs 22 = .ok (.aload_n 0, 1) := by decide +kernel
theorem dX12_runs_23 : decode cX12_runs 23 = .ok (.getfield 289, 3) := by decide +kernel
theorem dX12_runs_26 : decode cX12_runs 26 = .ok (.iconst 1, 1) := by decide +kernel
theorem dX12_runs_27 : decode cX12_runs 27 = .ok (.isub, 1) := by decide +kernel
theorem dX12_runs_28 : decode cX12_runs 28 = .ok (.iaload, 1) := by decide +kernel
theorem dX12_runs_29 : decode cX12_runs 29 = .ok (.if_icmp .ge 7, 3) := by decide +kernel
theorem dX12_runs_32 : decode cX12_runs 32 = .ok (.iconst 1, 1) := by decide +kernel
theorem dX12_runs_33 : decode cX12_runs 33 = .ok (.goto 4, 3) := by decide +kernel
theorem dX12_runs_36 : decode cX12_runs 36 = .ok (.iconst 0, 1) := by decide +kernel
theorem dX12_runs_37 : decode cX12_runs 37 = .ok (.ireturn, 1) := by decide +kernel
theorem dX12_begin_0 : decode cX12_begin 0 = .ok (.aload_n 0, 1) := by decide +kernel
theorem dX12_begin_1 : decode cX12_begin 1 = .ok (.getfield 224, 3) := by decide +kernel
theorem dX12_begin_4 : decode cX12_begin 4 = .ok (.ifCond .ne 21, 3) := by decide +kernel
theorem dX12_begin_7 : decode cX12_begin 7 = .ok (.aload_n 0, 1) := by decide +kernel
theorem dX12_begin_8 : decode cX12_begin 8 = .ok (.invokevirtual 292, 3) := by decide +kernel
theorem dX12_begin_11 : decode cX12_begin 11 = .ok (.ifCond .ne 14, 3) := by decide +kernel
theorem dX12_begin_14 : decode cX12_begin 14 = .ok (.aload_n 0, 1) := by decide +kernel
theorem dX12_begin_15 : decode cX12_begin 15 = .ok (.getfield 289, 3) := by decide +kernel
theorem dX12_begin_18 : decode cX12_begin 18 = .ok (.aload_n 0, 1) := by decide +kernel
theorem dX12_begin_19 : decode cX12_begin 19 = .ok (.getfield 286, 3) := by decide +kernel
theorem dX12_begin_22 : decode cX12_begin 22 = .ok (.if_icmp .ne 6, 3) := by decide +kernel
theorem dX12_begin_25 : decode cX12_begin 25 = .ok (.bipush (-4), 2) := by decide +kernel
theorem dX12_begin_27 : decode cX12_begin 27 = .ok (.ireturn, 1) := by decide +kernel
theorem dX12_begin_28 : decode cX12_begin 28 = .ok (.aload_n 0, 1) := by decide +kernel
theorem dX12_begin_29 : decode cX12_begin 29 = .ok (.dup, 1) := by decide +kernel
theorem dX12_begin_30 : decode cX12_begin 30 = .ok (.getfield 289, 3) := by decide +kernel
theorem dX12_begin_33 : decode cX12_begin 33 = .ok (.iconst 1, 1) := by decide +kernel
theorem dX12_begin_34 : decode cX12_begin 34 = .ok (.iadd, 1) := by decide +kernel
theorem dX12_begin_35 : decode cX12_begin 35 = .ok (.putfield 289, 3) := by decide +kernel
theorem dX12_begin_38 : decode cX12_begin 38 = .ok (.aload_n 0, 1) := by decide +kernel
theorem dX12_begin_39 : decode cX12_begin 39 = .ok (.getfield 289, 3) := by decide +kernel
theorem dX12_begin_42 : decode cX12_begin 42 = .ok (.iconst 1, 1) := by decide +kernel
theorem dX12_begin_43 : decode cX12_begin 43 = .ok (.isub, 1) := by decide +kernel
theorem dX12_begin_44 : decode cX12_begin 44 = .ok (.ireturn, 1) := by decide +kernel
theorem dX12_built_0 : decode cX12_built 0 = .ok (.iload_n 1, 1) := by decide +kernel
theorem dX12_built_1 : decode cX12_built 1 = .ok (.i2l, 1) := by decide +kernel
theorem dX12_built_2 : decode cX12_built 2 = .ok (.lconst 0, 1) := by decide +kernel
theorem dX12_built_3 : decode cX12_built 3 = .ok (.aload_n 0, 1) := by decide +kernel
theorem dX12_built_4 : decode cX12_built 4 = .ok (.getfield 286, 3) := by decide +kernel
theorem dX12_built_7 : decode cX12_built 7 = .ok (.i2l, 1) := by decide +kernel
theorem dX12_built_8 : decode cX12_built 8 = .ok (.lconst 1, 1) := by decide +kernel
theorem dX12_built_9 : decode cX12_built 9 = .ok (.lsub, 1) := by decide +kernel
theorem dX12_built_10 : decode cX12_built 10 = .ok (.invokestatic 58, 3) := by decide +kernel
theorem dX12_built_13 : decode cX12_built 13 = .ok (.ifCond .ne 5, 3) := by decide +kernel
theorem dX12_built_16 : decode cX12_built 16 = .ok (.iconst (-1), 1) := by decide +kernel
theorem dX12_built_17 : decode cX12_built 17 = .ok (.ireturn, 1) := by decide +kernel
theorem dX12_built_18 : decode cX12_built 18 = .ok (.iload_n 2, 1) := by decide +kernel
theorem dX12_built_19 : decode cX12_built 19 = .ok (.tableswitch 94 0 4 #[33, 40, 47, 80, 87], 33) := by decide +kernel
theorem dX12_built_52 : decode cX12_built 52 = .ok (.aload_n 0, 1) := by decide +kernel
theorem dX12_built_53 : decode cX12_built 53 = .ok (.getfield 183, 3) := by decide +kernel
theorem dX12_built_56 : decode cX12_built 56 = .ok (.iload_n 1, 1) := by decide +kernel
theorem dX12_built_57 : decode cX12_built 57 = .ok (.iaload, 1) := by decide +kernel
theorem dX12_built_58 : decode cX12_built 58 = .ok (.ireturn, 1) := by decide +kernel
theorem dX12_built_59 : decode cX12_built 59 = .ok (.aload_n 0, 1) := by decide +kernel
theorem dX12_built_60 : decode cX12_built 60 = .ok (.getfield 186, 3) := by decide +kernel
theorem dX12_built_63 : decode cX12_built 63 = .ok (.iload_n 1, 1) := by decide +kernel
theorem dX12_built_64 : decode cX12_built 64 = .ok (.iaload, 1) := by decide +kernel
theorem dX12_built_65 : decode cX12_built 65 = .ok (.ireturn, 1) := by decide +kernel
theorem dX12_built_66 : decode cX12_built 66 = .ok (.iload_n 1, 1) := by decide +kernel
theorem dX12_built_67 : decode cX12_built 67 = .ok (.aload_n 0, 1) := by decide +kernel
theorem dX12_built_68 : decode cX12_built 68 = .ok (.getfield 289, 3) := by decide +kernel
theorem dX12_built_71 : decode cX12_built 71 = .ok (.if_icmp .lt 7, 3) := by decide +kernel
theorem dX12_built_74 : decode cX12_built 74 = .ok (.iconst 0, 1) := by decide +kernel
theorem dX12_built_75 : decode cX12_built 75 = .ok (.goto 23, 3) := by decide +kernel
theorem dX12_built_78 : decode cX12_built 78 = .ok (.aload_n 0, 1) := by decide +kernel
theorem dX12_built_79 : decode cX12_built 79 = .ok (.getfield 188, 3) := by decide +kernel
theorem dX12_built_82 : decode cX12_built 82 = .ok (.iload_n 1, 1) := by decide +kernel
theorem dX12_built_83 : decode cX12_built 83 = .ok (.iaload, 1) := by decide +kernel
theorem dX12_built_84 : decode cX12_built 84 = .ok (.aload_n 0, 1) := by decide +kernel
theorem dX12_built_85 : decode cX12_built 85 = .ok (.getfield 186, 3) := by decide +kernel
theorem dX12_built_88 : decode cX12_built 88 = .ok (.iload_n 1, 1) := by decide +kernel
theorem dX12_built_89 : decode cX12_built 89 = .ok (.iaload, 1) := by decide +kernel
theorem dX12_built_90 : decode cX12_built 90 = .ok (.if_icmp .ge 7, 3) := by decide +kernel
theorem dX12_built_93 : decode cX12_built 93 = .ok (.iconst 1, 1) := by decide +kernel
theorem dX12_built_94 : decode cX12_built 94 = .ok (.goto 4, 3) := by decide +kernel
theorem dX12_built_97 : decode cX12_built 97 = .ok (.iconst 2, 1) := by decide +kernel
theorem dX12_built_98 : decode cX12_built 98 = .ok (.ireturn, 1) := by decide +kernel
theorem dX12_built_99 : decode cX12_built 99 = .ok (.aload_n 0, 1) := by decide +kernel
theorem dX12_built_100 : decode cX12_built 100 = .ok (.getfield 191, 3) := by decide +kernel
theorem dX12_built_103 : decode cX12_built 103 = .ok (.iload_n 1, 1) := by decide +kernel
theorem dX12_built_104 : decode cX12_built 104 = .ok (.iaload, 1) := by decide +kernel
theorem dX12_built_105 : decode cX12_built 105 = .ok (.ireturn, 1) := by decide +kernel
theorem dX12_built_106 : decode cX12_built 106 = .ok (.aload_n 0, 1) := by decide +kernel
theorem dX12_built_107 : decode cX12_built 107 = .ok (.getfield 194, 3) := by decide +kernel
theorem dX12_built_110 : decode cX12_built 110 = .ok (.iload_n 1, 1) := by decide +kernel
theorem dX12_built_111 : decode cX12_built 111 = .ok (.iaload, 1) := by decide +kernel
theorem dX12_built_112 : decode cX12_built 112 = .ok (.ireturn, 1) := by decide +kernel
theorem dX12_built_113 : decode cX12_built 113 = .ok (.iconst (-1), 1) := by decide +kernel
theorem dX12_built_114 : decode cX12_built 114 = .ok (.ireturn, 1) := by decide +kernel
theorem dX12_lapse_0 : decode cX12_lapse 0 = .ok (.aload_n 0, 1) := by decide +kernel
theorem dX12_lapse_1 : decode cX12_lapse 1 = .ok (.getfield 153, 3) := by decide +kernel
theorem dX12_lapse_4 : decode cX12_lapse 4 = .ok (.iload_n 1, 1) := by decide +kernel
theorem dX12_lapse_5 : decode cX12_lapse 5 = .ok (.baload, 1) := by decide +kernel
theorem dX12_lapse_6 : decode cX12_lapse 6 = .ok (.ifCond .ne 17, 3) := by decide +kernel
theorem dX12_lapse_9 : decode cX12_lapse 9 = .ok (.aload_n 0, 1) := by decide +kernel
theorem dX12_lapse_10 : decode cX12_lapse 10 = .ok (.iload_n 1, 1) := by decide +kernel
theorem dX12_lapse_11 : decode cX12_lapse 11 = .ok (.invokevirtual 279, 3) := by decide +kernel
theorem dX12_lapse_14 : decode cX12_lapse 14 = .ok (.aload_n 0, 1) := by decide +kernel
theorem dX12_lapse_15 : decode cX12_lapse 15 = .ok (.getfield 114, 3) := by decide +kernel
theorem dX12_lapse_18 : decode cX12_lapse 18 = .ok (.iconst 4, 1) := by decide +kernel
theorem dX12_lapse_19 : decode cX12_lapse 19 = .ok (.iaload, 1) := by decide +kernel
theorem dX12_lapse_20 : decode cX12_lapse 20 = .ok (.if_icmp .ge 4, 3) := by decide +kernel
theorem dX12_lapse_23 : decode cX12_lapse 23 = .ok (.return_, 1) := by decide +kernel
theorem dX12_lapse_24 : decode cX12_lapse 24 = .ok (.aload_n 0, 1) := by decide +kernel
theorem dX12_lapse_25 : decode cX12_lapse 25 = .ok (.getfield 153, 3) := by decide +kernel
theorem dX12_lapse_28 : decode cX12_lapse 28 = .ok (.iload_n 1, 1) := by decide +kernel
theorem dX12_lapse_29 : decode cX12_lapse 29 = .ok (.iconst 1, 1) := by decide +kernel
theorem dX12_lapse_30 : decode cX12_lapse 30 = .ok (.bastore, 1) := by decide +kernel
theorem dX12_lapse_31 : decode cX12_lapse 31 = .ok (.aload_n 0, 1) := by decide +kernel
theorem dX12_lapse_32 : decode cX12_lapse 32 = .ok (.getfield 150, 3) := by decide +kernel
theorem dX12_lapse_35 : decode cX12_lapse 35 = .ok (.iload_n 1, 1) := by decide +kernel
theorem dX12_lapse_36 : decode cX12_lapse 36 = .ok (.iaload, 1) := by decide +kernel
theorem dX12_lapse_37 : decode cX12_lapse 37 = .ok (.iconst (-1), 1) := by decide +kernel
theorem dX12_lapse_38 : decode cX12_lapse 38 = .ok (.if_icmp .ne 13, 3) := by decide +kernel
theorem dX12_lapse_41 : decode cX12_lapse 41 = .ok (.aload_n 0, 1) := by decide +kernel
theorem dX12_lapse_42 : decode cX12_lapse 42 = .ok (.getfield 150, 3) := by decide +kernel
theorem dX12_lapse_45 : decode cX12_lapse 45 = .ok (.iload_n 1, 1) := by decide +kernel
theorem dX12_lapse_46 : decode cX12_lapse 46 = .ok (.aload_n 0, 1) := by decide +kernel
theorem dX12_lapse_47 : decode cX12_lapse 47 = .ok (.getfield 230, 3) := by decide +kernel
theorem dX12_lapse_50 : decode cX12_lapse 50 = .ok (.iastore, 1) := by decide +kernel
theorem dX12_lapse_51 : decode cX12_lapse 51 = .ok (.iconst 0, 1) := by decide +kernel
theorem dX12_lapse_52 : decode cX12_lapse 52 = .ok (.istore_n 2, 1) := by decide +kernel
theorem dX12_lapse_53 : decode cX12_lapse 53 = .ok (.iload_n 2, 1) := by decide +kernel
theorem dX12_lapse_54 : decode cX12_lapse 54 = .ok (.aload_n 0, 1) := by decide +kernel
theorem dX12_lapse_55 : decode cX12_lapse 55 = .ok (.getfield 147, 3) := by decide +kernel
theorem dX12_lapse_58 : decode cX12_lapse 58 = .ok (.iload_n 1, 1) := by decide +kernel
theorem dX12_lapse_59 : decode cX12_lapse 59 = .ok (.iaload, 1) := by decide +kernel
theorem dX12_lapse_60 : decode cX12_lapse 60 = .ok (.if_icmp .ge 61, 3) := by decide +kernel
theorem dX12_lapse_63 : decode cX12_lapse 63 = .ok (.bipush 84, 2) := by decide +kernel
theorem dX12_lapse_65 : decode cX12_lapse 65 = .ok (.iload_n 1, 1) := by decide +kernel
theorem dX12_lapse_66 : decode cX12_lapse 66 = .ok (.imul, 1) := by decide +kernel
theorem dX12_lapse_67 : decode cX12_lapse 67 = .ok (.iload_n 2, 1) := by decide +kernel
theorem dX12_lapse_68 : decode cX12_lapse 68 = .ok (.iadd, 1) := by decide +kernel
theorem dX12_lapse_69 : decode cX12_lapse 69 = .ok (.istore_n 3, 1) := by decide +kernel
theorem dX12_lapse_70 : decode cX12_lapse 70 = .ok (.aload_n 0, 1) := by decide +kernel
theorem dX12_lapse_71 : decode cX12_lapse 71 = .ok (.getfield 162, 3) := by decide +kernel
theorem dX12_lapse_74 : decode cX12_lapse 74 = .ok (.iload_n 3, 1) := by decide +kernel
theorem dX12_lapse_75 : decode cX12_lapse 75 = .ok (.iaload, 1) := by decide +kernel
theorem dX12_lapse_76 : decode cX12_lapse 76 = .ok (.aload_n 0, 1) := by decide +kernel
theorem dX12_lapse_77 : decode cX12_lapse 77 = .ok (.getfield 159, 3) := by decide +kernel
theorem dX12_lapse_80 : decode cX12_lapse 80 = .ok (.iload_n 3, 1) := by decide +kernel
theorem dX12_lapse_81 : decode cX12_lapse 81 = .ok (.iaload, 1) := by decide +kernel
theorem dX12_lapse_82 : decode cX12_lapse 82 = .ok (.if_icmp .ne 6, 3) := by decide +kernel
theorem dX12_lapse_85 : decode cX12_lapse 85 = .ok (.goto 30, 3) := by decide +kernel
theorem dX12_lapse_88 : decode cX12_lapse 88 = .ok (.aload_n 0, 1) := by decide +kernel
theorem dX12_lapse_89 : decode cX12_lapse 89 = .ok (.getfield 165, 3) := by decide +kernel
theorem dX12_lapse_92 : decode cX12_lapse 92 = .ok (.iload_n 3, 1) := by decide +kernel
theorem dX12_lapse_93 : decode cX12_lapse 93 = .ok (.iconst 0, 1) := by decide +kernel
theorem dX12_lapse_94 : decode cX12_lapse 94 = .ok (.bastore, 1) := by decide +kernel
theorem dX12_lapse_95 : decode cX12_lapse 95 = .ok (.aload_n 0, 1) := by decide +kernel
theorem dX12_lapse_96 : decode cX12_lapse 96 = .ok (.iload_n 1, 1) := by decide +kernel
theorem dX12_lapse_97 : decode cX12_lapse 97 = .ok (.iload_n 2, 1) := by decide +kernel
theorem dX12_lapse_98 : decode cX12_lapse 98 = .ok (.invokevirtual 240, 3) := by decide +kernel
theorem dX12_lapse_101 : decode cX12_lapse 101 = .ok (.aload_n 0, 1) := by decide +kernel
theorem dX12_lapse_102 : decode cX12_lapse 102 = .ok (.getfield 230, 3) := by decide +kernel
theorem dX12_lapse_105 : decode cX12_lapse 105 = .ok (.if_icmp .le 10, 3) := by decide +kernel
theorem dX12_lapse_108 : decode cX12_lapse 108 = .ok (.aload_n 0, 1) := by decide +kernel
theorem dX12_lapse_109 : decode cX12_lapse 109 = .ok (.getfield 168, 3) := by decide +kernel
theorem dX12_lapse_112 : decode cX12_lapse 112 = .ok (.iload_n 3, 1) := by decide +kernel
theorem dX12_lapse_113 : decode cX12_lapse 113 = .ok (.iconst 0, 1) := by decide +kernel
theorem dX12_lapse_114 : decode cX12_lapse 114 = .ok (.bastore, 1) := by decide +kernel
theorem dX12_lapse_115 : decode cX12_lapse 115 = .ok (.iinc 2 1, 3) := by decide +kernel
theorem dX12_lapse_118 : decode cX12_lapse 118 = .ok (.goto (-65), 3) := by decide +kernel
theorem dX12_lapse_121 : decode cX12_lapse 121 = .ok (.return_, 1) := by decide +kernel
theorem dX12_build_0 : decode cX12_build 0 = .ok (.aload_n 0, 1) := by decide +kernel
theorem dX12_build_1 : decode cX12_build 1 = .ok (.getfield 289, 3) := by decide +kernel
theorem dX12_build_4 : decode cX12_build 4 = .ok (.iconst 1, 1) := by decide +kernel
theorem dX12_build_5 : decode cX12_build 5 = .ok (.isub, 1) := by decide +kernel
theorem dX12_build_6 : decode cX12_build 6 = .ok (.istore_n 1, 1) := by decide +kernel
theorem dX12_build_7 : decode cX12_build 7 = .ok (.aload_n 0, 1) := by decide +kernel
theorem dX12_build_8 : decode cX12_build 8 = .ok (.getfield 183, 3) := by decide +kernel
theorem dX12_build_11 : decode cX12_build 11 = .ok (.iload_n 1, 1) := by decide +kernel
theorem dX12_build_12 : decode cX12_build 12 = .ok (.iaload, 1) := by decide +kernel
theorem dX12_build_13 : decode cX12_build 13 = .ok (.aload_n 0, 1) := by decide +kernel
theorem dX12_build_14 : decode cX12_build 14 = .ok (.getfield 186, 3) := by decide +kernel
theorem dX12_build_17 : decode cX12_build 17 = .ok (.iload_n 1, 1) := by decide +kernel
theorem dX12_build_18 : decode cX12_build 18 = .ok (.iaload, 1) := by decide +kernel
theorem dX12_build_19 : decode cX12_build 19 = .ok (.idiv, 1) := by decide +kernel
theorem dX12_build_20 : decode cX12_build 20 = .ok (.istore_n 2, 1) := by decide +kernel
theorem dX12_build_21 : decode cX12_build 21 = .ok (.aload_n 0, 1) := by decide +kernel
theorem dX12_build_22 : decode cX12_build 22 = .ok (.getfield 188, 3) := by decide +kernel
theorem dX12_build_25 : decode cX12_build 25 = .ok (.iload_n 1, 1) := by decide +kernel
theorem dX12_build_26 : decode cX12_build 26 = .ok (.iaload, 1) := by decide +kernel
theorem dX12_build_27 : decode cX12_build 27 = .ok (.aload_n 0, 1) := by decide +kernel
theorem dX12_build_28 : decode cX12_build 28 = .ok (.getfield 186, 3) := by decide +kernel
theorem dX12_build_31 : decode cX12_build 31 = .ok (.iload_n 1, 1) := by decide +kernel
theorem dX12_build_32 : decode cX12_build 32 = .ok (.iaload, 1) := by decide +kernel
theorem dX12_build_33 : decode cX12_build 33 = .ok (.iconst 1, 1) := by decide +kernel
theorem dX12_build_34 : decode cX12_build 34 = .ok (.isub, 1) := by decide +kernel
theorem dX12_build_35 : decode cX12_build 35 = .ok (.if_icmp .ne 21, 3) := by decide +kernel
theorem dX12_build_38 : decode cX12_build 38 = .ok (.aload_n 0, 1) := by decide +kernel
theorem dX12_build_39 : decode cX12_build 39 = .ok (.getfield 183, 3) := by decide +kernel
theorem dX12_build_42 : decode cX12_build 42 = .ok (.iload_n 1, 1) := by decide +kernel
theorem dX12_build_43 : decode cX12_build 43 = .ok (.iaload, 1) := by decide +kernel
theorem dX12_build_44 : decode cX12_build 44 = .ok (.iload_n 2, 1) := by decide +kernel
theorem dX12_build_45 : decode cX12_build 45 = .ok (.aload_n 0, 1) := by decide +kernel
theorem dX12_build_46 : decode cX12_build 46 = .ok (.getfield 188, 3) := by decide +kernel
theorem dX12_build_49 : decode cX12_build 49 = .ok (.iload_n 1, 1) := by decide +kernel
theorem dX12_build_50 : decode cX12_build 50 = .ok (.iaload, 1) := by decide +kernel
theorem dX12_build_51 : decode cX12_build 51 = .ok (.imul, 1) := by decide +kernel
theorem dX12_build_52 : decode cX12_build 52 = .ok (.isub, 1) := by decide +kernel
theorem dX12_build_53 : decode cX12_build 53 = .ok (.goto 4, 3) := by decide +kernel
theorem dX12_build_56 : decode cX12_build 56 = .ok (.iload_n 2, 1) := by decide +kernel
theorem dX12_build_57 : decode cX12_build 57 = .ok (.istore_n 3, 1) := by decide +kernel
theorem dX12_build_58 : decode cX12_build 58 = .ok (.iconst 0, 1) := by decide +kernel
theorem dX12_build_59 : decode cX12_build 59 = .ok (.bipush 100, 2) := by decide +kernel
theorem dX12_build_61 : decode cX12_build 61 = .ok (.aload_n 0, 1) := by decide +kernel
theorem dX12_build_62 : decode cX12_build 62 = .ok (.getfield 114, 3) := by decide +kernel
theorem dX12_build_65 : decode cX12_build 65 = .ok (.iconst 5, 1) := by decide +kernel
theorem dX12_build_66 : decode cX12_build 66 = .ok (.iaload, 1) := by decide +kernel
theorem dX12_build_67 : decode cX12_build 67 = .ok (.imul, 1) := by decide +kernel
theorem dX12_build_68 : decode cX12_build 68 = .ok (.aload_n 0, 1) := by decide +kernel
theorem dX12_build_69 : decode cX12_build 69 = .ok (.getfield 296, 3) := by decide +kernel
theorem dX12_build_72 : decode cX12_build 72 = .ok (.isub, 1) := by decide +kernel
theorem dX12_build_73 : decode cX12_build 73 = .ok (.invokestatic 259, 3) := by decide +kernel
theorem dX12_build_76 : decode cX12_build 76 = .ok (.istore 4, 2) := by decide +kernel
theorem dX12_build_78 : decode cX12_build 78 = .ok (.aload_n 0, 1) := by decide +kernel
theorem dX12_build_79 : decode cX12_build 79 = .ok (.getfield 262, 3) := by decide +kernel
theorem dX12_build_82 : decode cX12_build 82 = .ok (.i2l, 1) := by decide +kernel
theorem dX12_build_83 : decode cX12_build 83 = .ok (.iload 4, 2) := by decide +kernel
theorem dX12_build_85 : decode cX12_build 85 = .ok (.i2l, 1) := by decide +kernel
theorem dX12_build_86 : decode cX12_build 86 = .ok (.ladd, 1) := by decide +kernel
theorem dX12_build_87 : decode cX12_build 87 = .ok (.iload_n 3, 1) := by decide +kernel
theorem dX12_build_88 : decode cX12_build 88 = .ok (.i2l, 1) := by decide +kernel
theorem dX12_build_89 : decode cX12_build 89 = .ok (.lcmp, 1) := by decide +kernel
theorem dX12_build_90 : decode cX12_build 90 = .ok (.ifCond .ge 14, 3) := by decide +kernel
theorem dX12_build_93 : decode cX12_build 93 = .ok (.aload_n 0, 1) := by decide +kernel
theorem dX12_build_94 : decode cX12_build 94 = .ok (.getfield 194, 3) := by decide +kernel
theorem dX12_build_97 : decode cX12_build 97 = .ok (.iload_n 1, 1) := by decide +kernel
theorem dX12_build_98 : decode cX12_build 98 = .ok (.dup2, 1) := by decide +kernel
theorem dX12_build_99 : decode cX12_build 99 = .ok (.iaload, 1) := by decide +kernel
theorem dX12_build_100 : decode cX12_build 100 = .ok (.iconst 1, 1) := by decide +kernel
theorem dX12_build_101 : decode cX12_build 101 = .ok (.iadd, 1) := by decide +kernel
theorem dX12_build_102 : decode cX12_build 102 = .ok (.iastore, 1) := by decide +kernel
theorem dX12_build_103 : decode cX12_build 103 = .ok (.return_, 1) := by decide +kernel
theorem dX12_build_104 : decode cX12_build 104 = .ok (.aload_n 0, 1) := by decide +kernel
theorem dX12_build_105 : decode cX12_build 105 = .ok (.getfield 262, 3) := by decide +kernel
theorem dX12_build_108 : decode cX12_build 108 = .ok (.iload_n 3, 1) := by decide +kernel
theorem dX12_build_109 : decode cX12_build 109 = .ok (.invokestatic 254, 3) := by decide +kernel
theorem dX12_build_112 : decode cX12_build 112 = .ok (.istore 5, 2) := by decide +kernel
theorem dX12_build_114 : decode cX12_build 114 = .ok (.aload_n 0, 1) := by decide +kernel
theorem dX12_build_115 : decode cX12_build 115 = .ok (.dup, 1) := by decide +kernel
theorem dX12_build_116 : decode cX12_build 116 = .ok (.getfield 262, 3) := by decide +kernel
theorem dX12_build_119 : decode cX12_build 119 = .ok (.iload 5, 2) := by decide +kernel
theorem dX12_build_121 : decode cX12_build 121 = .ok (.isub, 1) := by decide +kernel
theorem dX12_build_122 : decode cX12_build 122 = .ok (.putfield 262, 3) := by decide +kernel
theorem dX12_build_125 : decode cX12_build 125 = .ok (.aload_n 0, 1) := by decide +kernel
theorem dX12_build_126 : decode cX12_build 126 = .ok (.dup, 1) := by decide +kernel
theorem dX12_build_127 : decode cX12_build 127 = .ok (.getfield 296, 3) := by decide +kernel
theorem dX12_build_130 : decode cX12_build 130 = .ok (.iload_n 3, 1) := by decide +kernel
theorem dX12_build_131 : decode cX12_build 131 = .ok (.iload 5, 2) := by decide +kernel
theorem dX12_build_133 : decode cX12_build 133 = .ok (.isub, 1) := by decide +kernel
theorem dX12_build_134 : decode cX12_build 134 = .ok (.iadd, 1) := by decide +kernel
theorem dX12_build_135 : decode cX12_build 135 = .ok (.putfield 296, 3) := by decide +kernel
theorem dX12_build_138 : decode cX12_build 138 = .ok (.aload_n 0, 1) := by decide +kernel
theorem dX12_build_139 : decode cX12_build 139 = .ok (.dup, 1) := by decide +kernel
theorem dX12_build_140 : decode cX12_build 140 = .ok (.getfield 298, 3) := by decide +kernel
theorem dX12_build_143 : decode cX12_build 143 = .ok (.iload_n 3, 1) := by decide +kernel
theorem dX12_build_144 : decode cX12_build 144 = .ok (.iadd, 1) := by decide +kernel
theorem dX12_build_145 : decode cX12_build 145 = .ok (.putfield 298, 3) := by decide +kernel
theorem dX12_build_148 : decode cX12_build 148 = .ok (.aload_n 0, 1) := by decide +kernel
theorem dX12_build_149 : decode cX12_build 149 = .ok (.getfield 191, 3) := by decide +kernel
theorem dX12_build_152 : decode cX12_build 152 = .ok (.iload_n 1, 1) := by decide +kernel
theorem dX12_build_153 : decode cX12_build 153 = .ok (.dup2, 1) := by decide +kernel
theorem dX12_build_154 : decode cX12_build 154 = .ok (.iaload, 1) := by decide +kernel
theorem dX12_build_155 : decode cX12_build 155 = .ok (.iload_n 3, 1) := by decide +kernel
theorem dX12_build_156 : decode cX12_build 156 = .ok (.iadd, 1) := by decide +kernel
theorem dX12_build_157 : decode cX12_build 157 = .ok (.iastore, 1) := by decide +kernel
theorem dX12_build_158 : decode cX12_build 158 = .ok (.aload_n 0, 1) := by decide +kernel
theorem dX12_build_159 : decode cX12_build 159 = .ok (.getfield 188, 3) := by decide +kernel
theorem dX12_build_162 : decode cX12_build 162 = .ok (.iload_n 1, 1) := by decide +kernel
theorem dX12_build_163 : decode cX12_build 163 = .ok (.dup2, 1) := by decide +kernel
theorem dX12_build_164 : decode cX12_build 164 = .ok (.iaload, 1) := by decide +kernel
theorem dX12_build_165 : decode cX12_build 165 = .ok (.iconst 1, 1) := by decide +kernel
theorem dX12_build_166 : decode cX12_build 166 = .ok (.iadd, 1) := by decide +kernel
theorem dX12_build_167 : decode cX12_build 167 = .ok (.iastore, 1) := by decide +kernel
theorem dX12_build_168 : decode cX12_build 168 = .ok (.return_, 1) := by decide +kernel
theorem dX12_endMonth_0 : decode cX12_endMonth 0 = .ok (.iconst 0, 1) := by decide +kernel
theorem dX12_endMonth_1 : decode cX12_endMonth 1 = .ok (.istore_n 1, 1) := by decide +kernel
theorem dX12_endMonth_2 : decode cX12_endMonth 2 = .ok (.iload_n 1, 1) := by decide +kernel
theorem dX12_endMonth_3 : decode cX12_endMonth 3 = .ok (.aload_n 0, 1) := by decide +kernel
theorem dX12_endMonth_4 : decode cX12_endMonth 4 = .ok (.getfield 237, 3) := by decide +kernel
theorem dX12_endMonth_7 : decode cX12_endMonth 7 = .ok (.if_icmp .ge 14, 3) := by decide +kernel
theorem dX12_endMonth_10 : decode cX12_endMonth 10 = .ok (.aload_n 0, 1) := by decide +kernel
theorem dX12_endMonth_11 : decode cX12_endMonth 11 = .ok (.iload_n 1, 1) := by decide +kernel
theorem dX12_endMonth_12 : decode cX12_endMonth 12 = .ok (.invokevirtual 301, 3) := by decide +kernel
theorem dX12_endMonth_15 : decode cX12_endMonth 15 = .ok (.iinc 1 1, 3) := by decide +kernel
theorem dX12_endMonth_18 : decode cX12_endMonth 18 = .ok (.goto (-16), 3) := by decide +kernel
theorem dX12_endMonth_21 : decode cX12_endMonth 21 = .ok (.aload_n 0, 1) := by decide +kernel
theorem dX12_endMonth_22 : decode cX12_endMonth 22 = .ok (.getfield 296, 3) := by decide +kernel
theorem dX12_endMonth_25 : decode cX12_endMonth 25 = .ok (.i2l, 1) := by decide +kernel
theorem dX12_endMonth_26 : decode cX12_endMonth 26 = .ok (.aload_n 0, 1) := by decide +kernel
theorem dX12_endMonth_27 : decode cX12_endMonth 27 = .ok (.getfield 114, 3) := by decide +kernel
theorem dX12_endMonth_30 : decode cX12_endMonth 30 = .ok (.bipush 6, 2) := by decide +kernel
theorem dX12_endMonth_32 : decode cX12_endMonth 32 = .ok (.iaload, 1) := by decide +kernel
theorem dX12_endMonth_33 : decode cX12_endMonth 33 = .ok (.i2l, 1) := by decide +kernel
theorem dX12_endMonth_34 : decode cX12_endMonth 34 = .ok (.lmul, 1) := by decide +kernel
theorem dX12_endMonth_35 : decode cX12_endMonth 35 = .ok (.ldc2_w 303, 3) := by decide +kernel
theorem dX12_endMonth_38 : decode cX12_endMonth 38 = .ok (.ldiv, 1) := by decide +kernel
theorem dX12_endMonth_39 : decode cX12_endMonth 39 = .ok (.l2i, 1) := by decide +kernel
theorem dX12_endMonth_40 : decode cX12_endMonth 40 = .ok (.istore_n 1, 1) := by decide +kernel
theorem dX12_endMonth_41 : decode cX12_endMonth 41 = .ok (.aload_n 0, 1) := by decide +kernel
theorem dX12_endMonth_42 : decode cX12_endMonth 42 = .ok (.dup, 1) := by decide +kernel
theorem dX12_endMonth_43 : decode cX12_endMonth 43 = .ok (.getfield 296, 3) := by decide +kernel
theorem dX12_endMonth_46 : decode cX12_endMonth 46 = .ok (.iload_n 1, 1) := by decide +kernel
theorem dX12_endMonth_47 : decode cX12_endMonth 47 = .ok (.iadd, 1) := by decide +kernel
theorem dX12_endMonth_48 : decode cX12_endMonth 48 = .ok (.putfield 296, 3) := by decide +kernel
theorem dX12_endMonth_51 : decode cX12_endMonth 51 = .ok (.aload_n 0, 1) := by decide +kernel
theorem dX12_endMonth_52 : decode cX12_endMonth 52 = .ok (.dup, 1) := by decide +kernel
theorem dX12_endMonth_53 : decode cX12_endMonth 53 = .ok (.getfield 305, 3) := by decide +kernel
theorem dX12_endMonth_56 : decode cX12_endMonth 56 = .ok (.iload_n 1, 1) := by decide +kernel
theorem dX12_endMonth_57 : decode cX12_endMonth 57 = .ok (.iadd, 1) := by decide +kernel
theorem dX12_endMonth_58 : decode cX12_endMonth 58 = .ok (.putfield 305, 3) := by decide +kernel
theorem dX12_endMonth_61 : decode cX12_endMonth 61 = .ok (.aload_n 0, 1) := by decide +kernel
theorem dX12_endMonth_62 : decode cX12_endMonth 62 = .ok (.invokevirtual 292, 3) := by decide +kernel
theorem dX12_endMonth_65 : decode cX12_endMonth 65 = .ok (.ifCond .eq 7, 3) := by decide +kernel
theorem dX12_endMonth_68 : decode cX12_endMonth 68 = .ok (.aload_n 0, 1) := by decide +kernel
theorem dX12_endMonth_69 : decode cX12_endMonth 69 = .ok (.invokevirtual 308, 3) := by decide +kernel
theorem dX12_endMonth_72 : decode cX12_endMonth 72 = .ok (.aload_n 0, 1) := by decide +kernel
theorem dX12_endMonth_73 : decode cX12_endMonth 73 = .ok (.getfield 262, 3) := by decide +kernel
theorem dX12_endMonth_76 : decode cX12_endMonth 76 = .ok (.aload_n 0, 1) := by decide +kernel
theorem dX12_endMonth_77 : decode cX12_endMonth 77 = .ok (.getfield 296, 3) := by decide +kernel
theorem dX12_endMonth_80 : decode cX12_endMonth 80 = .ok (.invokestatic 254, 3) := by decide +kernel
theorem dX12_endMonth_83 : decode cX12_endMonth 83 = .ok (.istore_n 2, 1) := by decide +kernel
theorem dX12_endMonth_84 : decode cX12_endMonth 84 = .ok (.aload_n 0, 1) := by decide +kernel
theorem dX12_endMonth_85 : decode cX12_endMonth 85 = .ok (.dup, 1) := by decide +kernel
theorem dX12_endMonth_86 : decode cX12_endMonth 86 = .ok (.getfield 262, 3) := by decide +kernel
theorem dX12_endMonth_89 : decode cX12_endMonth 89 = .ok (.iload_n 2, 1) := by decide +kernel
theorem dX12_endMonth_90 : decode cX12_endMonth 90 = .ok (.isub, 1) := by decide +kernel
theorem dX12_endMonth_91 : decode cX12_endMonth 91 = .ok (.putfield 262, 3) := by decide +kernel
theorem dX12_endMonth_94 : decode cX12_endMonth 94 = .ok (.aload_n 0, 1) := by decide +kernel
theorem dX12_endMonth_95 : decode cX12_endMonth 95 = .ok (.dup, 1) := by decide +kernel
theorem dX12_endMonth_96 : decode cX12_endMonth 96 = .ok (.getfield 296, 3) := by decide +kernel
theorem dX12_endMonth_99 : decode cX12_endMonth 99 = .ok (.iload_n 2, 1) := by decide +kernel
theorem dX12_endMonth_100 : decode cX12_endMonth 100 = .ok (.isub, 1) := by decide +kernel
theorem dX12_endMonth_101 : decode cX12_endMonth 101 = .ok (.putfield 296, 3) := by decide +kernel
theorem dX12_endMonth_104 : decode cX12_endMonth 104 = .ok (.aload_n 0, 1) := by decide +kernel
theorem dX12_endMonth_105 : decode cX12_endMonth 105 = .ok (.dup, 1) := by decide +kernel
theorem dX12_endMonth_106 : decode cX12_endMonth 106 = .ok (.getfield 230, 3) := by decide +kernel
theorem dX12_endMonth_109 : decode cX12_endMonth 109 = .ok (.iconst 1, 1) := by decide +kernel
theorem dX12_endMonth_110 : decode cX12_endMonth 110 = .ok (.iadd, 1) := by decide +kernel
theorem dX12_endMonth_111 : decode cX12_endMonth 111 = .ok (.putfield 230, 3) := by decide +kernel
theorem dX12_endMonth_114 : decode cX12_endMonth 114 = .ok (.return_, 1) := by decide +kernel
theorem dX12_months_0 : decode cX12_months 0 = .ok (.iload_n 1, 1) := by decide +kernel
theorem dX12_months_1 : decode cX12_months 1 = .ok (.i2l, 1) := by decide +kernel
theorem dX12_months_2 : decode cX12_months 2 = .ok (.lconst 1, 1) := by decide +kernel
theorem dX12_months_3 : decode cX12_months 3 = .ok (.ldc2_w 284, 3) := by decide +kernel
theorem dX12_months_6 : decode cX12_months 6 = .ok (.invokestatic 58, 3) := by decide +kernel
theorem dX12_months_9 : decode cX12_months 9 = .ok (.ifCond .eq 14, 3) := by decide +kernel
theorem dX12_months_12 : decode cX12_months 12 = .ok (.aload_n 0, 1) := by decide +kernel
theorem dX12_months_13 : decode cX12_months 13 = .ok (.getfield 230, 3) := by decide +kernel
theorem dX12_months_16 : decode cX12_months 16 = .ok (.iload_n 1, 1) := by decide +kernel
theorem dX12_months_17 : decode cX12_months 17 = .ok (.iadd, 1) := by decide +kernel
theorem dX12_months_18 : decode cX12_months 18 = .ok (.bipush 119, 2) := by decide +kernel
theorem dX12_months_20 : decode cX12_months 20 = .ok (.if_icmp .le 6, 3) := by decide +kernel
theorem dX12_months_23 : decode cX12_months 23 = .ok (.bipush (-2), 2) := by decide +kernel
theorem dX12_months_25 : decode cX12_months 25 = .ok (.ireturn, 1) := by decide +kernel
theorem dX12_months_26 : decode cX12_months 26 = .ok (.aload_n 0, 1) := by decide +kernel
theorem dX12_months_27 : decode cX12_months 27 = .ok (.getfield 224, 3) := by decide +kernel
theorem dX12_months_30 : decode cX12_months 30 = .ok (.ifCond .eq 6, 3) := by decide +kernel
theorem dX12_months_33 : decode cX12_months 33 = .ok (.bipush (-4), 2) := by decide +kernel
theorem dX12_months_35 : decode cX12_months 35 = .ok (.ireturn, 1) := by decide +kernel
theorem dX12_months_36 : decode cX12_months 36 = .ok (.iconst 0, 1) := by decide +kernel
theorem dX12_months_37 : decode cX12_months 37 = .ok (.istore_n 2, 1) := by decide +kernel
theorem dX12_months_38 : decode cX12_months 38 = .ok (.iload_n 2, 1) := by decide +kernel
theorem dX12_months_39 : decode cX12_months 39 = .ok (.iload_n 1, 1) := by decide +kernel
theorem dX12_months_40 : decode cX12_months 40 = .ok (.if_icmp .ge 13, 3) := by decide +kernel
theorem dX12_months_43 : decode cX12_months 43 = .ok (.aload_n 0, 1) := by decide +kernel
theorem dX12_months_44 : decode cX12_months 44 = .ok (.invokevirtual 311, 3) := by decide +kernel
theorem dX12_months_47 : decode cX12_months 47 = .ok (.iinc 2 1, 3) := by decide +kernel
theorem dX12_months_50 : decode cX12_months 50 = .ok (.goto (-12), 3) := by decide +kernel
theorem dX12_months_53 : decode cX12_months 53 = .ok (.aload_n 0, 1) := by decide +kernel
theorem dX12_months_54 : decode cX12_months 54 = .ok (.getfield 230, 3) := by decide +kernel
theorem dX12_months_57 : decode cX12_months 57 = .ok (.ireturn, 1) := by decide +kernel
theorem dX12_sure_0 : decode cX12_sure 0 = .ok (.iload_n 1, 1) := by decide +kernel
theorem dX12_sure_1 : decode cX12_sure 1 = .ok (.i2l, 1) := by decide +kernel
theorem dX12_sure_2 : decode cX12_sure 2 = .ok (.lconst 1, 1) := by decide +kernel
theorem dX12_sure_3 : decode cX12_sure 3 = .ok (.ldc2_w 235, 3) := by decide +kernel
theorem dX12_sure_6 : decode cX12_sure 6 = .ok (.invokestatic 58, 3) := by decide +kernel
theorem dX12_sure_9 : decode cX12_sure 9 = .ok (.ifCond .ne 6, 3) := by decide +kernel
theorem dX12_sure_12 : decode cX12_sure 12 = .ok (.bipush (-2), 2) := by decide +kernel
theorem dX12_sure_14 : decode cX12_sure 14 = .ok (.ireturn, 1) := by decide +kernel
theorem dX12_sure_15 : decode cX12_sure 15 = .ok (.lconst 0, 1) := by decide +kernel
theorem dX12_sure_16 : decode cX12_sure 16 = .ok (.lstore_n 2, 1) := by decide +kernel
theorem dX12_sure_17 : decode cX12_sure 17 = .ok (.lconst 0, 1) := by decide +kernel
theorem dX12_sure_18 : decode cX12_sure 18 = .ok (.lstore 4, 2) := by decide +kernel
theorem dX12_sure_20 : decode cX12_sure 20 = .ok (.lconst 0, 1) := by decide +kernel
theorem dX12_sure_21 : decode cX12_sure 21 = .ok (.lstore 6, 2) := by decide +kernel
theorem dX12_sure_23 : decode cX12_sure 23 = .ok (.iconst 0, 1) := by decide +kernel
theorem dX12_sure_24 : decode cX12_sure 24 = .ok (.istore 8, 2) := by decide +kernel
theorem dX12_sure_26 : decode cX12_sure 26 = .ok (.iload 8, 2) := by decide +kernel
theorem dX12_sure_28 : decode cX12_sure 28 = .ok (.aload_n 0, 1) := by decide +kernel
theorem dX12_sure_29 : decode cX12_sure 29 = .ok (.getfield 237, 3) := by decide +kernel
theorem dX12_sure_32 : decode cX12_sure 32 = .ok (.if_icmp .ge 150, 3) := by decide +kernel
theorem dX12_sure_35 : decode cX12_sure 35 = .ok (.iconst 0, 1) := by decide +kernel
theorem dX12_sure_36 : decode cX12_sure 36 = .ok (.istore 9, 2) := by decide +kernel
theorem dX12_sure_38 : decode cX12_sure 38 = .ok (.iload 9, 2) := by decide +kernel
theorem dX12_sure_40 : decode cX12_sure 40 = .ok (.aload_n 0, 1) := by decide +kernel
theorem dX12_sure_41 : decode cX12_sure 41 = .ok (.getfield 147, 3) := by decide +kernel
theorem dX12_sure_44 : decode cX12_sure 44 = .ok (.iload 8, 2) := by decide +kernel
theorem dX12_sure_46 : decode cX12_sure 46 = .ok (.iaload, 1) := by decide +kernel
theorem dX12_sure_47 : decode cX12_sure 47 = .ok (.if_icmp .ge 129, 3) := by decide +kernel
theorem dX12_sure_50 : decode cX12_sure 50 = .ok (.bipush 84, 2) := by decide +kernel
theorem dX12_sure_52 : decode cX12_sure 52 = .ok (.iload 8, 2) := by decide +kernel
theorem dX12_sure_54 : decode cX12_sure 54 = .ok (.imul, 1) := by decide +kernel
theorem dX12_sure_55 : decode cX12_sure 55 = .ok (.iload 9, 2) := by decide +kernel
theorem dX12_sure_57 : decode cX12_sure 57 = .ok (.iadd, 1) := by decide +kernel
theorem dX12_sure_58 : decode cX12_sure 58 = .ok (.istore 10, 2) := by decide +kernel
theorem dX12_sure_60 : decode cX12_sure 60 = .ok (.aload_n 0, 1) := by decide +kernel
theorem dX12_sure_61 : decode cX12_sure 61 = .ok (.iload 8, 2) := by decide +kernel
theorem dX12_sure_63 : decode cX12_sure 63 = .ok (.iload 9, 2) := by decide +kernel
theorem dX12_sure_65 : decode cX12_sure 65 = .ok (.invokevirtual 240, 3) := by decide +kernel
theorem dX12_sure_68 : decode cX12_sure 68 = .ok (.istore 11, 2) := by decide +kernel
theorem dX12_sure_70 : decode cX12_sure 70 = .ok (.aload_n 0, 1) := by decide +kernel
theorem dX12_sure_71 : decode cX12_sure 71 = .ok (.getfield 165, 3) := by decide +kernel
theorem dX12_sure_74 : decode cX12_sure 74 = .ok (.iload 10, 2) := by decide +kernel
theorem dX12_sure_76 : decode cX12_sure 76 = .ok (.baload, 1) := by decide +kernel
theorem dX12_sure_77 : decode cX12_sure 77 = .ok (.ifCond .eq 45, 3) := by decide +kernel
theorem dX12_sure_80 : decode cX12_sure 80 = .ok (.iload 11, 2) := by decide +kernel
theorem dX12_sure_82 : decode cX12_sure 82 = .ok (.i2l, 1) := by decide +kernel
theorem dX12_sure_83 : decode cX12_sure 83 = .ok (.aload_n 0, 1) := by decide +kernel
theorem dX12_sure_84 : decode cX12_sure 84 = .ok (.getfield 230, 3) := by decide +kernel
theorem dX12_sure_87 : decode cX12_sure 87 = .ok (.i2l, 1) := by decide +kernel
theorem dX12_sure_88 : decode cX12_sure 88 = .ok (.lconst 1, 1) := by decide +kernel
theorem dX12_sure_89 : decode cX12_sure 89 = .ok (.ladd, 1) := by decide +kernel
theorem dX12_sure_90 : decode cX12_sure 90 = .ok (.aload_n 0, 1) := by decide +kernel
theorem dX12_sure_91 : decode cX12_sure 91 = .ok (.getfield 230, 3) := by decide +kernel
theorem dX12_sure_94 : decode cX12_sure 94 = .ok (.iload_n 1, 1) := by decide +kernel
theorem dX12_sure_95 : decode cX12_sure 95 = .ok (.iadd, 1) := by decide +kernel
theorem dX12_sure_96 : decode cX12_sure 96 = .ok (.i2l, 1) := by decide +kernel
theorem dX12_sure_97 : decode cX12_sure 97 = .ok (.invokestatic 58, 3) := by decide +kernel
theorem dX12_sure_100 : decode cX12_sure 100 = .ok (.ifCond .eq 22, 3) := by decide +kernel
theorem dX12_sure_103 : decode cX12_sure 103 = .ok (.lload_n 2, 1) := by decide +kernel
theorem dX12_sure_104 : decode cX12_sure 104 = .ok (.aload_n 0, 1) := by decide +kernel
theorem dX12_sure_105 : decode cX12_sure 105 = .ok (.getfield 159, 3) := by decide +kernel
theorem dX12_sure_108 : decode cX12_sure 108 = .ok (.iload 10, 2) := by decide +kernel
theorem dX12_sure_110 : decode cX12_sure 110 = .ok (.iaload, 1) := by decide +kernel
theorem dX12_sure_111 : decode cX12_sure 111 = .ok (.aload_n 0, 1) := by decide +kernel
theorem dX12_sure_112 : decode cX12_sure 112 = .ok (.getfield 162, 3) := by decide +kernel
theorem dX12_sure_115 : decode cX12_sure 115 = .ok (.iload 10, 2) := by decide +kernel
theorem dX12_sure_117 : decode cX12_sure 117 = .ok (.iaload, 1) := by decide +kernel
theorem dX12_sure_118 : decode cX12_sure 118 = .ok (.isub, 1) := by decide +kernel
theorem dX12_sure_119 : decode cX12_sure 119 = .ok (.i2l, 1) := by decide +kernel
theorem dX12_sure_120 : decode cX12_sure 120 = .ok (.ladd, 1) := by decide +kernel
theorem dX12_sure_121 : decode cX12_sure 121 = .ok (.lstore_n 2, 1) := by decide +kernel
theorem dX12_sure_122 : decode cX12_sure 122 = .ok (.aload_n 0, 1) := by decide +kernel
theorem dX12_sure_123 : decode cX12_sure 123 = .ok (.getfield 168, 3) := by decide +kernel
theorem dX12_sure_126 : decode cX12_sure 126 = .ok (.iload 10, 2) := by decide +kernel
theorem dX12_sure_128 : decode cX12_sure 128 = .ok (.baload, 1) := by decide +kernel
theorem dX12_sure_129 : decode cX12_sure 129 = .ok (.ifCond .eq 41, 3) := by decide +kernel
theorem dX12_sure_132 : decode cX12_sure 132 = .ok (.iload 11, 2) := by decide +kernel
theorem dX12_sure_134 : decode cX12_sure 134 = .ok (.aload_n 0, 1) := by decide +kernel
theorem dX12_sure_135 : decode cX12_sure 135 = .ok (.getfield 230, 3) := by decide +kernel
theorem dX12_sure_138 : decode cX12_sure 138 = .ok (.if_icmp .le 6, 3) := by decide +kernel
theorem dX12_sure_141 : decode cX12_sure 141 = .ok (.goto 29, 3) := by decide +kernel
theorem dX12_sure_144 : decode cX12_sure 144 = .ok (.lload 4, 2) := by decide +kernel
theorem dX12_sure_146 : decode cX12_sure 146 = .ok (.aload_n 0, 1) := by decide +kernel
theorem dX12_sure_147 : decode cX12_sure 147 = .ok (.getfield 159, 3) := by decide +kernel
theorem dX12_sure_150 : decode cX12_sure 150 = .ok (.iload 10, 2) := by decide +kernel
theorem dX12_sure_152 : decode cX12_sure 152 = .ok (.iaload, 1) := by decide +kernel
theorem dX12_sure_153 : decode cX12_sure 153 = .ok (.i2l, 1) := by decide +kernel
theorem dX12_sure_154 : decode cX12_sure 154 = .ok (.ladd, 1) := by decide +kernel
theorem dX12_sure_155 : decode cX12_sure 155 = .ok (.lstore 4, 2) := by decide +kernel
theorem dX12_sure_157 : decode cX12_sure 157 = .ok (.lload 6, 2) := by decide +kernel
theorem dX12_sure_159 : decode cX12_sure 159 = .ok (.aload_n 0, 1) := by decide +kernel
theorem dX12_sure_160 : decode cX12_sure 160 = .ok (.getfield 162, 3) := by decide +kernel
theorem dX12_sure_163 : decode cX12_sure 163 = .ok (.iload 10, 2) := by decide +kernel
theorem dX12_sure_165 : decode cX12_sure 165 = .ok (.iaload, 1) := by decide +kernel
theorem dX12_sure_166 : decode cX12_sure 166 = .ok (.i2l, 1) := by decide +kernel
theorem dX12_sure_167 : decode cX12_sure 167 = .ok (.ladd, 1) := by decide +kernel
theorem dX12_sure_168 : decode cX12_sure 168 = .ok (.lstore 6, 2) := by decide +kernel
theorem dX12_sure_170 : decode cX12_sure 170 = .ok (.iinc 9 1, 3) := by decide +kernel
theorem dX12_sure_173 : decode cX12_sure 173 = .ok (.goto (-135), 3) := by decide +kernel
theorem dX12_sure_176 : decode cX12_sure 176 = .ok (.iinc 8 1, 3) := by decide +kernel
theorem dX12_sure_179 : decode cX12_sure 179 = .ok (.goto (-153), 3) := by decide +kernel
theorem dX12_sure_182 : decode cX12_sure 182 = .ok (.lload 4, 2) := by decide +kernel
theorem dX12_sure_184 : decode cX12_sure 184 = .ok (.lconst 0, 1) := by decide +kernel
theorem dX12_sure_185 : decode cX12_sure 185 = .ok (.lcmp, 1) := by decide +kernel
theorem dX12_sure_186 : decode cX12_sure 186 = .ok (.ifCond .ne 7, 3) := by decide +kernel
theorem dX12_sure_189 : decode cX12_sure 189 = .ok (.iconst 0, 1) := by decide +kernel
theorem dX12_sure_190 : decode cX12_sure 190 = .ok (.goto 11, 3) := by decide +kernel
theorem dX12_sure_193 : decode cX12_sure 193 = .ok (.lload_n 2, 1) := by decide +kernel
theorem dX12_sure_194 : decode cX12_sure 194 = .ok (.lload 6, 2) := by decide +kernel
theorem dX12_sure_196 : decode cX12_sure 196 = .ok (.lmul, 1) := by decide +kernel
theorem dX12_sure_197 : decode cX12_sure 197 = .ok (.lload 4, 2) := by decide +kernel
theorem dX12_sure_199 : decode cX12_sure 199 = .ok (.ldiv, 1) := by decide +kernel
theorem dX12_sure_200 : decode cX12_sure 200 = .ok (.l2i, 1) := by decide +kernel
theorem dX12_sure_201 : decode cX12_sure 201 = .ok (.ireturn, 1) := by decide +kernel
theorem dX12_carve_0 : decode cX12_carve 0 = .ok (.iconst 0, 1) := by decide +kernel
theorem dX12_carve_1 : decode cX12_carve 1 = .ok (.istore_n 1, 1) := by decide +kernel
theorem dX12_carve_2 : decode cX12_carve 2 = .ok (.iload_n 1, 1) := by decide +kernel
theorem dX12_carve_3 : decode cX12_carve 3 = .ok (.bipush 30, 2) := by decide +kernel
theorem dX12_carve_5 : decode cX12_carve 5 = .ok (.if_icmp .ge 16, 3) := by decide +kernel
theorem dX12_carve_8 : decode cX12_carve 8 = .ok (.aload_n 0, 1) := by decide +kernel
theorem dX12_carve_9 : decode cX12_carve 9 = .ok (.getfield 197, 3) := by decide +kernel
theorem dX12_carve_12 : decode cX12_carve 12 = .ok (.iload_n 1, 1) := by decide +kernel
theorem dX12_carve_13 : decode cX12_carve 13 = .ok (.iconst 0, 1) := by decide +kernel
theorem dX12_carve_14 : decode cX12_carve 14 = .ok (.iastore, 1) := by decide +kernel
theorem dX12_carve_15 : decode cX12_carve 15 = .ok (.iinc 1 1, 3) := by decide +kernel
theorem dX12_carve_18 : decode cX12_carve 18 = .ok (.goto (-16), 3) := by decide +kernel
theorem dX12_carve_21 : decode cX12_carve 21 = .ok (.iconst 0, 1) := by decide +kernel
theorem dX12_carve_22 : decode cX12_carve 22 = .ok (.istore_n 1, 1) := by decide +kernel
theorem dX12_carve_23 : decode cX12_carve 23 = .ok (.iconst 0, 1) := by decide +kernel
theorem dX12_carve_24 : decode cX12_carve 24 = .ok (.istore_n 2, 1) := by decide +kernel
theorem dX12_carve_25 : decode cX12_carve 25 = .ok (.iload_n 2, 1) := by decide +kernel
theorem dX12_carve_26 : decode cX12_carve 26 = .ok (.aload_n 0, 1) := by decide +kernel
theorem dX12_carve_27 : decode cX12_carve 27 = .ok (.getfield 246, 3) := by decide +kernel
theorem dX12_carve_30 : decode cX12_carve 30 = .ok (.if_icmp .ge 103, 3) := by decide +kernel
theorem dX12_carve_33 : decode cX12_carve 33 = .ok (.aload_n 0, 1) := by decide +kernel
theorem dX12_carve_34 : decode cX12_carve 34 = .ok (.getfield 171, 3) := by decide +kernel
theorem dX12_carve_37 : decode cX12_carve 37 = .ok (.iload_n 2, 1) := by decide +kernel
theorem dX12_carve_38 : decode cX12_carve 38 = .ok (.iaload, 1) := by decide +kernel
theorem dX12_carve_39 : decode cX12_carve 39 = .ok (.istore_n 3, 1) := by decide +kernel
theorem dX12_carve_40 : decode cX12_carve 40 = .ok (.aload_n 0, 1) := by decide +kernel
theorem dX12_carve_41 : decode cX12_carve 41 = .ok (.getfield 197, 3) := by decide +kernel
theorem dX12_carve_44 : decode cX12_carve 44 = .ok (.iload_n 3, 1) := by decide +kernel
theorem dX12_carve_45 : decode cX12_carve 45 = .ok (.iaload, 1) := by decide +kernel
theorem dX12_carve_46 : decode cX12_carve 46 = .ok (.bipush 100, 2) := by decide +kernel
theorem dX12_carve_48 : decode cX12_carve 48 = .ok (.aload_n 0, 1) := by decide +kernel
theorem dX12_carve_49 : decode cX12_carve 49 = .ok (.getfield 114, 3) := by decide +kernel
theorem dX12_carve_52 : decode cX12_carve 52 = .ok (.bipush 7, 2) := by decide +kernel
theorem dX12_carve_54 : decode cX12_carve 54 = .ok (.iaload, 1) := by decide +kernel
theorem dX12_carve_55 : decode cX12_carve 55 = .ok (.imul, 1) := by decide +kernel
theorem dX12_carve_56 : decode cX12_carve 56 = .ok (.if_icmp .lt 7, 3) := by decide +kernel
theorem dX12_carve_59 : decode cX12_carve 59 = .ok (.iconst 1, 1) := by decide +kernel
theorem dX12_carve_60 : decode cX12_carve 60 = .ok (.goto 4, 3) := by decide +kernel
theorem dX12_carve_63 : decode cX12_carve 63 = .ok (.iconst 0, 1) := by decide +kernel
theorem dX12_carve_64 : decode cX12_carve 64 = .ok (.istore 4, 2) := by decide +kernel
theorem dX12_carve_66 : decode cX12_carve 66 = .ok (.aload_n 0, 1) := by decide +kernel
theorem dX12_carve_67 : decode cX12_carve 67 = .ok (.getfield 197, 3) := by decide +kernel
theorem dX12_carve_70 : decode cX12_carve 70 = .ok (.iload_n 3, 1) := by decide +kernel
theorem dX12_carve_71 : decode cX12_carve 71 = .ok (.dup2, 1) := by decide +kernel
theorem dX12_carve_72 : decode cX12_carve 72 = .ok (.iaload, 1) := by decide +kernel
theorem dX12_carve_73 : decode cX12_carve 73 = .ok (.aload_n 0, 1) := by decide +kernel
theorem dX12_carve_74 : decode cX12_carve 74 = .ok (.getfield 177, 3) := by decide +kernel
theorem dX12_carve_77 : decode cX12_carve 77 = .ok (.iload_n 2, 1) := by decide +kernel
theorem dX12_carve_78 : decode cX12_carve 78 = .ok (.iaload, 1) := by decide +kernel
theorem dX12_carve_79 : decode cX12_carve 79 = .ok (.iadd, 1) := by decide +kernel
theorem dX12_carve_80 : decode cX12_carve 80 = .ok (.iastore, 1) := by decide +kernel
theorem dX12_carve_81 : decode cX12_carve 81 = .ok (.iload 4, 2) := by decide +kernel
theorem dX12_carve_83 : decode cX12_carve 83 = .ok (.ifCond .ne 44, 3) := by decide +kernel
theorem dX12_carve_86 : decode cX12_carve 86 = .ok (.aload_n 0, 1) := by decide +kernel
theorem dX12_carve_87 : decode cX12_carve 87 = .ok (.getfield 197, 3) := by decide +kernel
theorem dX12_carve_90 : decode cX12_carve 90 = .ok (.iload_n 3, 1) := by decide +kernel
theorem dX12_carve_91 : decode cX12_carve 91 = .ok (.iaload, 1) := by decide +kernel
theorem dX12_carve_92 : decode cX12_carve 92 = .ok (.bipush 100, 2) := by decide +kernel
theorem dX12_carve_94 : decode cX12_carve 94 = .ok (.aload_n 0, 1) := by decide +kernel
theorem dX12_carve_95 : decode cX12_carve 95 = .ok (.getfield 114, 3) := by decide +kernel
theorem dX12_carve_98 : decode cX12_carve 98 = .ok (.bipush 7, 2) := by decide +kernel
theorem dX12_carve_100 : decode cX12_carve 100 = .ok (.iaload, 1) := by decide +kernel
theorem dX12_carve_101 : decode cX12_carve 101 = .ok (.imul, 1) := by decide +kernel
theorem dX12_carve_102 : decode cX12_carve 102 = .ok (.if_icmp .lt 25, 3) := by decide +kernel
theorem dX12_carve_105 : decode cX12_carve 105 = .ok (.aload_n 0, 1) := by decide +kernel
theorem dX12_carve_106 : decode cX12_carve 106 = .ok (.getfield 132, 3) := by decide +kernel
theorem dX12_carve_109 : decode cX12_carve 109 = .ok (.iload_n 3, 1) := by decide +kernel
theorem dX12_carve_110 : decode cX12_carve 110 = .ok (.baload, 1) := by decide +kernel
theorem dX12_carve_111 : decode cX12_carve 111 = .ok (.ifCond .eq 6, 3) := by decide +kernel
theorem dX12_carve_114 : decode cX12_carve 114 = .ok (.goto 13, 3) := by decide +kernel
theorem dX12_carve_117 : decode cX12_carve 117 = .ok (.aload_n 0, 1) := by decide +kernel
theorem dX12_carve_118 : decode cX12_carve 118 = .ok (.getfield 200, 3) := by decide +kernel
theorem dX12_carve_121 : decode cX12_carve 121 = .ok (.iload_n 1, 1) := by decide +kernel
theorem dX12_carve_122 : decode cX12_carve 122 = .ok (.iload_n 3, 1) := by decide +kernel
theorem dX12_carve_123 : decode cX12_carve 123 = .ok (.iastore, 1) := by decide +kernel
theorem dX12_carve_124 : decode cX12_carve 124 = .ok (.iinc 1 1, 3) := by decide +kernel
theorem dX12_carve_127 : decode cX12_carve 127 = .ok (.iinc 2 1, 3) := by decide +kernel
theorem dX12_carve_130 : decode cX12_carve 130 = .ok (.goto (-105), 3) := by decide +kernel
theorem dX12_carve_133 : decode cX12_carve 133 = .ok (.iload_n 1, 1) := by decide +kernel
theorem dX12_carve_134 : decode cX12_carve 134 = .ok (.ireturn, 1) := by decide +kernel
theorem dX12_stone_0 : decode cX12_stone 0 = .ok (.iload_n 1, 1) := by decide +kernel
theorem dX12_stone_1 : decode cX12_stone 1 = .ok (.i2l, 1) := by decide +kernel
theorem dX12_stone_2 : decode cX12_stone 2 = .ok (.lconst 0, 1) := by decide +kernel
theorem dX12_stone_3 : decode cX12_stone 3 = .ok (.aload_n 0, 1) := by decide +kernel
theorem dX12_stone_4 : decode cX12_stone 4 = .ok (.invokevirtual 314, 3) := by decide +kernel
theorem dX12_stone_7 : decode cX12_stone 7 = .ok (.i2l, 1) := by decide +kernel
theorem dX12_stone_8 : decode cX12_stone 8 = .ok (.lconst 1, 1) := by decide +kernel
theorem dX12_stone_9 : decode cX12_stone 9 = .ok (.lsub, 1) := by decide +kernel
theorem dX12_stone_10 : decode cX12_stone 10 = .ok (.invokestatic 58, 3) := by decide +kernel
theorem dX12_stone_13 : decode cX12_stone 13 = .ok (.ifCond .eq 12, 3) := by decide +kernel
theorem dX12_stone_16 : decode cX12_stone 16 = .ok (.aload_n 0, 1) := by decide +kernel
theorem dX12_stone_17 : decode cX12_stone 17 = .ok (.getfield 200, 3) := by decide +kernel
theorem dX12_stone_20 : decode cX12_stone 20 = .ok (.iload_n 1, 1) := by decide +kernel
theorem dX12_stone_21 : decode cX12_stone 21 = .ok (.iaload, 1) := by decide +kernel
theorem dX12_stone_22 : decode cX12_stone 22 = .ok (.goto 4, 3) := by decide +kernel
theorem dX12_stone_25 : decode cX12_stone 25 = .ok (.iconst (-1), 1) := by decide +kernel
theorem dX12_stone_26 : decode cX12_stone 26 = .ok (.ireturn, 1) := by decide +kernel
theorem dX12_allGiven_0 : decode cX12_allGiven 0 = .ok (.iconst 0, 1) := by decide +kernel
end
section
theorem dX12_allGiven_1 : decode cX12_allGiven 1 = .ok (.istore_n 1, 1) := by decide +kernel
theorem dX12_allGiven_2 : decode cX12_allGiven 2 = .ok (.iconst 0, 1) := by decide +kernel
theorem dX12_allGiven_3 : decode cX12_allGiven 3 = .ok (.istore_n 2, 1) := by decide +kernel
theorem dX12_allGiven_4 : decode cX12_allGiven 4 = .ok (.iload_n 2, 1) := by decide +kernel
theorem dX12_allGiven_5 : decode cX12_allGiven 5 = .ok (.aload_n 0, 1) := by decide +kernel
theorem dX12_allGiven_6 : decode cX12_allGiven 6 = .ok (.getfield 246, 3) := by decide +kernel
theorem dX12_allGiven_9 : decode cX12_allGiven 9 = .ok (.if_icmp .ge 18, 3) := by decide +kernel
theorem dX12_allGiven_12 : decode cX12_allGiven 12 = .ok (.iload_n 1, 1) := by decide +kernel
theorem dX12_allGiven_13 : decode cX12_allGiven 13 = .ok (.aload_n 0, 1) := by decide +kernel
theorem dX12_allGiven_14 : decode cX12_allGiven 14 = .ok (.getfield 177, 3) := by decide +kernel
theorem dX12_allGiven_17 : decode cX12_allGiven 17 = .ok (.iload_n 2, 1) := by decide +kernel
theorem dX12_allGiven_18 : decode cX12_allGiven 18 = .ok (.iaload, 1) := by decide +kernel
theorem dX12_allGiven_19 : decode cX12_allGiven 19 = .ok (.iadd, 1) := by decide +kernel
theorem dX12_allGiven_20 : decode cX12_allGiven 20 = .ok (.istore_n 1, 1) := by decide +kernel
theorem dX12_allGiven_21 : decode cX12_allGiven 21 = .ok (.iinc 2 1, 3) := by decide +kernel
theorem dX12_allGiven_24 : decode cX12_allGiven 24 = .ok (.goto (-20), 3) := by decide +kernel
theorem dX12_allGiven_27 : decode cX12_allGiven 27 = .ok (.iload_n 1, 1) := by decide +kernel
theorem dX12_allGiven_28 : decode cX12_allGiven 28 = .ok (.ireturn, 1) := by decide +kernel
theorem dX12_stop_0 : decode cX12_stop 0 = .ok (.aload_n 0, 1) := by decide +kernel
theorem dX12_stop_1 : decode cX12_stop 1 = .ok (.getfield 224, 3) := by decide +kernel
theorem dX12_stop_4 : decode cX12_stop 4 = .ok (.ifCond .eq 6, 3) := by decide +kernel
theorem dX12_stop_7 : decode cX12_stop 7 = .ok (.bipush (-4), 2) := by decide +kernel
theorem dX12_stop_9 : decode cX12_stop 9 = .ok (.ireturn, 1) := by decide +kernel
theorem dX12_stop_10 : decode cX12_stop 10 = .ok (.aload_n 0, 1) := by decide +kernel
theorem dX12_stop_11 : decode cX12_stop 11 = .ok (.iconst 1, 1) := by decide +kernel
theorem dX12_stop_12 : decode cX12_stop 12 = .ok (.putfield 224, 3) := by decide +kernel
theorem dX12_stop_15 : decode cX12_stop 15 = .ok (.aload_n 0, 1) := by decide +kernel
theorem dX12_stop_16 : decode cX12_stop 16 = .ok (.invokevirtual 317, 3) := by decide +kernel
theorem dX12_stop_19 : decode cX12_stop 19 = .ok (.istore_n 1, 1) := by decide +kernel
theorem dX12_stop_20 : decode cX12_stop 20 = .ok (.iconst 0, 1) := by decide +kernel
theorem dX12_stop_21 : decode cX12_stop 21 = .ok (.istore_n 2, 1) := by decide +kernel
theorem dX12_stop_22 : decode cX12_stop 22 = .ok (.iconst 0, 1) := by decide +kernel
theorem dX12_stop_23 : decode cX12_stop 23 = .ok (.istore_n 3, 1) := by decide +kernel
theorem dX12_stop_24 : decode cX12_stop 24 = .ok (.iload_n 3, 1) := by decide +kernel
theorem dX12_stop_25 : decode cX12_stop 25 = .ok (.bipush 30, 2) := by decide +kernel
theorem dX12_stop_27 : decode cX12_stop 27 = .ok (.if_icmp .ge 77, 3) := by decide +kernel
theorem dX12_stop_30 : decode cX12_stop 30 = .ok (.aload_n 0, 1) := by decide +kernel
theorem dX12_stop_31 : decode cX12_stop 31 = .ok (.getfield 129, 3) := by decide +kernel
theorem dX12_stop_34 : decode cX12_stop 34 = .ok (.iload_n 3, 1) := by decide +kernel
theorem dX12_stop_35 : decode cX12_stop 35 = .ok (.iload_n 1, 1) := by decide +kernel
theorem dX12_stop_36 : decode cX12_stop 36 = .ok (.ifCond .ne 7, 3) := by decide +kernel
theorem dX12_stop_39 : decode cX12_stop 39 = .ok (.iconst 0, 1) := by decide +kernel
theorem dX12_stop_40 : decode cX12_stop 40 = .ok (.goto 48, 3) := by decide +kernel
theorem dX12_stop_43 : decode cX12_stop 43 = .ok (.aload_n 0, 1) := by decide +kernel
theorem dX12_stop_44 : decode cX12_stop 44 = .ok (.getfield 114, 3) := by decide +kernel
theorem dX12_stop_47 : decode cX12_stop 47 = .ok (.bipush 8, 2) := by decide +kernel
theorem dX12_stop_49 : decode cX12_stop 49 = .ok (.iaload, 1) := by decide +kernel
theorem dX12_stop_50 : decode cX12_stop 50 = .ok (.iconst 1, 1) := by decide +kernel
theorem dX12_stop_51 : decode cX12_stop 51 = .ok (.if_icmp .ne 20, 3) := by decide +kernel
theorem dX12_stop_54 : decode cX12_stop 54 = .ok (.aload_n 0, 1) := by decide +kernel
theorem dX12_stop_55 : decode cX12_stop 55 = .ok (.getfield 262, 3) := by decide +kernel
theorem dX12_stop_58 : decode cX12_stop 58 = .ok (.iload_n 1, 1) := by decide +kernel
theorem dX12_stop_59 : decode cX12_stop 59 = .ok (.if_icmp .lt 12, 3) := by decide +kernel
theorem dX12_stop_62 : decode cX12_stop 62 = .ok (.aload_n 0, 1) := by decide +kernel
theorem dX12_stop_63 : decode cX12_stop 63 = .ok (.getfield 126, 3) := by decide +kernel
theorem dX12_stop_66 : decode cX12_stop 66 = .ok (.iload_n 3, 1) := by decide +kernel
theorem dX12_stop_67 : decode cX12_stop 67 = .ok (.iaload, 1) := by decide +kernel
theorem dX12_stop_68 : decode cX12_stop 68 = .ok (.goto 20, 3) := by decide +kernel
theorem dX12_stop_71 : decode cX12_stop 71 = .ok (.aload_n 0, 1) := by decide +kernel
theorem dX12_stop_72 : decode cX12_stop 72 = .ok (.getfield 262, 3) := by decide +kernel
theorem dX12_stop_75 : decode cX12_stop 75 = .ok (.i2l, 1) := by decide +kernel
theorem dX12_stop_76 : decode cX12_stop 76 = .ok (.aload_n 0, 1) := by decide +kernel
theorem dX12_stop_77 : decode cX12_stop 77 = .ok (.getfield 126, 3) := by decide +kernel
theorem dX12_stop_80 : decode cX12_stop 80 = .ok (.iload_n 3, 1) := by decide +kernel
theorem dX12_stop_81 : decode cX12_stop 81 = .ok (.iaload, 1) := by decide +kernel
theorem dX12_stop_82 : decode cX12_stop 82 = .ok (.i2l, 1) := by decide +kernel
theorem dX12_stop_83 : decode cX12_stop 83 = .ok (.lmul, 1) := by decide +kernel
theorem dX12_stop_84 : decode cX12_stop 84 = .ok (.iload_n 1, 1) := by decide +kernel
theorem dX12_stop_85 : decode cX12_stop 85 = .ok (.i2l, 1) := by decide +kernel
theorem dX12_stop_86 : decode cX12_stop 86 = .ok (.ldiv, 1) := by decide +kernel
theorem dX12_stop_87 : decode cX12_stop 87 = .ok (.l2i, 1) := by decide +kernel
theorem dX12_stop_88 : decode cX12_stop 88 = .ok (.iastore, 1) := by decide +kernel
theorem dX12_stop_89 : decode cX12_stop 89 = .ok (.iload_n 2, 1) := by decide +kernel
theorem dX12_stop_90 : decode cX12_stop 90 = .ok (.aload_n 0, 1) := by decide +kernel
theorem dX12_stop_91 : decode cX12_stop 91 = .ok (.getfield 129, 3) := by decide +kernel
theorem dX12_stop_94 : decode cX12_stop 94 = .ok (.iload_n 3, 1) := by decide +kernel
theorem dX12_stop_95 : decode cX12_stop 95 = .ok (.iaload, 1) := by decide +kernel
theorem dX12_stop_96 : decode cX12_stop 96 = .ok (.iadd, 1) := by decide +kernel
theorem dX12_stop_97 : decode cX12_stop 97 = .ok (.istore_n 2, 1) := by decide +kernel
theorem dX12_stop_98 : decode cX12_stop 98 = .ok (.iinc 3 1, 3) := by decide +kernel
theorem dX12_stop_101 : decode cX12_stop 101 = .ok (.goto (-77), 3) := by decide +kernel
theorem dX12_stop_104 : decode cX12_stop 104 = .ok (.aload_n 0, 1) := by decide +kernel
theorem dX12_stop_105 : decode cX12_stop 105 = .ok (.dup, 1) := by decide +kernel
theorem dX12_stop_106 : decode cX12_stop 106 = .ok (.getfield 262, 3) := by decide +kernel
theorem dX12_stop_109 : decode cX12_stop 109 = .ok (.iload_n 2, 1) := by decide +kernel
theorem dX12_stop_110 : decode cX12_stop 110 = .ok (.isub, 1) := by decide +kernel
theorem dX12_stop_111 : decode cX12_stop 111 = .ok (.putfield 262, 3) := by decide +kernel
theorem dX12_stop_114 : decode cX12_stop 114 = .ok (.iload_n 2, 1) := by decide +kernel
theorem dX12_stop_115 : decode cX12_stop 115 = .ok (.ireturn, 1) := by decide +kernel
theorem dX12_back_0 : decode cX12_back 0 = .ok (.iload_n 1, 1) := by decide +kernel
theorem dX12_back_1 : decode cX12_back 1 = .ok (.invokestatic 218, 3) := by decide +kernel
theorem dX12_back_4 : decode cX12_back 4 = .ok (.ifCond .eq 12, 3) := by decide +kernel
theorem dX12_back_7 : decode cX12_back 7 = .ok (.aload_n 0, 1) := by decide +kernel
theorem dX12_back_8 : decode cX12_back 8 = .ok (.getfield 129, 3) := by decide +kernel
theorem dX12_back_11 : decode cX12_back 11 = .ok (.iload_n 1, 1) := by decide +kernel
theorem dX12_back_12 : decode cX12_back 12 = .ok (.iaload, 1) := by decide +kernel
theorem dX12_back_13 : decode cX12_back 13 = .ok (.goto 5, 3) := by decide +kernel
theorem dX12_back_16 : decode cX12_back 16 = .ok (.bipush (-2), 2) := by decide +kernel
theorem dX12_back_18 : decode cX12_back 18 = .ok (.ireturn, 1) := by decide +kernel
theorem dX12_count_0 : decode cX12_count 0 = .ok (.iload_n 1, 1) := by decide +kernel
theorem dX12_count_1 : decode cX12_count 1 = .ok (.tableswitch 190 0 14 #[75, 80, 85, 90, 95, 100, 105, 110, 115, 120, 157, 162, 167, 180, 185], 75) := by decide +kernel
theorem dX12_count_76 : decode cX12_count 76 = .ok (.aload_n 0, 1) := by decide +kernel
theorem dX12_count_77 : decode cX12_count 77 = .ok (.getfield 230, 3) := by decide +kernel
theorem dX12_count_80 : decode cX12_count 80 = .ok (.ireturn, 1) := by decide +kernel
theorem dX12_count_81 : decode cX12_count 81 = .ok (.aload_n 0, 1) := by decide +kernel
theorem dX12_count_82 : decode cX12_count 82 = .ok (.getfield 262, 3) := by decide +kernel
theorem dX12_count_85 : decode cX12_count 85 = .ok (.ireturn, 1) := by decide +kernel
theorem dX12_count_86 : decode cX12_count 86 = .ok (.aload_n 0, 1) := by decide +kernel
theorem dX12_count_87 : decode cX12_count 87 = .ok (.getfield 296, 3) := by decide +kernel
theorem dX12_count_90 : decode cX12_count 90 = .ok (.ireturn, 1) := by decide +kernel
theorem dX12_count_91 : decode cX12_count 91 = .ok (.aload_n 0, 1) := by decide +kernel
theorem dX12_count_92 : decode cX12_count 92 = .ok (.invokevirtual 317, 3) := by decide +kernel
theorem dX12_count_95 : decode cX12_count 95 = .ok (.ireturn, 1) := by decide +kernel
theorem dX12_count_96 : decode cX12_count 96 = .ok (.aload_n 0, 1) := by decide +kernel
theorem dX12_count_97 : decode cX12_count 97 = .ok (.getfield 251, 3) := by decide +kernel
theorem dX12_count_100 : decode cX12_count 100 = .ok (.ireturn, 1) := by decide +kernel
theorem dX12_count_101 : decode cX12_count 101 = .ok (.aload_n 0, 1) := by decide +kernel
theorem dX12_count_102 : decode cX12_count 102 = .ok (.getfield 276, 3) := by decide +kernel
theorem dX12_count_105 : decode cX12_count 105 = .ok (.ireturn, 1) := by decide +kernel
theorem dX12_count_106 : decode cX12_count 106 = .ok (.aload_n 0, 1) := by decide +kernel
theorem dX12_count_107 : decode cX12_count 107 = .ok (.getfield 298, 3) := by decide +kernel
theorem dX12_count_110 : decode cX12_count 110 = .ok (.ireturn, 1) := by decide +kernel
theorem dX12_count_111 : decode cX12_count 111 = .ok (.aload_n 0, 1) := by decide +kernel
theorem dX12_count_112 : decode cX12_count 112 = .ok (.getfield 305, 3) := by decide +kernel
theorem dX12_count_115 : decode cX12_count 115 = .ok (.ireturn, 1) := by decide +kernel
theorem dX12_count_116 : decode cX12_count 116 = .ok (.aload_n 0, 1) := by decide +kernel
theorem dX12_count_117 : decode cX12_count 117 = .ok (.getfield 237, 3) := by decide +kernel
theorem dX12_count_120 : decode cX12_count 120 = .ok (.ireturn, 1) := by decide +kernel
theorem dX12_count_121 : decode cX12_count 121 = .ok (.iconst 0, 1) := by decide +kernel
theorem dX12_count_122 : decode cX12_count 122 = .ok (.istore_n 2, 1) := by decide +kernel
theorem dX12_count_123 : decode cX12_count 123 = .ok (.iconst 0, 1) := by decide +kernel
theorem dX12_count_124 : decode cX12_count 124 = .ok (.istore_n 3, 1) := by decide +kernel
theorem dX12_count_125 : decode cX12_count 125 = .ok (.iload_n 3, 1) := by decide +kernel
theorem dX12_count_126 : decode cX12_count 126 = .ok (.aload_n 0, 1) := by decide +kernel
theorem dX12_count_127 : decode cX12_count 127 = .ok (.getfield 237, 3) := by decide +kernel
theorem dX12_count_130 : decode cX12_count 130 = .ok (.if_icmp .ge 26, 3) := by decide +kernel
theorem dX12_count_133 : decode cX12_count 133 = .ok (.iload_n 2, 1) := by decide +kernel
theorem dX12_count_134 : decode cX12_count 134 = .ok (.aload_n 0, 1) := by decide +kernel
theorem dX12_count_135 : decode cX12_count 135 = .ok (.getfield 153, 3) := by decide +kernel
theorem dX12_count_138 : decode cX12_count 138 = .ok (.iload_n 3, 1) := by decide +kernel
theorem dX12_count_139 : decode cX12_count 139 = .ok (.baload, 1) := by decide +kernel
theorem dX12_count_140 : decode cX12_count 140 = .ok (.ifCond .eq 7, 3) := by decide +kernel
theorem dX12_count_143 : decode cX12_count 143 = .ok (.iconst 1, 1) := by decide +kernel
theorem dX12_count_144 : decode cX12_count 144 = .ok (.goto 4, 3) := by decide +kernel
theorem dX12_count_147 : decode cX12_count 147 = .ok (.iconst 0, 1) := by decide +kernel
theorem dX12_count_148 : decode cX12_count 148 = .ok (.iadd, 1) := by decide +kernel
theorem dX12_count_149 : decode cX12_count 149 = .ok (.istore_n 2, 1) := by decide +kernel
theorem dX12_count_150 : decode cX12_count 150 = .ok (.iinc 3 1, 3) := by decide +kernel
theorem dX12_count_153 : decode cX12_count 153 = .ok (.goto (-28), 3) := by decide +kernel
theorem dX12_count_156 : decode cX12_count 156 = .ok (.iload_n 2, 1) := by decide +kernel
theorem dX12_count_157 : decode cX12_count 157 = .ok (.ireturn, 1) := by decide +kernel
theorem dX12_count_158 : decode cX12_count 158 = .ok (.aload_n 0, 1) := by decide +kernel
theorem dX12_count_159 : decode cX12_count 159 = .ok (.getfield 286, 3) := by decide +kernel
theorem dX12_count_162 : decode cX12_count 162 = .ok (.ireturn, 1) := by decide +kernel
theorem dX12_count_163 : decode cX12_count 163 = .ok (.aload_n 0, 1) := by decide +kernel
theorem dX12_count_164 : decode cX12_count 164 = .ok (.getfield 246, 3) := by decide +kernel
theorem dX12_count_167 : decode cX12_count 167 = .ok (.ireturn, 1) := by decide +kernel
theorem dX12_count_168 : decode cX12_count 168 = .ok (.aload_n 0, 1) := by decide +kernel
theorem dX12_count_169 : decode cX12_count 169 = .ok (.getfield 224, 3) := by decide +kernel
theorem dX12_count_172 : decode cX12_count 172 = .ok (.ifCond .eq 7, 3) := by decide +kernel
theorem dX12_count_175 : decode cX12_count 175 = .ok (.iconst 1, 1) := by decide +kernel
theorem dX12_count_176 : decode cX12_count 176 = .ok (.goto 4, 3) := by decide +kernel
theorem dX12_count_179 : decode cX12_count 179 = .ok (.iconst 0, 1) := by decide +kernel
theorem dX12_count_180 : decode cX12_count 180 = .ok (.ireturn, 1) := by decide +kernel
theorem dX12_count_181 : decode cX12_count 181 = .ok (.aload_n 0, 1) := by decide +kernel
theorem dX12_count_182 : decode cX12_count 182 = .ok (.getfield 203, 3) := by decide +kernel
theorem dX12_count_185 : decode cX12_count 185 = .ok (.ireturn, 1) := by decide +kernel
theorem dX12_count_186 : decode cX12_count 186 = .ok (.aload_n 0, 1) := by decide +kernel
theorem dX12_count_187 : decode cX12_count 187 = .ok (.invokevirtual 314, 3) := by decide +kernel
theorem dX12_count_190 : decode cX12_count 190 = .ok (.ireturn, 1) := by decide +kernel
theorem dX12_count_191 : decode cX12_count 191 = .ok (.iconst (-1), 1) := by decide +kernel
theorem dX12_count_192 : decode cX12_count 192 = .ok (.ireturn, 1) := by decide +kernel
theorem dJ9_max_7cf53_0 : decode cJ9_max_7cf53 0 = .ok (.iload_n 0, 1) := by decide +kernel
theorem dJ9_max_7cf53_1 : decode cJ9_max_7cf53 1 = .ok (.iload_n 1, 1) := by decide +kernel
theorem dJ9_max_7cf53_2 : decode cJ9_max_7cf53 2 = .ok (.if_icmp .lt 7, 3) := by decide +kernel
theorem dJ9_max_7cf53_5 : decode cJ9_max_7cf53 5 = .ok (.iload_n 0, 1) := by decide +kernel
theorem dJ9_max_7cf53_6 : decode cJ9_max_7cf53 6 = .ok (.goto 4, 3) := by decide +kernel
theorem dJ9_max_7cf53_9 : decode cJ9_max_7cf53 9 = .ok (.iload_n 1, 1) := by decide +kernel
theorem dJ9_max_7cf53_10 : decode cJ9_max_7cf53 10 = .ok (.ireturn, 1) := by decide +kernel
theorem dJ9_max_f86c9_0 : decode cJ9_max_f86c9 0 = .ok (.lload_n 0, 1) := by decide +kernel
theorem dJ9_max_f86c9_1 : decode cJ9_max_f86c9 1 = .ok (.lload_n 2, 1) := by decide +kernel
theorem dJ9_max_f86c9_2 : decode cJ9_max_f86c9 2 = .ok (.lcmp, 1) := by decide +kernel
theorem dJ9_max_f86c9_3 : decode cJ9_max_f86c9 3 = .ok (.ifCond .lt 7, 3) := by decide +kernel
theorem dJ9_max_f86c9_6 : decode cJ9_max_f86c9 6 = .ok (.lload_n 0, 1) := by decide +kernel
theorem dJ9_max_f86c9_7 : decode cJ9_max_f86c9 7 = .ok (.goto 4, 3) := by decide +kernel
theorem dJ9_max_f86c9_10 : decode cJ9_max_f86c9 10 = .ok (.lload_n 2, 1) := by decide +kernel
theorem dJ9_max_f86c9_11 : decode cJ9_max_f86c9 11 = .ok (.lreturn, 1) := by decide +kernel
theorem dJ9_min_7cf53_0 : decode cJ9_min_7cf53 0 = .ok (.iload_n 0, 1) := by decide +kernel
theorem dJ9_min_7cf53_1 : decode cJ9_min_7cf53 1 = .ok (.iload_n 1, 1) := by decide +kernel
theorem dJ9_min_7cf53_2 : decode cJ9_min_7cf53 2 = .ok (.if_icmp .gt 7, 3) := by decide +kernel
theorem dJ9_min_7cf53_5 : decode cJ9_min_7cf53 5 = .ok (.iload_n 0, 1) := by decide +kernel
theorem dJ9_min_7cf53_6 : decode cJ9_min_7cf53 6 = .ok (.goto 4, 3) := by decide +kernel
theorem dJ9_min_7cf53_9 : decode cJ9_min_7cf53 9 = .ok (.iload_n 1, 1) := by decide +kernel
theorem dJ9_min_7cf53_10 : decode cJ9_min_7cf53 10 = .ok (.ireturn, 1) := by decide +kernel
theorem dJ9_min_f86c9_0 : decode cJ9_min_f86c9 0 = .ok (.lload_n 0, 1) := by decide +kernel
theorem dJ9_min_f86c9_1 : decode cJ9_min_f86c9 1 = .ok (.lload_n 2, 1) := by decide +kernel
theorem dJ9_min_f86c9_2 : decode cJ9_min_f86c9 2 = .ok (.lcmp, 1) := by decide +kernel
theorem dJ9_min_f86c9_3 : decode cJ9_min_f86c9 3 = .ok (.ifCond .gt 7, 3) := by decide +kernel
theorem dJ9_min_f86c9_6 : decode cJ9_min_f86c9 6 = .ok (.lload_n 0, 1) := by decide +kernel
theorem dJ9_min_f86c9_7 : decode cJ9_min_f86c9 7 = .ok (.goto 4, 3) := by decide +kernel
theorem dJ9_min_f86c9_10 : decode cJ9_min_f86c9 10 = .ok (.lload_n 2, 1) := by decide +kernel
theorem dJ9_min_f86c9_11 : decode cJ9_min_f86c9 11 = .ok (.lreturn, 1) := by decide +kernel
theorem dJ0_length_8abf5_0 : decode cJ0_length_8abf5 0 = .ok (.aload_n 0, 1) := by decide +kernel
theorem dJ0_length_8abf5_1 : decode cJ0_length_8abf5 1 = .ok (.getfield 9, 3) := by decide +kernel
theorem dJ0_length_8abf5_4 : decode cJ0_length_8abf5 4 = .ok (.arraylength, 1) := by decide +kernel
theorem dJ0_length_8abf5_5 : decode cJ0_length_8abf5 5 = .ok (.aload_n 0, 1) := by decide +kernel
theorem dJ0_length_8abf5_6 : decode cJ0_length_8abf5 6 = .ok (.invokevirtual 335, 3) := by decide +kernel
theorem dJ0_length_8abf5_9 : decode cJ0_length_8abf5 9 = .ok (.ishr, 1) := by decide +kernel
theorem dJ0_length_8abf5_10 : decode cJ0_length_8abf5 10 = .ok (.ireturn, 1) := by decide +kernel
theorem dJ0_charAt_5068e_0 : decode cJ0_charAt_5068e 0 = .ok (.aload_n 0, 1) := by decide +kernel
theorem dJ0_charAt_5068e_1 : decode cJ0_charAt_5068e 1 = .ok (.invokevirtual 492, 3) := by decide +kernel
theorem dJ0_charAt_5068e_4 : decode cJ0_charAt_5068e 4 = .ok (.ifCond .eq 12, 3) := by decide +kernel
theorem dJ0_charAt_5068e_7 : decode cJ0_charAt_5068e 7 = .ok (.aload_n 0, 1) := by decide +kernel
theorem dJ0_charAt_5068e_8 : decode cJ0_charAt_5068e 8 = .ok (.getfield 9, 3) := by decide +kernel
theorem dJ0_charAt_5068e_11 : decode cJ0_charAt_5068e 11 = .ok (.iload_n 1, 1) := by decide +kernel
theorem dJ0_charAt_5068e_12 : decode cJ0_charAt_5068e 12 = .ok (.invokestatic 495, 3) := by decide +kernel
theorem dJ0_charAt_5068e_15 : decode cJ0_charAt_5068e 15 = .ok (.ireturn, 1) := by decide +kernel
theorem dJ0_charAt_5068e_16 : decode cJ0_charAt_5068e 16 = .ok (.aload_n 0, 1) := by decide +kernel
theorem dJ0_charAt_5068e_17 : decode cJ0_charAt_5068e 17 = .ok (.getfield 9, 3) := by decide +kernel
theorem dJ0_charAt_5068e_20 : decode cJ0_charAt_5068e 20 = .ok (.iload_n 1, 1) := by decide +kernel
theorem dJ0_charAt_5068e_21 : decode cJ0_charAt_5068e 21 = .ok (.invokestatic 498, 3) := by decide +kernel
theorem dJ0_charAt_5068e_24 : decode cJ0_charAt_5068e 24 = .ok (.ireturn, 1) := by decide +kernel
theorem dJ0_coder_7d493_0 : decode cJ0_coder_7d493 0 = .ok (.getstatic 38, 3) := by decide +kernel
theorem dJ0_coder_7d493_3 : decode cJ0_coder_7d493 3 = .ok (.ifCond .eq 10, 3) := by decide +kernel
theorem dJ0_coder_7d493_6 : decode cJ0_coder_7d493 6 = .ok (.aload_n 0, 1) := by decide +kernel
theorem dJ0_coder_7d493_7 : decode cJ0_coder_7d493 7 = .ok (.getfield 15, 3) := by decide +kernel
theorem dJ0_coder_7d493_10 : decode cJ0_coder_7d493 10 = .ok (.goto 4, 3) := by decide +kernel
theorem dJ0_coder_7d493_13 : decode cJ0_coder_7d493 13 = .ok (.iconst 1, 1) := by decide +kernel
theorem dJ0_coder_7d493_14 : decode cJ0_coder_7d493 14 = .ok (.ireturn, 1) := by decide +kernel
theorem dJ0_isLatin1_aae02_0 : decode cJ0_isLatin1_aae02 0 = .ok (.getstatic 38, 3) := by decide +kernel
theorem dJ0_isLatin1_aae02_3 : decode cJ0_isLatin1_aae02 3 = .ok (.ifCond .eq 14, 3) := by decide +kernel
theorem dJ0_isLatin1_aae02_6 : decode cJ0_isLatin1_aae02 6 = .ok (.aload_n 0, 1) := by decide +kernel
theorem dJ0_isLatin1_aae02_7 : decode cJ0_isLatin1_aae02 7 = .ok (.getfield 15, 3) := by decide +kernel
theorem dJ0_isLatin1_aae02_10 : decode cJ0_isLatin1_aae02 10 = .ok (.ifCond .ne 7, 3) := by decide +kernel
theorem dJ0_isLatin1_aae02_13 : decode cJ0_isLatin1_aae02 13 = .ok (.iconst 1, 1) := by decide +kernel
theorem dJ0_isLatin1_aae02_14 : decode cJ0_isLatin1_aae02 14 = .ok (.goto 4, 3) := by decide +kernel
theorem dJ0_isLatin1_aae02_17 : decode cJ0_isLatin1_aae02 17 = .ok (.iconst 0, 1) := by decide +kernel
theorem dJ0_isLatin1_aae02_18 : decode cJ0_isLatin1_aae02 18 = .ok (.ireturn, 1) := by decide +kernel
theorem dJ0_checkIndex_df160_0 : decode cJ0_checkIndex_df160 0 = .ok (.iload_n 0, 1) := by decide +kernel
theorem dJ0_checkIndex_df160_1 : decode cJ0_checkIndex_df160 1 = .ok (.iload_n 1, 1) := by decide +kernel
theorem dJ0_checkIndex_df160_2 : decode cJ0_checkIndex_df160 2 = .ok (.getstatic 1053, 3) := by decide +kernel
theorem dJ0_checkIndex_df160_5 : decode cJ0_checkIndex_df160 5 = .ok (.invokestatic 1059, 3) := by decide +kernel
theorem dJ0_checkIndex_df160_8 : decode cJ0_checkIndex_df160 8 = .ok (.pop, 1) := by decide +kernel
theorem dJ0_checkIndex_df160_9 : decode cJ0_checkIndex_df160 9 = .ok (.return_, 1) := by decide +kernel
theorem dJ1_charAt_3b067_0 : decode cJ1_charAt_3b067 0 = .ok (.iload_n 1, 1) := by decide +kernel
theorem dJ1_charAt_3b067_1 : decode cJ1_charAt_3b067 1 = .ok (.aload_n 0, 1) := by decide +kernel
theorem dJ1_charAt_3b067_2 : decode cJ1_charAt_3b067 2 = .ok (.arraylength, 1) := by decide +kernel
theorem dJ1_charAt_3b067_3 : decode cJ1_charAt_3b067 3 = .ok (.invokestatic 9, 3) := by decide +kernel
theorem dJ1_charAt_3b067_6 : decode cJ1_charAt_3b067 6 = .ok (.aload_n 0, 1) := by decide +kernel
theorem dJ1_charAt_3b067_7 : decode cJ1_charAt_3b067 7 = .ok (.iload_n 1, 1) := by decide +kernel
theorem dJ1_charAt_3b067_8 : decode cJ1_charAt_3b067 8 = .ok (.baload, 1) := by decide +kernel
theorem dJ1_charAt_3b067_9 : decode cJ1_charAt_3b067 9 = .ok (.sipush 255, 3) := by decide +kernel
theorem dJ1_charAt_3b067_12 : decode cJ1_charAt_3b067 12 = .ok (.iand, 1) := by decide +kernel
theorem dJ1_charAt_3b067_13 : decode cJ1_charAt_3b067 13 = .ok (.i2c, 1) := by decide +kernel
theorem dJ1_charAt_3b067_14 : decode cJ1_charAt_3b067 14 = .ok (.ireturn, 1) := by decide +kernel
theorem dJ2_getChar_3b067_0 : decode cJ2_getChar_3b067 0 = .ok (.getstatic 44, 3) := by decide +kernel
theorem dJ2_getChar_3b067_3 : decode cJ2_getChar_3b067 3 = .ok (.ifCond .ne 25, 3) := by decide +kernel
theorem dJ2_getChar_3b067_6 : decode cJ2_getChar_3b067 6 = .ok (.iload_n 1, 1) := by decide +kernel
theorem dJ2_getChar_3b067_7 : decode cJ2_getChar_3b067 7 = .ok (.ifCond .lt 11, 3) := by decide +kernel
theorem dJ2_getChar_3b067_10 : decode cJ2_getChar_3b067 10 = .ok (.iload_n 1, 1) := by decide +kernel
theorem dJ2_getChar_3b067_11 : decode cJ2_getChar_3b067 11 = .ok (.aload_n 0, 1) := by decide +kernel
theorem dJ2_getChar_3b067_12 : decode cJ2_getChar_3b067 12 = .ok (.invokestatic 48, 3) := by decide +kernel
theorem dJ2_getChar_3b067_15 : decode cJ2_getChar_3b067 15 = .ok (.if_icmp .lt 13, 3) := by decide +kernel
theorem dJ2_getChar_3b067_18 : decode cJ2_getChar_3b067 18 = .ok (.new 52, 3) := by decide +kernel
theorem dJ2_getChar_3b067_21 : decode cJ2_getChar_3b067 21 = .ok (.dup, 1) := by decide +kernel
theorem dJ2_getChar_3b067_22 : decode cJ2_getChar_3b067 22 = .ok (.ldc 54, 2) := by decide +kernel
theorem dJ2_getChar_3b067_24 : decode cJ2_getChar_3b067 24 = .ok (.invokespecial 56, 3) := by decide +kernel
theorem dJ2_getChar_3b067_27 : decode cJ2_getChar_3b067 27 = .ok (.athrow, 1) := by decide +kernel
theorem dJ2_getChar_3b067_28 : decode cJ2_getChar_3b067 28 = .ok (.iload_n 1, 1) := by decide +kernel
theorem dJ2_getChar_3b067_29 : decode cJ2_getChar_3b067 29 = .ok (.iconst 1, 1) := by decide +kernel
theorem dJ2_getChar_3b067_30 : decode cJ2_getChar_3b067 30 = .ok (.ishl, 1) := by decide +kernel
theorem dJ2_getChar_3b067_31 : decode cJ2_getChar_3b067 31 = .ok (.istore_n 1, 1) := by decide +kernel
theorem dJ2_getChar_3b067_32 : decode cJ2_getChar_3b067 32 = .ok (.aload_n 0, 1) := by decide +kernel
theorem dJ2_getChar_3b067_33 : decode cJ2_getChar_3b067 33 = .ok (.iload_n 1, 1) := by decide +kernel
theorem dJ2_getChar_3b067_34 : decode cJ2_getChar_3b067 34 = .ok (.iinc 1 1, 3) := by decide +kernel
theorem dJ2_getChar_3b067_37 : decode cJ2_getChar_3b067 37 = .ok (.baload, 1) := by decide +kernel
theorem dJ2_getChar_3b067_38 : decode cJ2_getChar_3b067 38 = .ok (.sipush 255, 3) := by decide +kernel
theorem dJ2_getChar_3b067_41 : decode cJ2_getChar_3b067 41 = .ok (.iand, 1) := by decide +kernel
theorem dJ2_getChar_3b067_42 : decode cJ2_getChar_3b067 42 = .ok (.getstatic 59, 3) := by decide +kernel
theorem dJ2_getChar_3b067_45 : decode cJ2_getChar_3b067 45 = .ok (.ishl, 1) := by decide +kernel
theorem dJ2_getChar_3b067_46 : decode cJ2_getChar_3b067 46 = .ok (.aload_n 0, 1) := by decide +kernel
theorem dJ2_getChar_3b067_47 : decode cJ2_getChar_3b067 47 = .ok (.iload_n 1, 1) := by decide +kernel
theorem dJ2_getChar_3b067_48 : decode cJ2_getChar_3b067 48 = .ok (.baload, 1) := by decide +kernel
theorem dJ2_getChar_3b067_49 : decode cJ2_getChar_3b067 49 = .ok (.sipush 255, 3) := by decide +kernel
theorem dJ2_getChar_3b067_52 : decode cJ2_getChar_3b067 52 = .ok (.iand, 1) := by decide +kernel
theorem dJ2_getChar_3b067_53 : decode cJ2_getChar_3b067 53 = .ok (.getstatic 63, 3) := by decide +kernel
theorem dJ2_getChar_3b067_56 : decode cJ2_getChar_3b067 56 = .ok (.ishl, 1) := by decide +kernel
theorem dJ2_getChar_3b067_57 : decode cJ2_getChar_3b067 57 = .ok (.ior, 1) := by decide +kernel
theorem dJ2_getChar_3b067_58 : decode cJ2_getChar_3b067 58 = .ok (.i2c, 1) := by decide +kernel
theorem dJ2_getChar_3b067_59 : decode cJ2_getChar_3b067 59 = .ok (.ireturn, 1) := by decide +kernel
theorem dJ2_length_9d52b_0 : decode cJ2_length_9d52b 0 = .ok (.aload_n 0, 1) := by decide +kernel
theorem dJ2_length_9d52b_1 : decode cJ2_length_9d52b 1 = .ok (.arraylength, 1) := by decide +kernel
theorem dJ2_length_9d52b_2 : decode cJ2_length_9d52b 2 = .ok (.iconst 1, 1) := by decide +kernel
theorem dJ2_length_9d52b_3 : decode cJ2_length_9d52b 3 = .ok (.ishr, 1) := by decide +kernel
theorem dJ2_length_9d52b_4 : decode cJ2_length_9d52b 4 = .ok (.ireturn, 1) := by decide +kernel
theorem dJ2_charAt_3b067_0 : decode cJ2_charAt_3b067 0 = .ok (.iload_n 1, 1) := by decide +kernel
theorem dJ2_charAt_3b067_1 : decode cJ2_charAt_3b067 1 = .ok (.aload_n 0, 1) := by decide +kernel
theorem dJ2_charAt_3b067_2 : decode cJ2_charAt_3b067 2 = .ok (.invokestatic 67, 3) := by decide +kernel
theorem dJ2_charAt_3b067_5 : decode cJ2_charAt_3b067 5 = .ok (.aload_n 0, 1) := by decide +kernel
theorem dJ2_charAt_3b067_6 : decode cJ2_charAt_3b067 6 = .ok (.iload_n 1, 1) := by decide +kernel
theorem dJ2_charAt_3b067_7 : decode cJ2_charAt_3b067 7 = .ok (.invokestatic 71, 3) := by decide +kernel
theorem dJ2_charAt_3b067_10 : decode cJ2_charAt_3b067 10 = .ok (.ireturn, 1) := by decide +kernel
theorem dJ2_checkIndex_2214a_0 : decode cJ2_checkIndex_2214a 0 = .ok (.iload_n 0, 1) := by decide +kernel
theorem dJ2_checkIndex_2214a_1 : decode cJ2_checkIndex_2214a 1 = .ok (.aload_n 1, 1) := by decide +kernel
theorem dJ2_checkIndex_2214a_2 : decode cJ2_checkIndex_2214a 2 = .ok (.invokestatic 48, 3) := by decide +kernel
theorem dJ2_checkIndex_2214a_5 : decode cJ2_checkIndex_2214a 5 = .ok (.invokestatic 414, 3) := by decide +kernel
theorem dJ2_checkIndex_2214a_8 : decode cJ2_checkIndex_2214a 8 = .ok (.return_, 1) := by decide +kernel
theorem dJ3_checkIndex_8e157_0 : decode cJ3_checkIndex_8e157 0 = .ok (.iload_n 0, 1) := by decide +kernel
theorem dJ3_checkIndex_8e157_1 : decode cJ3_checkIndex_8e157 1 = .ok (.ifCond .lt 8, 3) := by decide +kernel
theorem dJ3_checkIndex_8e157_4 : decode cJ3_checkIndex_8e157 4 = .ok (.iload_n 0, 1) := by decide +kernel
theorem dJ3_checkIndex_8e157_5 : decode cJ3_checkIndex_8e157 5 = .ok (.iload_n 1, 1) := by decide +kernel
theorem dJ3_checkIndex_8e157_6 : decode cJ3_checkIndex_8e157 6 = .ok (.if_icmp .lt 10, 3) := by decide +kernel
theorem dJ3_checkIndex_8e157_9 : decode cJ3_checkIndex_8e157 9 = .ok (.aload_n 2, 1) := by decide +kernel
theorem dJ3_checkIndex_8e157_10 : decode cJ3_checkIndex_8e157 10 = .ok (.iload_n 0, 1) := by decide +kernel
theorem dJ3_checkIndex_8e157_11 : decode cJ3_checkIndex_8e157 11 = .ok (.iload_n 1, 1) := by decide +kernel
theorem dJ3_checkIndex_8e157_12 : decode cJ3_checkIndex_8e157 12 = .ok (.invokestatic 95, 3) := by decide +kernel
theorem dJ3_checkIndex_8e157_15 : decode cJ3_checkIndex_8e157 15 = .ok (.athrow, 1) := by decide +kernel
theorem dJ3_checkIndex_8e157_16 : decode cJ3_checkIndex_8e157 16 = .ok (.iload_n 0, 1) := by decide +kernel
theorem dJ3_checkIndex_8e157_17 : decode cJ3_checkIndex_8e157 17 = .ok (.ireturn, 1) := by decide +kernel
theorem dL_law_0 : decode cL_law 0 = .ok (.new 7, 3) := by decide +kernel
theorem dL_law_3 : decode cL_law 3 = .ok (.dup, 1) := by decide +kernel
theorem dL_law_4 : decode cL_law 4 = .ok (.invokespecial 9, 3) := by decide +kernel
theorem dL_law_7 : decode cL_law 7 = .ok (.astore_n 1, 1) := by decide +kernel
theorem dL_law_8 : decode cL_law 8 = .ok (.new 10, 3) := by decide +kernel
theorem dL_law_11 : decode cL_law 11 = .ok (.dup, 1) := by decide +kernel
theorem dL_law_12 : decode cL_law 12 = .ok (.invokespecial 12, 3) := by decide +kernel
theorem dL_law_15 : decode cL_law 15 = .ok (.astore_n 2, 1) := by decide +kernel
theorem dL_law_16 : decode cL_law 16 = .ok (.iconst 0, 1) := by decide +kernel
theorem dL_law_17 : decode cL_law 17 = .ok (.istore_n 3, 1) := by decide +kernel
theorem dL_law_18 : decode cL_law 18 = .ok (.iload_n 3, 1) := by decide +kernel
theorem dL_law_19 : decode cL_law 19 = .ok (.aload_n 0, 1) := by decide +kernel
theorem dL_law_20 : decode cL_law 20 = .ok (.arraylength, 1) := by decide +kernel
theorem dL_law_21 : decode cL_law 21 = .ok (.bipush 6, 2) := by decide +kernel
theorem dL_law_23 : decode cL_law 23 = .ok (.isub, 1) := by decide +kernel
theorem dL_law_24 : decode cL_law 24 = .ok (.if_icmp .gt 834, 3) := by decide +kernel
theorem dL_law_27 : decode cL_law 27 = .ok (.aload_n 0, 1) := by decide +kernel
theorem dL_law_28 : decode cL_law 28 = .ok (.iload_n 3, 1) := by decide +kernel
theorem dL_law_29 : decode cL_law 29 = .ok (.iaload, 1) := by decide +kernel
theorem dL_law_30 : decode cL_law 30 = .ok (.bipush 31, 2) := by decide +kernel
theorem dL_law_32 : decode cL_law 32 = .ok (.iand, 1) := by decide +kernel
theorem dL_law_33 : decode cL_law 33 = .ok (.tableswitch 819 0 23 #[111, 174, 197, 210, 233, 256, 299, 348, 411, 444, 477, 510, 533, 546, 579, 612, 645, 658, 691, 714, 737, 760, 773, 796], 111) := by decide +kernel
theorem dL_law_144 : decode cL_law 144 = .ok (.aload_n 1, 1) := by decide +kernel
theorem dL_law_145 : decode cL_law 145 = .ok (.aload_n 0, 1) := by decide +kernel
theorem dL_law_146 : decode cL_law 146 = .ok (.iload_n 3, 1) := by decide +kernel
theorem dL_law_147 : decode cL_law 147 = .ok (.iconst 1, 1) := by decide +kernel
theorem dL_law_148 : decode cL_law 148 = .ok (.iadd, 1) := by decide +kernel
theorem dL_law_149 : decode cL_law 149 = .ok (.iaload, 1) := by decide +kernel
theorem dL_law_150 : decode cL_law 150 = .ok (.aload_n 0, 1) := by decide +kernel
theorem dL_law_151 : decode cL_law 151 = .ok (.iload_n 3, 1) := by decide +kernel
theorem dL_law_152 : decode cL_law 152 = .ok (.iconst 2, 1) := by decide +kernel
theorem dL_law_153 : decode cL_law 153 = .ok (.iadd, 1) := by decide +kernel
theorem dL_law_154 : decode cL_law 154 = .ok (.iaload, 1) := by decide +kernel
theorem dL_law_155 : decode cL_law 155 = .ok (.aload_n 0, 1) := by decide +kernel
theorem dL_law_156 : decode cL_law 156 = .ok (.iload_n 3, 1) := by decide +kernel
theorem dL_law_157 : decode cL_law 157 = .ok (.iconst 3, 1) := by decide +kernel
theorem dL_law_158 : decode cL_law 158 = .ok (.iadd, 1) := by decide +kernel
theorem dL_law_159 : decode cL_law 159 = .ok (.iaload, 1) := by decide +kernel
theorem dL_law_160 : decode cL_law 160 = .ok (.aload_n 0, 1) := by decide +kernel
theorem dL_law_161 : decode cL_law 161 = .ok (.iload_n 3, 1) := by decide +kernel
theorem dL_law_162 : decode cL_law 162 = .ok (.iconst 4, 1) := by decide +kernel
theorem dL_law_163 : decode cL_law 163 = .ok (.iadd, 1) := by decide +kernel
theorem dL_law_164 : decode cL_law 164 = .ok (.iaload, 1) := by decide +kernel
theorem dL_law_165 : decode cL_law 165 = .ok (.aload_n 0, 1) := by decide +kernel
theorem dL_law_166 : decode cL_law 166 = .ok (.iload_n 3, 1) := by decide +kernel
theorem dL_law_167 : decode cL_law 167 = .ok (.iconst 5, 1) := by decide +kernel
theorem dL_law_168 : decode cL_law 168 = .ok (.iadd, 1) := by decide +kernel
theorem dL_law_169 : decode cL_law 169 = .ok (.iaload, 1) := by decide +kernel
theorem dL_law_170 : decode cL_law 170 = .ok (.invokevirtual 13, 3) := by decide +kernel
theorem dL_law_173 : decode cL_law 173 = .ok (.aload_n 2, 1) := by decide +kernel
theorem dL_law_174 : decode cL_law 174 = .ok (.aload_n 0, 1) := by decide +kernel
theorem dL_law_175 : decode cL_law 175 = .ok (.iload_n 3, 1) := by decide +kernel
theorem dL_law_176 : decode cL_law 176 = .ok (.iconst 1, 1) := by decide +kernel
theorem dL_law_177 : decode cL_law 177 = .ok (.iadd, 1) := by decide +kernel
theorem dL_law_178 : decode cL_law 178 = .ok (.iaload, 1) := by decide +kernel
theorem dL_law_179 : decode cL_law 179 = .ok (.aload_n 0, 1) := by decide +kernel
theorem dL_law_180 : decode cL_law 180 = .ok (.iload_n 3, 1) := by decide +kernel
theorem dL_law_181 : decode cL_law 181 = .ok (.iconst 2, 1) := by decide +kernel
theorem dL_law_182 : decode cL_law 182 = .ok (.iadd, 1) := by decide +kernel
theorem dL_law_183 : decode cL_law 183 = .ok (.iaload, 1) := by decide +kernel
theorem dL_law_184 : decode cL_law 184 = .ok (.aload_n 0, 1) := by decide +kernel
theorem dL_law_185 : decode cL_law 185 = .ok (.iload_n 3, 1) := by decide +kernel
theorem dL_law_186 : decode cL_law 186 = .ok (.iconst 3, 1) := by decide +kernel
theorem dL_law_187 : decode cL_law 187 = .ok (.iadd, 1) := by decide +kernel
theorem dL_law_188 : decode cL_law 188 = .ok (.iaload, 1) := by decide +kernel
theorem dL_law_189 : decode cL_law 189 = .ok (.aload_n 0, 1) := by decide +kernel
theorem dL_law_190 : decode cL_law 190 = .ok (.iload_n 3, 1) := by decide +kernel
theorem dL_law_191 : decode cL_law 191 = .ok (.iconst 4, 1) := by decide +kernel
theorem dL_law_192 : decode cL_law 192 = .ok (.iadd, 1) := by decide +kernel
theorem dL_law_193 : decode cL_law 193 = .ok (.iaload, 1) := by decide +kernel
theorem dL_law_194 : decode cL_law 194 = .ok (.aload_n 0, 1) := by decide +kernel
theorem dL_law_195 : decode cL_law 195 = .ok (.iload_n 3, 1) := by decide +kernel
theorem dL_law_196 : decode cL_law 196 = .ok (.iconst 5, 1) := by decide +kernel
theorem dL_law_197 : decode cL_law 197 = .ok (.iadd, 1) := by decide +kernel
theorem dL_law_198 : decode cL_law 198 = .ok (.iaload, 1) := by decide +kernel
theorem dL_law_199 : decode cL_law 199 = .ok (.invokevirtual 17, 3) := by decide +kernel
theorem dL_law_202 : decode cL_law 202 = .ok (.if_icmp .eq 650, 3) := by decide +kernel
theorem dL_law_205 : decode cL_law 205 = .ok (.iconst 0, 1) := by decide +kernel
theorem dL_law_206 : decode cL_law 206 = .ok (.ireturn, 1) := by decide +kernel
theorem dL_law_207 : decode cL_law 207 = .ok (.aload_n 1, 1) := by decide +kernel
theorem dL_law_208 : decode cL_law 208 = .ok (.aload_n 0, 1) := by decide +kernel
theorem dL_law_209 : decode cL_law 209 = .ok (.iload_n 3, 1) := by decide +kernel
theorem dL_law_210 : decode cL_law 210 = .ok (.iconst 1, 1) := by decide +kernel
theorem dL_law_211 : decode cL_law 211 = .ok (.iadd, 1) := by decide +kernel
theorem dL_law_212 : decode cL_law 212 = .ok (.iaload, 1) := by decide +kernel
theorem dL_law_213 : decode cL_law 213 = .ok (.invokevirtual 18, 3) := by decide +kernel
theorem dL_law_216 : decode cL_law 216 = .ok (.aload_n 2, 1) := by decide +kernel
theorem dL_law_217 : decode cL_law 217 = .ok (.aload_n 0, 1) := by decide +kernel
theorem dL_law_218 : decode cL_law 218 = .ok (.iload_n 3, 1) := by decide +kernel
theorem dL_law_219 : decode cL_law 219 = .ok (.iconst 1, 1) := by decide +kernel
theorem dL_law_220 : decode cL_law 220 = .ok (.iadd, 1) := by decide +kernel
theorem dL_law_221 : decode cL_law 221 = .ok (.iaload, 1) := by decide +kernel
theorem dL_law_222 : decode cL_law 222 = .ok (.invokevirtual 22, 3) := by decide +kernel
theorem dL_law_225 : decode cL_law 225 = .ok (.if_icmp .eq 627, 3) := by decide +kernel
theorem dL_law_228 : decode cL_law 228 = .ok (.iconst 0, 1) := by decide +kernel
theorem dL_law_229 : decode cL_law 229 = .ok (.ireturn, 1) := by decide +kernel
theorem dL_law_230 : decode cL_law 230 = .ok (.aload_n 1, 1) := by decide +kernel
theorem dL_law_231 : decode cL_law 231 = .ok (.invokevirtual 23, 3) := by decide +kernel
theorem dL_law_234 : decode cL_law 234 = .ok (.aload_n 2, 1) := by decide +kernel
theorem dL_law_235 : decode cL_law 235 = .ok (.invokevirtual 27, 3) := by decide +kernel
theorem dL_law_238 : decode cL_law 238 = .ok (.if_icmp .eq 614, 3) := by decide +kernel
theorem dL_law_241 : decode cL_law 241 = .ok (.iconst 0, 1) := by decide +kernel
theorem dL_law_242 : decode cL_law 242 = .ok (.ireturn, 1) := by decide +kernel
theorem dL_law_243 : decode cL_law 243 = .ok (.aload_n 1, 1) := by decide +kernel
theorem dL_law_244 : decode cL_law 244 = .ok (.aload_n 0, 1) := by decide +kernel
theorem dL_law_245 : decode cL_law 245 = .ok (.iload_n 3, 1) := by decide +kernel
theorem dL_law_246 : decode cL_law 246 = .ok (.iconst 1, 1) := by decide +kernel
theorem dL_law_247 : decode cL_law 247 = .ok (.iadd, 1) := by decide +kernel
theorem dL_law_248 : decode cL_law 248 = .ok (.iaload, 1) := by decide +kernel
theorem dL_law_249 : decode cL_law 249 = .ok (.invokevirtual 28, 3) := by decide +kernel
theorem dL_law_252 : decode cL_law 252 = .ok (.aload_n 2, 1) := by decide +kernel
theorem dL_law_253 : decode cL_law 253 = .ok (.aload_n 0, 1) := by decide +kernel
theorem dL_law_254 : decode cL_law 254 = .ok (.iload_n 3, 1) := by decide +kernel
theorem dL_law_255 : decode cL_law 255 = .ok (.iconst 1, 1) := by decide +kernel
theorem dL_law_256 : decode cL_law 256 = .ok (.iadd, 1) := by decide +kernel
theorem dL_law_257 : decode cL_law 257 = .ok (.iaload, 1) := by decide +kernel
theorem dL_law_258 : decode cL_law 258 = .ok (.invokevirtual 31, 3) := by decide +kernel
theorem dL_law_261 : decode cL_law 261 = .ok (.if_icmp .eq 591, 3) := by decide +kernel
theorem dL_law_264 : decode cL_law 264 = .ok (.iconst 0, 1) := by decide +kernel
theorem dL_law_265 : decode cL_law 265 = .ok (.ireturn, 1) := by decide +kernel
theorem dL_law_266 : decode cL_law 266 = .ok (.aload_n 1, 1) := by decide +kernel
theorem dL_law_267 : decode cL_law 267 = .ok (.aload_n 0, 1) := by decide +kernel
theorem dL_law_268 : decode cL_law 268 = .ok (.iload_n 3, 1) := by decide +kernel
theorem dL_law_269 : decode cL_law 269 = .ok (.iconst 1, 1) := by decide +kernel
theorem dL_law_270 : decode cL_law 270 = .ok (.iadd, 1) := by decide +kernel
theorem dL_law_271 : decode cL_law 271 = .ok (.iaload, 1) := by decide +kernel
theorem dL_law_272 : decode cL_law 272 = .ok (.invokevirtual 32, 3) := by decide +kernel
theorem dL_law_275 : decode cL_law 275 = .ok (.aload_n 2, 1) := by decide +kernel
theorem dL_law_276 : decode cL_law 276 = .ok (.aload_n 0, 1) := by decide +kernel
theorem dL_law_277 : decode cL_law 277 = .ok (.iload_n 3, 1) := by decide +kernel
theorem dL_law_278 : decode cL_law 278 = .ok (.iconst 1, 1) := by decide +kernel
theorem dL_law_279 : decode cL_law 279 = .ok (.iadd, 1) := by decide +kernel
theorem dL_law_280 : decode cL_law 280 = .ok (.iaload, 1) := by decide +kernel
theorem dL_law_281 : decode cL_law 281 = .ok (.invokevirtual 35, 3) := by decide +kernel
theorem dL_law_284 : decode cL_law 284 = .ok (.if_icmp .eq 568, 3) := by decide +kernel
theorem dL_law_287 : decode cL_law 287 = .ok (.iconst 0, 1) := by decide +kernel
theorem dL_law_288 : decode cL_law 288 = .ok (.ireturn, 1) := by decide +kernel
theorem dL_law_289 : decode cL_law 289 = .ok (.aload_n 1, 1) := by decide +kernel
theorem dL_law_290 : decode cL_law 290 = .ok (.aload_n 0, 1) := by decide +kernel
theorem dL_law_291 : decode cL_law 291 = .ok (.iload_n 3, 1) := by decide +kernel
theorem dL_law_292 : decode cL_law 292 = .ok (.iconst 1, 1) := by decide +kernel
theorem dL_law_293 : decode cL_law 293 = .ok (.iadd, 1) := by decide +kernel
theorem dL_law_294 : decode cL_law 294 = .ok (.iaload, 1) := by decide +kernel
theorem dL_law_295 : decode cL_law 295 = .ok (.aload_n 0, 1) := by decide +kernel
theorem dL_law_296 : decode cL_law 296 = .ok (.iload_n 3, 1) := by decide +kernel
theorem dL_law_297 : decode cL_law 297 = .ok (.iconst 2, 1) := by decide +kernel
theorem dL_law_298 : decode cL_law 298 = .ok (.iadd, 1) := by decide +kernel
theorem dL_law_299 : decode cL_law 299 = .ok (.iaload, 1) := by decide +kernel
theorem dL_law_300 : decode cL_law 300 = .ok (.aload_n 0, 1) := by decide +kernel
theorem dL_law_301 : decode cL_law 301 = .ok (.iload_n 3, 1) := by decide +kernel
theorem dL_law_302 : decode cL_law 302 = .ok (.iconst 3, 1) := by decide +kernel
theorem dL_law_303 : decode cL_law 303 = .ok (.iadd, 1) := by decide +kernel
theorem dL_law_304 : decode cL_law 304 = .ok (.iaload, 1) := by decide +kernel
theorem dL_law_305 : decode cL_law 305 = .ok (.invokevirtual 36, 3) := by decide +kernel
theorem dL_law_308 : decode cL_law 308 = .ok (.aload_n 2, 1) := by decide +kernel
theorem dL_law_309 : decode cL_law 309 = .ok (.aload_n 0, 1) := by decide +kernel
theorem dL_law_310 : decode cL_law 310 = .ok (.iload_n 3, 1) := by decide +kernel
theorem dL_law_311 : decode cL_law 311 = .ok (.iconst 1, 1) := by decide +kernel
theorem dL_law_312 : decode cL_law 312 = .ok (.iadd, 1) := by decide +kernel
theorem dL_law_313 : decode cL_law 313 = .ok (.iaload, 1) := by decide +kernel
theorem dL_law_314 : decode cL_law 314 = .ok (.aload_n 0, 1) := by decide +kernel
theorem dL_law_315 : decode cL_law 315 = .ok (.iload_n 3, 1) := by decide +kernel
theorem dL_law_316 : decode cL_law 316 = .ok (.iconst 2, 1) := by decide +kernel
theorem dL_law_317 : decode cL_law 317 = .ok (.iadd, 1) := by decide +kernel
theorem dL_law_318 : decode cL_law 318 = .ok (.iaload, 1) := by decide +kernel
theorem dL_law_319 : decode cL_law 319 = .ok (.aload_n 0, 1) := by decide +kernel
theorem dL_law_320 : decode cL_law 320 = .ok (.iload_n 3, 1) := by decide +kernel
theorem dL_law_321 : decode cL_law 321 = .ok (.iconst 3, 1) := by decide +kernel
theorem dL_law_322 : decode cL_law 322 = .ok (.iadd, 1) := by decide +kernel
theorem dL_law_323 : decode cL_law 323 = .ok (.iaload, 1) := by decide +kernel
theorem dL_law_324 : decode cL_law 324 = .ok (.invokevirtual 40, 3) := by decide +kernel
theorem dL_law_327 : decode cL_law 327 = .ok (.if_icmp .eq 525, 3) := by decide +kernel
theorem dL_law_330 : decode cL_law 330 = .ok (.iconst 0, 1) := by decide +kernel
theorem dL_law_331 : decode cL_law 331 = .ok (.ireturn, 1) := by decide +kernel
theorem dL_law_332 : decode cL_law 332 = .ok (.aload_n 1, 1) := by decide +kernel
theorem dL_law_333 : decode cL_law 333 = .ok (.aload_n 0, 1) := by decide +kernel
theorem dL_law_334 : decode cL_law 334 = .ok (.iload_n 3, 1) := by decide +kernel
theorem dL_law_335 : decode cL_law 335 = .ok (.iconst 1, 1) := by decide +kernel
theorem dL_law_336 : decode cL_law 336 = .ok (.iadd, 1) := by decide +kernel
theorem dL_law_337 : decode cL_law 337 = .ok (.iaload, 1) := by decide +kernel
theorem dL_law_338 : decode cL_law 338 = .ok (.aload_n 0, 1) := by decide +kernel
theorem dL_law_339 : decode cL_law 339 = .ok (.iload_n 3, 1) := by decide +kernel
theorem dL_law_340 : decode cL_law 340 = .ok (.iconst 2, 1) := by decide +kernel
theorem dL_law_341 : decode cL_law 341 = .ok (.iadd, 1) := by decide +kernel
theorem dL_law_342 : decode cL_law 342 = .ok (.iaload, 1) := by decide +kernel
theorem dL_law_343 : decode cL_law 343 = .ok (.ifCond .eq 7, 3) := by decide +kernel
theorem dL_law_346 : decode cL_law 346 = .ok (.iconst 1, 1) := by decide +kernel
theorem dL_law_347 : decode cL_law 347 = .ok (.goto 4, 3) := by decide +kernel
theorem dL_law_350 : decode cL_law 350 = .ok (.iconst 0, 1) := by decide +kernel
theorem dL_law_351 : decode cL_law 351 = .ok (.invokevirtual 41, 3) := by decide +kernel
theorem dL_law_354 : decode cL_law 354 = .ok (.aload_n 2, 1) := by decide +kernel
theorem dL_law_355 : decode cL_law 355 = .ok (.aload_n 0, 1) := by decide +kernel
theorem dL_law_356 : decode cL_law 356 = .ok (.iload_n 3, 1) := by decide +kernel
theorem dL_law_357 : decode cL_law 357 = .ok (.iconst 1, 1) := by decide +kernel
theorem dL_law_358 : decode cL_law 358 = .ok (.iadd, 1) := by decide +kernel
theorem dL_law_359 : decode cL_law 359 = .ok (.iaload, 1) := by decide +kernel
theorem dL_law_360 : decode cL_law 360 = .ok (.aload_n 0, 1) := by decide +kernel
theorem dL_law_361 : decode cL_law 361 = .ok (.iload_n 3, 1) := by decide +kernel
theorem dL_law_362 : decode cL_law 362 = .ok (.iconst 2, 1) := by decide +kernel
theorem dL_law_363 : decode cL_law 363 = .ok (.iadd, 1) := by decide +kernel
theorem dL_law_364 : decode cL_law 364 = .ok (.iaload, 1) := by decide +kernel
theorem dL_law_365 : decode cL_law 365 = .ok (.ifCond .eq 7, 3) := by decide +kernel
theorem dL_law_368 : decode cL_law 368 = .ok (.iconst 1, 1) := by decide +kernel
theorem dL_law_369 : decode cL_law 369 = .ok (.goto 4, 3) := by decide +kernel
theorem dL_law_372 : decode cL_law 372 = .ok (.iconst 0, 1) := by decide +kernel
theorem dL_law_373 : decode cL_law 373 = .ok (.invokevirtual 45, 3) := by decide +kernel
theorem dL_law_376 : decode cL_law 376 = .ok (.if_icmp .eq 476, 3) := by decide +kernel
theorem dL_law_379 : decode cL_law 379 = .ok (.iconst 0, 1) := by decide +kernel
theorem dL_law_380 : decode cL_law 380 = .ok (.ireturn, 1) := by decide +kernel
theorem dL_law_381 : decode cL_law 381 = .ok (.aload_n 1, 1) := by decide +kernel
theorem dL_law_382 : decode cL_law 382 = .ok (.aload_n 0, 1) := by decide +kernel
theorem dL_law_383 : decode cL_law 383 = .ok (.iload_n 3, 1) := by decide +kernel
theorem dL_law_384 : decode cL_law 384 = .ok (.iconst 1, 1) := by decide +kernel
theorem dL_law_385 : decode cL_law 385 = .ok (.iadd, 1) := by decide +kernel
theorem dL_law_386 : decode cL_law 386 = .ok (.iaload, 1) := by decide +kernel
theorem dL_law_387 : decode cL_law 387 = .ok (.aload_n 0, 1) := by decide +kernel
theorem dL_law_388 : decode cL_law 388 = .ok (.iload_n 3, 1) := by decide +kernel
theorem dL_law_389 : decode cL_law 389 = .ok (.iconst 2, 1) := by decide +kernel
theorem dL_law_390 : decode cL_law 390 = .ok (.iadd, 1) := by decide +kernel
theorem dL_law_391 : decode cL_law 391 = .ok (.iaload, 1) := by decide +kernel
theorem dL_law_392 : decode cL_law 392 = .ok (.aload_n 0, 1) := by decide +kernel
theorem dL_law_393 : decode cL_law 393 = .ok (.iload_n 3, 1) := by decide +kernel
theorem dL_law_394 : decode cL_law 394 = .ok (.iconst 3, 1) := by decide +kernel
theorem dL_law_395 : decode cL_law 395 = .ok (.iadd, 1) := by decide +kernel
theorem dL_law_396 : decode cL_law 396 = .ok (.iaload, 1) := by decide +kernel
theorem dL_law_397 : decode cL_law 397 = .ok (.aload_n 0, 1) := by decide +kernel
theorem dL_law_398 : decode cL_law 398 = .ok (.iload_n 3, 1) := by decide +kernel
theorem dL_law_399 : decode cL_law 399 = .ok (.iconst 4, 1) := by decide +kernel
theorem dL_law_400 : decode cL_law 400 = .ok (.iadd, 1) := by decide +kernel
theorem dL_law_401 : decode cL_law 401 = .ok (.iaload, 1) := by decide +kernel
theorem dL_law_402 : decode cL_law 402 = .ok (.aload_n 0, 1) := by decide +kernel
theorem dL_law_403 : decode cL_law 403 = .ok (.iload_n 3, 1) := by decide +kernel
theorem dL_law_404 : decode cL_law 404 = .ok (.iconst 5, 1) := by decide +kernel
theorem dL_law_405 : decode cL_law 405 = .ok (.iadd, 1) := by decide +kernel
theorem dL_law_406 : decode cL_law 406 = .ok (.iaload, 1) := by decide +kernel
theorem dL_law_407 : decode cL_law 407 = .ok (.invokevirtual 46, 3) := by decide +kernel
theorem dL_law_410 : decode cL_law 410 = .ok (.aload_n 2, 1) := by decide +kernel
theorem dL_law_411 : decode cL_law 411 = .ok (.aload_n 0, 1) := by decide +kernel
theorem dL_law_412 : decode cL_law 412 = .ok (.iload_n 3, 1) := by decide +kernel
theorem dL_law_413 : decode cL_law 413 = .ok (.iconst 1, 1) := by decide +kernel
theorem dL_law_414 : decode cL_law 414 = .ok (.iadd, 1) := by decide +kernel
theorem dL_law_415 : decode cL_law 415 = .ok (.iaload, 1) := by decide +kernel
theorem dL_law_416 : decode cL_law 416 = .ok (.aload_n 0, 1) := by decide +kernel
theorem dL_law_417 : decode cL_law 417 = .ok (.iload_n 3, 1) := by decide +kernel
theorem dL_law_418 : decode cL_law 418 = .ok (.iconst 2, 1) := by decide +kernel
theorem dL_law_419 : decode cL_law 419 = .ok (.iadd, 1) := by decide +kernel
theorem dL_law_420 : decode cL_law 420 = .ok (.iaload, 1) := by decide +kernel
theorem dL_law_421 : decode cL_law 421 = .ok (.aload_n 0, 1) := by decide +kernel
theorem dL_law_422 : decode cL_law 422 = .ok (.iload_n 3, 1) := by decide +kernel
theorem dL_law_423 : decode cL_law 423 = .ok (.iconst 3, 1) := by decide +kernel
theorem dL_law_424 : decode cL_law 424 = .ok (.iadd, 1) := by decide +kernel
theorem dL_law_425 : decode cL_law 425 = .ok (.iaload, 1) := by decide +kernel
theorem dL_law_426 : decode cL_law 426 = .ok (.aload_n 0, 1) := by decide +kernel
theorem dL_law_427 : decode cL_law 427 = .ok (.iload_n 3, 1) := by decide +kernel
theorem dL_law_428 : decode cL_law 428 = .ok (.iconst 4, 1) := by decide +kernel
theorem dL_law_429 : decode cL_law 429 = .ok (.iadd, 1) := by decide +kernel
theorem dL_law_430 : decode cL_law 430 = .ok (.iaload, 1) := by decide +kernel
theorem dL_law_431 : decode cL_law 431 = .ok (.aload_n 0, 1) := by decide +kernel
theorem dL_law_432 : decode cL_law 432 = .ok (.iload_n 3, 1) := by decide +kernel
theorem dL_law_433 : decode cL_law 433 = .ok (.iconst 5, 1) := by decide +kernel
theorem dL_law_434 : decode cL_law 434 = .ok (.iadd, 1) := by decide +kernel
theorem dL_law_435 : decode cL_law 435 = .ok (.iaload, 1) := by decide +kernel
theorem dL_law_436 : decode cL_law 436 = .ok (.invokevirtual 49, 3) := by decide +kernel
theorem dL_law_439 : decode cL_law 439 = .ok (.if_icmp .eq 413, 3) := by decide +kernel
theorem dL_law_442 : decode cL_law 442 = .ok (.iconst 0, 1) := by decide +kernel
theorem dL_law_443 : decode cL_law 443 = .ok (.ireturn, 1) := by decide +kernel
theorem dL_law_444 : decode cL_law 444 = .ok (.aload_n 1, 1) := by decide +kernel
theorem dL_law_445 : decode cL_law 445 = .ok (.aload_n 0, 1) := by decide +kernel
theorem dL_law_446 : decode cL_law 446 = .ok (.iload_n 3, 1) := by decide +kernel
theorem dL_law_447 : decode cL_law 447 = .ok (.iconst 1, 1) := by decide +kernel
theorem dL_law_448 : decode cL_law 448 = .ok (.iadd, 1) := by decide +kernel
theorem dL_law_449 : decode cL_law 449 = .ok (.iaload, 1) := by decide +kernel
theorem dL_law_450 : decode cL_law 450 = .ok (.aload_n 0, 1) := by decide +kernel
theorem dL_law_451 : decode cL_law 451 = .ok (.iload_n 3, 1) := by decide +kernel
theorem dL_law_452 : decode cL_law 452 = .ok (.iconst 2, 1) := by decide +kernel
theorem dL_law_453 : decode cL_law 453 = .ok (.iadd, 1) := by decide +kernel
theorem dL_law_454 : decode cL_law 454 = .ok (.iaload, 1) := by decide +kernel
theorem dL_law_455 : decode cL_law 455 = .ok (.invokevirtual 50, 3) := by decide +kernel
theorem dL_law_458 : decode cL_law 458 = .ok (.aload_n 2, 1) := by decide +kernel
theorem dL_law_459 : decode cL_law 459 = .ok (.aload_n 0, 1) := by decide +kernel
theorem dL_law_460 : decode cL_law 460 = .ok (.iload_n 3, 1) := by decide +kernel
theorem dL_law_461 : decode cL_law 461 = .ok (.iconst 1, 1) := by decide +kernel
theorem dL_law_462 : decode cL_law 462 = .ok (.iadd, 1) := by decide +kernel
theorem dL_law_463 : decode cL_law 463 = .ok (.iaload, 1) := by decide +kernel
theorem dL_law_464 : decode cL_law 464 = .ok (.aload_n 0, 1) := by decide +kernel
theorem dL_law_465 : decode cL_law 465 = .ok (.iload_n 3, 1) := by decide +kernel
theorem dL_law_466 : decode cL_law 466 = .ok (.iconst 2, 1) := by decide +kernel
theorem dL_law_467 : decode cL_law 467 = .ok (.iadd, 1) := by decide +kernel
theorem dL_law_468 : decode cL_law 468 = .ok (.iaload, 1) := by decide +kernel
theorem dL_law_469 : decode cL_law 469 = .ok (.invokevirtual 54, 3) := by decide +kernel
theorem dL_law_472 : decode cL_law 472 = .ok (.if_icmp .eq 380, 3) := by decide +kernel
theorem dL_law_475 : decode cL_law 475 = .ok (.iconst 0, 1) := by decide +kernel
theorem dL_law_476 : decode cL_law 476 = .ok (.ireturn, 1) := by decide +kernel
theorem dL_law_477 : decode cL_law 477 = .ok (.aload_n 1, 1) := by decide +kernel
theorem dL_law_478 : decode cL_law 478 = .ok (.aload_n 0, 1) := by decide +kernel
theorem dL_law_479 : decode cL_law 479 = .ok (.iload_n 3, 1) := by decide +kernel
theorem dL_law_480 : decode cL_law 480 = .ok (.iconst 1, 1) := by decide +kernel
theorem dL_law_481 : decode cL_law 481 = .ok (.iadd, 1) := by decide +kernel
theorem dL_law_482 : decode cL_law 482 = .ok (.iaload, 1) := by decide +kernel
theorem dL_law_483 : decode cL_law 483 = .ok (.aload_n 0, 1) := by decide +kernel
theorem dL_law_484 : decode cL_law 484 = .ok (.iload_n 3, 1) := by decide +kernel
theorem dL_law_485 : decode cL_law 485 = .ok (.iconst 2, 1) := by decide +kernel
theorem dL_law_486 : decode cL_law 486 = .ok (.iadd, 1) := by decide +kernel
theorem dL_law_487 : decode cL_law 487 = .ok (.iaload, 1) := by decide +kernel
theorem dL_law_488 : decode cL_law 488 = .ok (.invokevirtual 55, 3) := by decide +kernel
theorem dL_law_491 : decode cL_law 491 = .ok (.aload_n 2, 1) := by decide +kernel
theorem dL_law_492 : decode cL_law 492 = .ok (.aload_n 0, 1) := by decide +kernel
theorem dL_law_493 : decode cL_law 493 = .ok (.iload_n 3, 1) := by decide +kernel
theorem dL_law_494 : decode cL_law 494 = .ok (.iconst 1, 1) := by decide +kernel
theorem dL_law_495 : decode cL_law 495 = .ok (.iadd, 1) := by decide +kernel
theorem dL_law_496 : decode cL_law 496 = .ok (.iaload, 1) := by decide +kernel
theorem dL_law_497 : decode cL_law 497 = .ok (.aload_n 0, 1) := by decide +kernel
theorem dL_law_498 : decode cL_law 498 = .ok (.iload_n 3, 1) := by decide +kernel
theorem dL_law_499 : decode cL_law 499 = .ok (.iconst 2, 1) := by decide +kernel
theorem dL_law_500 : decode cL_law 500 = .ok (.iadd, 1) := by decide +kernel
theorem dL_law_501 : decode cL_law 501 = .ok (.iaload, 1) := by decide +kernel
theorem dL_law_502 : decode cL_law 502 = .ok (.invokevirtual 58, 3) := by decide +kernel
theorem dL_law_505 : decode cL_law 505 = .ok (.if_icmp .eq 347, 3) := by decide +kernel
theorem dL_law_508 : decode cL_law 508 = .ok (.iconst 0, 1) := by decide +kernel
theorem dL_law_509 : decode cL_law 509 = .ok (.ireturn, 1) := by decide +kernel
theorem dL_law_510 : decode cL_law 510 = .ok (.aload_n 1, 1) := by decide +kernel
theorem dL_law_511 : decode cL_law 511 = .ok (.aload_n 0, 1) := by decide +kernel
theorem dL_law_512 : decode cL_law 512 = .ok (.iload_n 3, 1) := by decide +kernel
theorem dL_law_513 : decode cL_law 513 = .ok (.iconst 1, 1) := by decide +kernel
theorem dL_law_514 : decode cL_law 514 = .ok (.iadd, 1) := by decide +kernel
theorem dL_law_515 : decode cL_law 515 = .ok (.iaload, 1) := by decide +kernel
theorem dL_law_516 : decode cL_law 516 = .ok (.aload_n 0, 1) := by decide +kernel
theorem dL_law_517 : decode cL_law 517 = .ok (.iload_n 3, 1) := by decide +kernel
theorem dL_law_518 : decode cL_law 518 = .ok (.iconst 2, 1) := by decide +kernel
theorem dL_law_519 : decode cL_law 519 = .ok (.iadd, 1) := by decide +kernel
theorem dL_law_520 : decode cL_law 520 = .ok (.iaload, 1) := by decide +kernel
theorem dL_law_521 : decode cL_law 521 = .ok (.invokevirtual 59, 3) := by decide +kernel
theorem dL_law_524 : decode cL_law 524 = .ok (.aload_n 2, 1) := by decide +kernel
theorem dL_law_525 : decode cL_law 525 = .ok (.aload_n 0, 1) := by decide +kernel
theorem dL_law_526 : decode cL_law 526 = .ok (.iload_n 3, 1) := by decide +kernel
theorem dL_law_527 : decode cL_law 527 = .ok (.iconst 1, 1) := by decide +kernel
theorem dL_law_528 : decode cL_law 528 = .ok (.iadd, 1) := by decide +kernel
theorem dL_law_529 : decode cL_law 529 = .ok (.iaload, 1) := by decide +kernel
theorem dL_law_530 : decode cL_law 530 = .ok (.aload_n 0, 1) := by decide +kernel
theorem dL_law_531 : decode cL_law 531 = .ok (.iload_n 3, 1) := by decide +kernel
theorem dL_law_532 : decode cL_law 532 = .ok (.iconst 2, 1) := by decide +kernel
theorem dL_law_533 : decode cL_law 533 = .ok (.iadd, 1) := by decide +kernel
theorem dL_law_534 : decode cL_law 534 = .ok (.iaload, 1) := by decide +kernel
theorem dL_law_535 : decode cL_law 535 = .ok (.invokevirtual 62, 3) := by decide +kernel
theorem dL_law_538 : decode cL_law 538 = .ok (.if_icmp .eq 314, 3) := by decide +kernel
theorem dL_law_541 : decode cL_law 541 = .ok (.iconst 0, 1) := by decide +kernel
theorem dL_law_542 : decode cL_law 542 = .ok (.ireturn, 1) := by decide +kernel
theorem dL_law_543 : decode cL_law 543 = .ok (.aload_n 1, 1) := by decide +kernel
theorem dL_law_544 : decode cL_law 544 = .ok (.aload_n 0, 1) := by decide +kernel
theorem dL_law_545 : decode cL_law 545 = .ok (.iload_n 3, 1) := by decide +kernel
theorem dL_law_546 : decode cL_law 546 = .ok (.iconst 1, 1) := by decide +kernel
theorem dL_law_547 : decode cL_law 547 = .ok (.iadd, 1) := by decide +kernel
theorem dL_law_548 : decode cL_law 548 = .ok (.iaload, 1) := by decide +kernel
theorem dL_law_549 : decode cL_law 549 = .ok (.invokevirtual 63, 3) := by decide +kernel
theorem dL_law_552 : decode cL_law 552 = .ok (.aload_n 2, 1) := by decide +kernel
theorem dL_law_553 : decode cL_law 553 = .ok (.aload_n 0, 1) := by decide +kernel
theorem dL_law_554 : decode cL_law 554 = .ok (.iload_n 3, 1) := by decide +kernel
theorem dL_law_555 : decode cL_law 555 = .ok (.iconst 1, 1) := by decide +kernel
theorem dL_law_556 : decode cL_law 556 = .ok (.iadd, 1) := by decide +kernel
theorem dL_law_557 : decode cL_law 557 = .ok (.iaload, 1) := by decide +kernel
theorem dL_law_558 : decode cL_law 558 = .ok (.invokevirtual 66, 3) := by decide +kernel
theorem dL_law_561 : decode cL_law 561 = .ok (.if_icmp .eq 291, 3) := by decide +kernel
theorem dL_law_564 : decode cL_law 564 = .ok (.iconst 0, 1) := by decide +kernel
theorem dL_law_565 : decode cL_law 565 = .ok (.ireturn, 1) := by decide +kernel
theorem dL_law_566 : decode cL_law 566 = .ok (.aload_n 1, 1) := by decide +kernel
theorem dL_law_567 : decode cL_law 567 = .ok (.invokevirtual 67, 3) := by decide +kernel
theorem dL_law_570 : decode cL_law 570 = .ok (.aload_n 2, 1) := by decide +kernel
theorem dL_law_571 : decode cL_law 571 = .ok (.invokevirtual 70, 3) := by decide +kernel
theorem dL_law_574 : decode cL_law 574 = .ok (.if_icmp .eq 278, 3) := by decide +kernel
theorem dL_law_577 : decode cL_law 577 = .ok (.iconst 0, 1) := by decide +kernel
theorem dL_law_578 : decode cL_law 578 = .ok (.ireturn, 1) := by decide +kernel
theorem dL_law_579 : decode cL_law 579 = .ok (.aload_n 1, 1) := by decide +kernel
theorem dL_law_580 : decode cL_law 580 = .ok (.aload_n 0, 1) := by decide +kernel
theorem dL_law_581 : decode cL_law 581 = .ok (.iload_n 3, 1) := by decide +kernel
theorem dL_law_582 : decode cL_law 582 = .ok (.iconst 1, 1) := by decide +kernel
theorem dL_law_583 : decode cL_law 583 = .ok (.iadd, 1) := by decide +kernel
theorem dL_law_584 : decode cL_law 584 = .ok (.iaload, 1) := by decide +kernel
theorem dL_law_585 : decode cL_law 585 = .ok (.aload_n 0, 1) := by decide +kernel
theorem dL_law_586 : decode cL_law 586 = .ok (.iload_n 3, 1) := by decide +kernel
theorem dL_law_587 : decode cL_law 587 = .ok (.iconst 2, 1) := by decide +kernel
theorem dL_law_588 : decode cL_law 588 = .ok (.iadd, 1) := by decide +kernel
theorem dL_law_589 : decode cL_law 589 = .ok (.iaload, 1) := by decide +kernel
theorem dL_law_590 : decode cL_law 590 = .ok (.invokevirtual 71, 3) := by decide +kernel
theorem dL_law_593 : decode cL_law 593 = .ok (.aload_n 2, 1) := by decide +kernel
theorem dL_law_594 : decode cL_law 594 = .ok (.aload_n 0, 1) := by decide +kernel
theorem dL_law_595 : decode cL_law 595 = .ok (.iload_n 3, 1) := by decide +kernel
theorem dL_law_596 : decode cL_law 596 = .ok (.iconst 1, 1) := by decide +kernel
theorem dL_law_597 : decode cL_law 597 = .ok (.iadd, 1) := by decide +kernel
theorem dL_law_598 : decode cL_law 598 = .ok (.iaload, 1) := by decide +kernel
theorem dL_law_599 : decode cL_law 599 = .ok (.aload_n 0, 1) := by decide +kernel
theorem dL_law_600 : decode cL_law 600 = .ok (.iload_n 3, 1) := by decide +kernel
theorem dL_law_601 : decode cL_law 601 = .ok (.iconst 2, 1) := by decide +kernel
theorem dL_law_602 : decode cL_law 602 = .ok (.iadd, 1) := by decide +kernel
theorem dL_law_603 : decode cL_law 603 = .ok (.iaload, 1) := by decide +kernel
theorem dL_law_604 : decode cL_law 604 = .ok (.invokevirtual 74, 3) := by decide +kernel
theorem dL_law_607 : decode cL_law 607 = .ok (.if_icmp .eq 245, 3) := by decide +kernel
theorem dL_law_610 : decode cL_law 610 = .ok (.iconst 0, 1) := by decide +kernel
theorem dL_law_611 : decode cL_law 611 = .ok (.ireturn, 1) := by decide +kernel
theorem dL_law_612 : decode cL_law 612 = .ok (.aload_n 1, 1) := by decide +kernel
theorem dL_law_613 : decode cL_law 613 = .ok (.aload_n 0, 1) := by decide +kernel
theorem dL_law_614 : decode cL_law 614 = .ok (.iload_n 3, 1) := by decide +kernel
theorem dL_law_615 : decode cL_law 615 = .ok (.iconst 1, 1) := by decide +kernel
theorem dL_law_616 : decode cL_law 616 = .ok (.iadd, 1) := by decide +kernel
theorem dL_law_617 : decode cL_law 617 = .ok (.iaload, 1) := by decide +kernel
theorem dL_law_618 : decode cL_law 618 = .ok (.aload_n 0, 1) := by decide +kernel
theorem dL_law_619 : decode cL_law 619 = .ok (.iload_n 3, 1) := by decide +kernel
theorem dL_law_620 : decode cL_law 620 = .ok (.iconst 2, 1) := by decide +kernel
theorem dL_law_621 : decode cL_law 621 = .ok (.iadd, 1) := by decide +kernel
theorem dL_law_622 : decode cL_law 622 = .ok (.iaload, 1) := by decide +kernel
theorem dL_law_623 : decode cL_law 623 = .ok (.invokevirtual 75, 3) := by decide +kernel
theorem dL_law_626 : decode cL_law 626 = .ok (.aload_n 2, 1) := by decide +kernel
theorem dL_law_627 : decode cL_law 627 = .ok (.aload_n 0, 1) := by decide +kernel
theorem dL_law_628 : decode cL_law 628 = .ok (.iload_n 3, 1) := by decide +kernel
theorem dL_law_629 : decode cL_law 629 = .ok (.iconst 1, 1) := by decide +kernel
theorem dL_law_630 : decode cL_law 630 = .ok (.iadd, 1) := by decide +kernel
theorem dL_law_631 : decode cL_law 631 = .ok (.iaload, 1) := by decide +kernel
theorem dL_law_632 : decode cL_law 632 = .ok (.aload_n 0, 1) := by decide +kernel
theorem dL_law_633 : decode cL_law 633 = .ok (.iload_n 3, 1) := by decide +kernel
theorem dL_law_634 : decode cL_law 634 = .ok (.iconst 2, 1) := by decide +kernel
theorem dL_law_635 : decode cL_law 635 = .ok (.iadd, 1) := by decide +kernel
theorem dL_law_636 : decode cL_law 636 = .ok (.iaload, 1) := by decide +kernel
theorem dL_law_637 : decode cL_law 637 = .ok (.invokevirtual 78, 3) := by decide +kernel
theorem dL_law_640 : decode cL_law 640 = .ok (.if_icmp .eq 212, 3) := by decide +kernel
theorem dL_law_643 : decode cL_law 643 = .ok (.iconst 0, 1) := by decide +kernel
theorem dL_law_644 : decode cL_law 644 = .ok (.ireturn, 1) := by decide +kernel
theorem dL_law_645 : decode cL_law 645 = .ok (.aload_n 1, 1) := by decide +kernel
theorem dL_law_646 : decode cL_law 646 = .ok (.aload_n 0, 1) := by decide +kernel
theorem dL_law_647 : decode cL_law 647 = .ok (.iload_n 3, 1) := by decide +kernel
theorem dL_law_648 : decode cL_law 648 = .ok (.iconst 1, 1) := by decide +kernel
theorem dL_law_649 : decode cL_law 649 = .ok (.iadd, 1) := by decide +kernel
theorem dL_law_650 : decode cL_law 650 = .ok (.iaload, 1) := by decide +kernel
theorem dL_law_651 : decode cL_law 651 = .ok (.aload_n 0, 1) := by decide +kernel
theorem dL_law_652 : decode cL_law 652 = .ok (.iload_n 3, 1) := by decide +kernel
theorem dL_law_653 : decode cL_law 653 = .ok (.iconst 2, 1) := by decide +kernel
theorem dL_law_654 : decode cL_law 654 = .ok (.iadd, 1) := by decide +kernel
theorem dL_law_655 : decode cL_law 655 = .ok (.iaload, 1) := by decide +kernel
theorem dL_law_656 : decode cL_law 656 = .ok (.invokevirtual 79, 3) := by decide +kernel
theorem dL_law_659 : decode cL_law 659 = .ok (.aload_n 2, 1) := by decide +kernel
theorem dL_law_660 : decode cL_law 660 = .ok (.aload_n 0, 1) := by decide +kernel
theorem dL_law_661 : decode cL_law 661 = .ok (.iload_n 3, 1) := by decide +kernel
theorem dL_law_662 : decode cL_law 662 = .ok (.iconst 1, 1) := by decide +kernel
theorem dL_law_663 : decode cL_law 663 = .ok (.iadd, 1) := by decide +kernel
theorem dL_law_664 : decode cL_law 664 = .ok (.iaload, 1) := by decide +kernel
theorem dL_law_665 : decode cL_law 665 = .ok (.aload_n 0, 1) := by decide +kernel
theorem dL_law_666 : decode cL_law 666 = .ok (.iload_n 3, 1) := by decide +kernel
theorem dL_law_667 : decode cL_law 667 = .ok (.iconst 2, 1) := by decide +kernel
theorem dL_law_668 : decode cL_law 668 = .ok (.iadd, 1) := by decide +kernel
theorem dL_law_669 : decode cL_law 669 = .ok (.iaload, 1) := by decide +kernel
theorem dL_law_670 : decode cL_law 670 = .ok (.invokevirtual 82, 3) := by decide +kernel
theorem dL_law_673 : decode cL_law 673 = .ok (.if_icmp .eq 179, 3) := by decide +kernel
theorem dL_law_676 : decode cL_law 676 = .ok (.iconst 0, 1) := by decide +kernel
theorem dL_law_677 : decode cL_law 677 = .ok (.ireturn, 1) := by decide +kernel
theorem dL_law_678 : decode cL_law 678 = .ok (.aload_n 1, 1) := by decide +kernel
theorem dL_law_679 : decode cL_law 679 = .ok (.invokevirtual 83, 3) := by decide +kernel
theorem dL_law_682 : decode cL_law 682 = .ok (.aload_n 2, 1) := by decide +kernel
theorem dL_law_683 : decode cL_law 683 = .ok (.invokevirtual 86, 3) := by decide +kernel
theorem dL_law_686 : decode cL_law 686 = .ok (.if_icmp .eq 166, 3) := by decide +kernel
theorem dL_law_689 : decode cL_law 689 = .ok (.iconst 0, 1) := by decide +kernel
theorem dL_law_690 : decode cL_law 690 = .ok (.ireturn, 1) := by decide +kernel
theorem dL_law_691 : decode cL_law 691 = .ok (.aload_n 1, 1) := by decide +kernel
theorem dL_law_692 : decode cL_law 692 = .ok (.aload_n 0, 1) := by decide +kernel
theorem dL_law_693 : decode cL_law 693 = .ok (.iload_n 3, 1) := by decide +kernel
theorem dL_law_694 : decode cL_law 694 = .ok (.iconst 1, 1) := by decide +kernel
theorem dL_law_695 : decode cL_law 695 = .ok (.iadd, 1) := by decide +kernel
theorem dL_law_696 : decode cL_law 696 = .ok (.iaload, 1) := by decide +kernel
theorem dL_law_697 : decode cL_law 697 = .ok (.aload_n 0, 1) := by decide +kernel
theorem dL_law_698 : decode cL_law 698 = .ok (.iload_n 3, 1) := by decide +kernel
theorem dL_law_699 : decode cL_law 699 = .ok (.iconst 2, 1) := by decide +kernel
theorem dL_law_700 : decode cL_law 700 = .ok (.iadd, 1) := by decide +kernel
theorem dL_law_701 : decode cL_law 701 = .ok (.iaload, 1) := by decide +kernel
theorem dL_law_702 : decode cL_law 702 = .ok (.invokevirtual 87, 3) := by decide +kernel
theorem dL_law_705 : decode cL_law 705 = .ok (.aload_n 2, 1) := by decide +kernel
theorem dL_law_706 : decode cL_law 706 = .ok (.aload_n 0, 1) := by decide +kernel
theorem dL_law_707 : decode cL_law 707 = .ok (.iload_n 3, 1) := by decide +kernel
theorem dL_law_708 : decode cL_law 708 = .ok (.iconst 1, 1) := by decide +kernel
theorem dL_law_709 : decode cL_law 709 = .ok (.iadd, 1) := by decide +kernel
theorem dL_law_710 : decode cL_law 710 = .ok (.iaload, 1) := by decide +kernel
theorem dL_law_711 : decode cL_law 711 = .ok (.aload_n 0, 1) := by decide +kernel
theorem dL_law_712 : decode cL_law 712 = .ok (.iload_n 3, 1) := by decide +kernel
theorem dL_law_713 : decode cL_law 713 = .ok (.iconst 2, 1) := by decide +kernel
theorem dL_law_714 : decode cL_law 714 = .ok (.iadd, 1) := by decide +kernel
theorem dL_law_715 : decode cL_law 715 = .ok (.iaload, 1) := by decide +kernel
theorem dL_law_716 : decode cL_law 716 = .ok (.invokevirtual 90, 3) := by decide +kernel
theorem dL_law_719 : decode cL_law 719 = .ok (.if_icmp .eq 133, 3) := by decide +kernel
theorem dL_law_722 : decode cL_law 722 = .ok (.iconst 0, 1) := by decide +kernel
theorem dL_law_723 : decode cL_law 723 = .ok (.ireturn, 1) := by decide +kernel
theorem dL_law_724 : decode cL_law 724 = .ok (.aload_n 1, 1) := by decide +kernel
theorem dL_law_725 : decode cL_law 725 = .ok (.aload_n 0, 1) := by decide +kernel
theorem dL_law_726 : decode cL_law 726 = .ok (.iload_n 3, 1) := by decide +kernel
theorem dL_law_727 : decode cL_law 727 = .ok (.iconst 1, 1) := by decide +kernel
theorem dL_law_728 : decode cL_law 728 = .ok (.iadd, 1) := by decide +kernel
theorem dL_law_729 : decode cL_law 729 = .ok (.iaload, 1) := by decide +kernel
theorem dL_law_730 : decode cL_law 730 = .ok (.invokevirtual 91, 3) := by decide +kernel
theorem dL_law_733 : decode cL_law 733 = .ok (.aload_n 2, 1) := by decide +kernel
theorem dL_law_734 : decode cL_law 734 = .ok (.aload_n 0, 1) := by decide +kernel
theorem dL_law_735 : decode cL_law 735 = .ok (.iload_n 3, 1) := by decide +kernel
theorem dL_law_736 : decode cL_law 736 = .ok (.iconst 1, 1) := by decide +kernel
theorem dL_law_737 : decode cL_law 737 = .ok (.iadd, 1) := by decide +kernel
theorem dL_law_738 : decode cL_law 738 = .ok (.iaload, 1) := by decide +kernel
theorem dL_law_739 : decode cL_law 739 = .ok (.invokevirtual 94, 3) := by decide +kernel
theorem dL_law_742 : decode cL_law 742 = .ok (.if_icmp .eq 110, 3) := by decide +kernel
theorem dL_law_745 : decode cL_law 745 = .ok (.iconst 0, 1) := by decide +kernel
theorem dL_law_746 : decode cL_law 746 = .ok (.ireturn, 1) := by decide +kernel
theorem dL_law_747 : decode cL_law 747 = .ok (.aload_n 1, 1) := by decide +kernel
theorem dL_law_748 : decode cL_law 748 = .ok (.aload_n 0, 1) := by decide +kernel
theorem dL_law_749 : decode cL_law 749 = .ok (.iload_n 3, 1) := by decide +kernel
theorem dL_law_750 : decode cL_law 750 = .ok (.iconst 1, 1) := by decide +kernel
theorem dL_law_751 : decode cL_law 751 = .ok (.iadd, 1) := by decide +kernel
theorem dL_law_752 : decode cL_law 752 = .ok (.iaload, 1) := by decide +kernel
theorem dL_law_753 : decode cL_law 753 = .ok (.invokevirtual 95, 3) := by decide +kernel
theorem dL_law_756 : decode cL_law 756 = .ok (.aload_n 2, 1) := by decide +kernel
theorem dL_law_757 : decode cL_law 757 = .ok (.aload_n 0, 1) := by decide +kernel
theorem dL_law_758 : decode cL_law 758 = .ok (.iload_n 3, 1) := by decide +kernel
theorem dL_law_759 : decode cL_law 759 = .ok (.iconst 1, 1) := by decide +kernel
theorem dL_law_760 : decode cL_law 760 = .ok (.iadd, 1) := by decide +kernel
theorem dL_law_761 : decode cL_law 761 = .ok (.iaload, 1) := by decide +kernel
theorem dL_law_762 : decode cL_law 762 = .ok (.invokevirtual 98, 3) := by decide +kernel
theorem dL_law_765 : decode cL_law 765 = .ok (.if_icmp .eq 87, 3) := by decide +kernel
theorem dL_law_768 : decode cL_law 768 = .ok (.iconst 0, 1) := by decide +kernel
theorem dL_law_769 : decode cL_law 769 = .ok (.ireturn, 1) := by decide +kernel
theorem dL_law_770 : decode cL_law 770 = .ok (.aload_n 1, 1) := by decide +kernel
theorem dL_law_771 : decode cL_law 771 = .ok (.aload_n 0, 1) := by decide +kernel
theorem dL_law_772 : decode cL_law 772 = .ok (.iload_n 3, 1) := by decide +kernel
theorem dL_law_773 : decode cL_law 773 = .ok (.iconst 1, 1) := by decide +kernel
theorem dL_law_774 : decode cL_law 774 = .ok (.iadd, 1) := by decide +kernel
theorem dL_law_775 : decode cL_law 775 = .ok (.iaload, 1) := by decide +kernel
theorem dL_law_776 : decode cL_law 776 = .ok (.invokevirtual 99, 3) := by decide +kernel
theorem dL_law_779 : decode cL_law 779 = .ok (.aload_n 2, 1) := by decide +kernel
theorem dL_law_780 : decode cL_law 780 = .ok (.aload_n 0, 1) := by decide +kernel
theorem dL_law_781 : decode cL_law 781 = .ok (.iload_n 3, 1) := by decide +kernel
theorem dL_law_782 : decode cL_law 782 = .ok (.iconst 1, 1) := by decide +kernel
theorem dL_law_783 : decode cL_law 783 = .ok (.iadd, 1) := by decide +kernel
theorem dL_law_784 : decode cL_law 784 = .ok (.iaload, 1) := by decide +kernel
theorem dL_law_785 : decode cL_law 785 = .ok (.invokevirtual 102, 3) := by decide +kernel
theorem dL_law_788 : decode cL_law 788 = .ok (.if_icmp .eq 64, 3) := by decide +kernel
theorem dL_law_791 : decode cL_law 791 = .ok (.iconst 0, 1) := by decide +kernel
theorem dL_law_792 : decode cL_law 792 = .ok (.ireturn, 1) := by decide +kernel
theorem dL_law_793 : decode cL_law 793 = .ok (.aload_n 1, 1) := by decide +kernel
theorem dL_law_794 : decode cL_law 794 = .ok (.invokevirtual 103, 3) := by decide +kernel
theorem dL_law_797 : decode cL_law 797 = .ok (.aload_n 2, 1) := by decide +kernel
theorem dL_law_798 : decode cL_law 798 = .ok (.invokevirtual 106, 3) := by decide +kernel
theorem dL_law_801 : decode cL_law 801 = .ok (.if_icmp .eq 51, 3) := by decide +kernel
theorem dL_law_804 : decode cL_law 804 = .ok (.iconst 0, 1) := by decide +kernel
theorem dL_law_805 : decode cL_law 805 = .ok (.ireturn, 1) := by decide +kernel
theorem dL_law_806 : decode cL_law 806 = .ok (.aload_n 1, 1) := by decide +kernel
theorem dL_law_807 : decode cL_law 807 = .ok (.aload_n 0, 1) := by decide +kernel
theorem dL_law_808 : decode cL_law 808 = .ok (.iload_n 3, 1) := by decide +kernel
theorem dL_law_809 : decode cL_law 809 = .ok (.iconst 1, 1) := by decide +kernel
theorem dL_law_810 : decode cL_law 810 = .ok (.iadd, 1) := by decide +kernel
theorem dL_law_811 : decode cL_law 811 = .ok (.iaload, 1) := by decide +kernel
theorem dL_law_812 : decode cL_law 812 = .ok (.invokevirtual 107, 3) := by decide +kernel
theorem dL_law_815 : decode cL_law 815 = .ok (.aload_n 2, 1) := by decide +kernel
theorem dL_law_816 : decode cL_law 816 = .ok (.aload_n 0, 1) := by decide +kernel
theorem dL_law_817 : decode cL_law 817 = .ok (.iload_n 3, 1) := by decide +kernel
theorem dL_law_818 : decode cL_law 818 = .ok (.iconst 1, 1) := by decide +kernel
theorem dL_law_819 : decode cL_law 819 = .ok (.iadd, 1) := by decide +kernel
theorem dL_law_820 : decode cL_law 820 = .ok (.iaload, 1) := by decide +kernel
theorem dL_law_821 : decode cL_law 821 = .ok (.invokevirtual 110, 3) := by decide +kernel
theorem dL_law_824 : decode cL_law 824 = .ok (.if_icmp .eq 28, 3) := by decide +kernel
theorem dL_law_827 : decode cL_law 827 = .ok (.iconst 0, 1) := by decide +kernel
theorem dL_law_828 : decode cL_law 828 = .ok (.ireturn, 1) := by decide +kernel
theorem dL_law_829 : decode cL_law 829 = .ok (.aload_n 1, 1) := by decide +kernel
theorem dL_law_830 : decode cL_law 830 = .ok (.aload_n 0, 1) := by decide +kernel
theorem dL_law_831 : decode cL_law 831 = .ok (.iload_n 3, 1) := by decide +kernel
theorem dL_law_832 : decode cL_law 832 = .ok (.iconst 1, 1) := by decide +kernel
theorem dL_law_833 : decode cL_law 833 = .ok (.iadd, 1) := by decide +kernel
theorem dL_law_834 : decode cL_law 834 = .ok (.iaload, 1) := by decide +kernel
theorem dL_law_835 : decode cL_law 835 = .ok (.invokevirtual 111, 3) := by decide +kernel
theorem dL_law_838 : decode cL_law 838 = .ok (.aload_n 2, 1) := by decide +kernel
theorem dL_law_839 : decode cL_law 839 = .ok (.aload_n 0, 1) := by decide +kernel
theorem dL_law_840 : decode cL_law 840 = .ok (.iload_n 3, 1) := by decide +kernel
theorem dL_law_841 : decode cL_law 841 = .ok (.iconst 1, 1) := by decide +kernel
theorem dL_law_842 : decode cL_law 842 = .ok (.iadd, 1) := by decide +kernel
theorem dL_law_843 : decode cL_law 843 = .ok (.iaload, 1) := by decide +kernel
theorem dL_law_844 : decode cL_law 844 = .ok (.invokevirtual 114, 3) := by decide +kernel
theorem dL_law_847 : decode cL_law 847 = .ok (.if_icmp .eq 5, 3) := by decide +kernel
theorem dL_law_850 : decode cL_law 850 = .ok (.iconst 0, 1) := by decide +kernel
theorem dL_law_851 : decode cL_law 851 = .ok (.ireturn, 1) := by decide +kernel
theorem dL_law_852 : decode cL_law 852 = .ok (.iinc 3 6, 3) := by decide +kernel
theorem dL_law_855 : decode cL_law 855 = .ok (.goto (-837), 3) := by decide +kernel
theorem dL_law_858 : decode cL_law 858 = .ok (.iconst 1, 1) := by decide +kernel
end
section
theorem dL_law_859 : decode cL_law 859 = .ok (.ireturn, 1) := by decide +kernel
end
section
set_option maxRecDepth 100000 in
theorem kl_X9_startAnew : Cond.selects RX9 yX9_startAnew yX9_startAnew ∈ tb := tb_mem 0 (by decide +kernel) rfl
set_option maxRecDepth 100000 in
theorem kl_X9_readToken : Cond.selects RX9 yX9_readToken yX9_readToken ∈ tb := tb_mem 1 (by decide +kernel) rfl
set_option maxRecDepth 100000 in
theorem kl_X9_readWord : Cond.selects RX9 yX9_readWord yX9_readWord ∈ tb := tb_mem 2 (by decide +kernel) rfl
set_option maxRecDepth 100000 in
theorem kl_X9_readNumber : Cond.selects RX9 yX9_readNumber yX9_readNumber ∈ tb := tb_mem 3 (by decide +kernel) rfl
set_option maxRecDepth 100000 in
theorem kl_X9_readLine : Cond.selects RX9 yX9_readLine yX9_readLine ∈ tb := tb_mem 4 (by decide +kernel) rfl
set_option maxRecDepth 100000 in
theorem kl_X9_lineOfWord : Cond.selects RX9 yX9_lineOfWord yX9_lineOfWord ∈ tb := tb_mem 5 (by decide +kernel) rfl
set_option maxRecDepth 100000 in
theorem kl_X9_isWord : Cond.selects RX9 yX9_isWord yX9_isWord ∈ tb := tb_mem 6 (by decide +kernel) rfl
set_option maxRecDepth 100000 in
theorem kl_X9_refuse : Cond.selects RX9 yX9_refuse yX9_refuse ∈ tb := tb_mem 7 (by decide +kernel) rfl
set_option maxRecDepth 100000 in
theorem kl_X9_readStop : Cond.selects RX9 yX9_readStop yX9_readStop ∈ tb := tb_mem 8 (by decide +kernel) rfl
set_option maxRecDepth 100000 in
theorem kl_X9_readNumbers : Cond.selects RX9 yX9_readNumbers yX9_readNumbers ∈ tb := tb_mem 9 (by decide +kernel) rfl
set_option maxRecDepth 100000 in
theorem kl_X1_monthOf : Cond.selects RX1 yX1_monthOf yX1_monthOf ∈ tb := tb_mem 10 (by decide +kernel) rfl
set_option maxRecDepth 100000 in
theorem kl_X10_receive : Cond.selects RX10 yX10_receive yX10_receive ∈ tb := tb_mem 11 (by decide +kernel) rfl
set_option maxRecDepth 100000 in
theorem kl_X7_running : Cond.selects RX7 yX7_running yX7_running ∈ tb := tb_mem 12 (by decide +kernel) rfl
set_option maxRecDepth 100000 in
theorem kl_X10_endMonth : Cond.selects RX10 yX10_endMonth yX10_endMonth ∈ tb := tb_mem 13 (by decide +kernel) rfl
set_option maxRecDepth 100000 in
theorem kl_X12_lay : Cond.selects RX12 yX12_lay yX12_lay ∈ tb := tb_mem 15 (by decide +kernel) rfl
set_option maxRecDepth 100000 in
theorem kl_X12_scan : Cond.selects RX12 yX12_scan yX12_scan ∈ tb := tb_mem 16 (by decide +kernel) rfl
set_option maxRecDepth 100000 in
theorem kl_X12_byteAt : Cond.selects RX12 yX12_byteAt yX12_byteAt ∈ tb := tb_mem 17 (by decide +kernel) rfl
set_option maxRecDepth 100000 in
theorem kl_X12_readTrust : Cond.selects RX12 yX12_readTrust yX12_readTrust ∈ tb := tb_mem 18 (by decide +kernel) rfl
set_option maxRecDepth 100000 in
theorem kl_X12_key : Cond.selects RX12 yX12_key yX12_key ∈ tb := tb_mem 19 (by decide +kernel) rfl
set_option maxRecDepth 100000 in
theorem kl_X12_is : Cond.selects RX12 yX12_is yX12_is ∈ tb := tb_mem 20 (by decide +kernel) rfl
set_option maxRecDepth 100000 in
theorem kl_X12_wrong : Cond.selects RX12 yX12_wrong yX12_wrong ∈ tb := tb_mem 21 (by decide +kernel) rfl
set_option maxRecDepth 100000 in
theorem kl_X12_readLine : Cond.selects RX12 yX12_readLine yX12_readLine ∈ tb := tb_mem 22 (by decide +kernel) rfl
set_option maxRecDepth 100000 in
theorem kl_X12_number : Cond.selects RX12 yX12_number yX12_number ∈ tb := tb_mem 23 (by decide +kernel) rfl
set_option maxRecDepth 100000 in
theorem kl_X12_monthOf : Cond.selects RX12 yX12_monthOf yX12_monthOf ∈ tb := tb_mem 24 (by decide +kernel) rfl
set_option maxRecDepth 100000 in
theorem kl_X12_isPledge : Cond.selects RX12 yX12_isPledge yX12_isPledge ∈ tb := tb_mem 25 (by decide +kernel) rfl
set_option maxRecDepth 100000 in
theorem kl_X12_unfilled : Cond.selects RX12 yX12_unfilled yX12_unfilled ∈ tb := tb_mem 26 (by decide +kernel) rfl
set_option maxRecDepth 100000 in
theorem kl_X12_come : Cond.selects RX12 yX12_come yX12_come ∈ tb := tb_mem 27 (by decide +kernel) rfl
set_option maxRecDepth 100000 in
theorem kl_X12_toCome : Cond.selects RX12 yX12_toCome yX12_toCome ∈ tb := tb_mem 28 (by decide +kernel) rfl
set_option maxRecDepth 100000 in
theorem kl_X12_overdue : Cond.selects RX12 yX12_overdue yX12_overdue ∈ tb := tb_mem 29 (by decide +kernel) rfl
set_option maxRecDepth 100000 in
theorem kl_X12_runs : Cond.selects RX12 yX12_runs yX12_runs ∈ tb := tb_mem 30 (by decide +kernel) rfl
set_option maxRecDepth 100000 in
theorem kl_X12_endMonth : Cond.selects RX12 yX12_endMonth yX12_endMonth ∈ tb := tb_mem 31 (by decide +kernel) rfl
set_option maxRecDepth 100000 in
theorem kl_X12_lapse : Cond.selects RX12 yX12_lapse yX12_lapse ∈ tb := tb_mem 32 (by decide +kernel) rfl
set_option maxRecDepth 100000 in
theorem kl_X12_build : Cond.selects RX12 yX12_build yX12_build ∈ tb := tb_mem 33 (by decide +kernel) rfl
set_option maxRecDepth 100000 in
theorem kl_X12_carve : Cond.selects RX12 yX12_carve yX12_carve ∈ tb := tb_mem 34 (by decide +kernel) rfl
set_option maxRecDepth 100000 in
theorem kl_X12_allGiven : Cond.selects RX12 yX12_allGiven yX12_allGiven ∈ tb := tb_mem 35 (by decide +kernel) rfl
set_option maxRecDepth 100000 in
theorem ki_L : Cond.initialized RL ∈ tb := tb_mem 36 (by decide +kernel) rfl
set_option maxRecDepth 100000 in
theorem ki_X10 : Cond.initialized RX10 ∈ tb := tb_mem 37 (by decide +kernel) rfl
set_option maxRecDepth 100000 in
theorem ki_X6 : Cond.initialized RX6 ∈ tb := tb_mem 38 (by decide +kernel) rfl
set_option maxRecDepth 100000 in
theorem ki_X9 : Cond.initialized RX9 ∈ tb := tb_mem 39 (by decide +kernel) rfl
set_option maxRecDepth 100000 in
theorem ki_X8 : Cond.initialized RX8 ∈ tb := tb_mem 40 (by decide +kernel) rfl
set_option maxRecDepth 100000 in
theorem ki_J10 : Cond.initialized RJ10 ∈ tb := tb_mem 41 (by decide +kernel) rfl
set_option maxRecDepth 100000 in
theorem ki_X0 : Cond.initialized RX0 ∈ tb := tb_mem 42 (by decide +kernel) rfl
set_option maxRecDepth 100000 in
theorem ki_X2 : Cond.initialized RX2 ∈ tb := tb_mem 43 (by decide +kernel) rfl
set_option maxRecDepth 100000 in
theorem ki_X5 : Cond.initialized RX5 ∈ tb := tb_mem 44 (by decide +kernel) rfl
set_option maxRecDepth 100000 in
theorem ki_X3 : Cond.initialized RX3 ∈ tb := tb_mem 45 (by decide +kernel) rfl
set_option maxRecDepth 100000 in
theorem ki_X7 : Cond.initialized RX7 ∈ tb := tb_mem 46 (by decide +kernel) rfl
set_option maxRecDepth 100000 in
theorem ki_X12 : Cond.initialized RX12 ∈ tb := tb_mem 47 (by decide +kernel) rfl
set_option maxRecDepth 100000 in
theorem ki_H : Cond.initialized RH ∈ tb := tb_mem 48 (by decide +kernel) rfl
set_option maxRecDepth 100000 in
theorem ki_E : Cond.initialized RE ∈ tb := tb_mem 49 (by decide +kernel) rfl
set_option maxRecDepth 100000 in
theorem ki_X11 : Cond.initialized RX11 ∈ tb := tb_mem 50 (by decide +kernel) rfl
set_option maxRecDepth 100000 in
theorem ki_J0 : Cond.initialized RJ0 ∈ tb := tb_mem 51 (by decide +kernel) rfl
set_option maxRecDepth 100000 in
theorem ki_J1 : Cond.initialized RJ1 ∈ tb := tb_mem 52 (by decide +kernel) rfl
set_option maxRecDepth 100000 in
theorem ki_J3 : Cond.initialized RJ3 ∈ tb := tb_mem 53 (by decide +kernel) rfl
set_option maxRecDepth 100000 in
theorem ki_J2 : Cond.initialized RJ2 ∈ tb := tb_mem 54 (by decide +kernel) rfl
set_option maxRecDepth 100000 in
theorem ki_X1 : Cond.initialized RX1 ∈ tb := tb_mem 55 (by decide +kernel) rfl
set_option maxRecDepth 100000 in
theorem ki_J9 : Cond.initialized RJ9 ∈ tb := tb_mem 56 (by decide +kernel) rfl
set_option maxRecDepth 100000 in
theorem ki_X4 : Cond.initialized RX4 ∈ tb := tb_mem 57 (by decide +kernel) rfl
set_option maxRecDepth 100000 in
theorem kc_L_7 : Cond.classLink RL 7 RX10 ∈ tb := tb_mem 58 (by decide +kernel) rfl
set_option maxRecDepth 100000 in
theorem kn_X10 : Cond.instantiable RX10 10 ∈ tb := tb_mem 59 (by decide +kernel) rfl
set_option maxRecDepth 100000 in
theorem km_L_9 : Cond.methodLink RL 9 yX10_init ∈ tb := tb_mem 60 (by decide +kernel) rfl
set_option maxRecDepth 100000 in
theorem kj_X10_init : Cond.instanceMethod yX10_init ∈ tb := tb_mem 61 (by decide +kernel) rfl
set_option maxRecDepth 100000 in
theorem kd_X10_init : Cond.code yX10_init cX10_init 1 none ∈ tb := tb_mem 62 rfl rfl
set_option maxRecDepth 100000 in
theorem km_X10_1 : Cond.methodLink RX10 1 objectInit ∈ tb := tb_mem 63 (by decide +kernel) rfl
set_option maxRecDepth 100000 in
theorem kj_objectInit : Cond.instanceMethod objectInit ∈ tb := tb_mem 64 (by decide +kernel) rfl
set_option maxRecDepth 100000 in
theorem kd_objectInit : Cond.code objectInit ⟨#[0xb1]⟩ 1 none ∈ tb := tb_mem 65 rfl rfl
set_option maxRecDepth 100000 in
theorem kc_X10_7 : Cond.classLink RX10 7 RX6 ∈ tb := tb_mem 66 (by decide +kernel) rfl
set_option maxRecDepth 100000 in
theorem kn_X6 : Cond.instantiable RX6 2 ∈ tb := tb_mem 67 (by decide +kernel) rfl
set_option maxRecDepth 100000 in
theorem kj_X6_init : Cond.instanceMethod yX6_init ∈ tb := tb_mem 69 (by decide +kernel) rfl
set_option maxRecDepth 100000 in
theorem kd_X6_init : Cond.code yX6_init cX6_init 1 none ∈ tb := tb_mem 70 rfl rfl
set_option maxRecDepth 100000 in
theorem km_X6_3 : Cond.methodLink RX6 3 objectInit ∈ tb := tb_mem 71 (by decide +kernel) rfl
set_option maxRecDepth 100000 in
theorem kf_X6_11 : Cond.fieldLink RX6 11 "TowerAppeal$Tape" "bytes" "[B" ∈ tb := tb_mem 72 (by decide +kernel) rfl
set_option maxRecDepth 100000 in
theorem kf_X6_15 : Cond.fieldLink RX6 15 "TowerAppeal$Tape" "length" "I" ∈ tb := tb_mem 73 (by decide +kernel) rfl
set_option maxRecDepth 100000 in
theorem ku_X6 : Cond.superclass RX6 "java/lang/Object" ∈ tb := tb_mem 78 (by decide +kernel) rfl
set_option maxRecDepth 100000 in
theorem ka_byte : Cond.arrayClass .byte ∈ tb := tb_mem 79 (by decide +kernel) rfl
set_option maxRecDepth 100000 in
theorem kc_X10_16 : Cond.classLink RX10 16 RX9 ∈ tb := tb_mem 80 (by decide +kernel) rfl
set_option maxRecDepth 100000 in
theorem kn_X9 : Cond.instantiable RX9 8 ∈ tb := tb_mem 81 (by decide +kernel) rfl
set_option maxRecDepth 100000 in
theorem kj_X9_init : Cond.instanceMethod yX9_init ∈ tb := tb_mem 83 (by decide +kernel) rfl
set_option maxRecDepth 100000 in
theorem kd_X9_init : Cond.code yX9_init cX9_init 1 none ∈ tb := tb_mem 84 rfl rfl
set_option maxRecDepth 100000 in
theorem km_X9_3 : Cond.methodLink RX9 3 objectInit ∈ tb := tb_mem 85 (by decide +kernel) rfl
set_option maxRecDepth 100000 in
theorem kc_X9_9 : Cond.classLink RX9 9 RX8 ∈ tb := tb_mem 86 (by decide +kernel) rfl
set_option maxRecDepth 100000 in
theorem kn_X8 : Cond.instantiable RX8 1 ∈ tb := tb_mem 87 (by decide +kernel) rfl
set_option maxRecDepth 100000 in
theorem km_X9_11 : Cond.methodLink RX9 11 yX8_init ∈ tb := tb_mem 88 (by decide +kernel) rfl
set_option maxRecDepth 100000 in
theorem kj_X8_init : Cond.instanceMethod yX8_init ∈ tb := tb_mem 89 (by decide +kernel) rfl
set_option maxRecDepth 100000 in
theorem kd_X8_init : Cond.code yX8_init cX8_init 1 none ∈ tb := tb_mem 90 rfl rfl
set_option maxRecDepth 100000 in
theorem km_X8_3 : Cond.methodLink RX8 3 objectInit ∈ tb := tb_mem 91 (by decide +kernel) rfl
set_option maxRecDepth 100000 in
theorem kf_X8_15 : Cond.fieldLink RX8 15 "TowerAppeal$Trust" "UNTOLD" "[I" ∈ tb := tb_mem 92 (by decide +kernel) rfl
set_option maxRecDepth 100000 in
theorem km_X8_18 : Cond.methodLink RX8 18 arraycopyName ∈ tb := tb_mem 94 (by decide +kernel) rfl
set_option maxRecDepth 100000 in
theorem ks_arraycopyName : Cond.static arraycopyName ∈ tb := tb_mem 95 (by decide +kernel) rfl
set_option maxRecDepth 100000 in
theorem kv_arraycopyName : Cond.native arraycopyName ∈ tb := tb_mem 96 (by decide +kernel) rfl
set_option maxRecDepth 100000 in
theorem kf_X8_11 : Cond.fieldLink RX8 11 "TowerAppeal$Trust" "rules" "[I" ∈ tb := tb_mem 97 (by decide +kernel) rfl
set_option maxRecDepth 100000 in
theorem ku_X8 : Cond.superclass RX8 "java/lang/Object" ∈ tb := tb_mem 100 (by decide +kernel) rfl
set_option maxRecDepth 100000 in
theorem ka_int : Cond.arrayClass .int ∈ tb := tb_mem 101 (by decide +kernel) rfl
set_option maxRecDepth 100000 in
theorem kf_X9_12 : Cond.fieldLink RX9 12 "TowerAppeal$TrustReader" "draft" "LTowerAppeal$Trust;" ∈ tb := tb_mem 102 (by decide +kernel) rfl
set_option maxRecDepth 100000 in
theorem kf_X9_18 : Cond.fieldLink RX9 18 "TowerAppeal$TrustReader" "told" "[Z" ∈ tb := tb_mem 103 (by decide +kernel) rfl
set_option maxRecDepth 100000 in
theorem kf_X9_45 : Cond.fieldLink RX9 45 "TowerAppeal$TrustReader" "head" "I" ∈ tb := tb_mem 104 (by decide +kernel) rfl
set_option maxRecDepth 100000 in
theorem kf_X9_36 : Cond.fieldLink RX9 36 "TowerAppeal$TrustReader" "token" "I" ∈ tb := tb_mem 105 (by decide +kernel) rfl
set_option maxRecDepth 100000 in
theorem kf_X9_48 : Cond.fieldLink RX9 48 "TowerAppeal$TrustReader" "tokenStart" "I" ∈ tb := tb_mem 106 (by decide +kernel) rfl
set_option maxRecDepth 100000 in
theorem kf_X9_73 : Cond.fieldLink RX9 73 "TowerAppeal$TrustReader" "tokenValue" "I" ∈ tb := tb_mem 107 (by decide +kernel) rfl
set_option maxRecDepth 100000 in
theorem kf_X9_26 : Cond.fieldLink RX9 26 "TowerAppeal$TrustReader" "faultKind" "I" ∈ tb := tb_mem 108 (by decide +kernel) rfl
set_option maxRecDepth 100000 in
theorem kf_X9_22 : Cond.fieldLink RX9 22 "TowerAppeal$TrustReader" "faultPlace" "I" ∈ tb := tb_mem 109 (by decide +kernel) rfl
set_option maxRecDepth 100000 in
theorem ku_X9 : Cond.superclass RX9 "java/lang/Object" ∈ tb := tb_mem 126 (by decide +kernel) rfl
set_option maxRecDepth 100000 in
theorem ka_boolean : Cond.arrayClass .boolean ∈ tb := tb_mem 127 (by decide +kernel) rfl
set_option maxRecDepth 100000 in
theorem kc_X10_23 : Cond.classLink RX10 23 RX8 ∈ tb := tb_mem 128 (by decide +kernel) rfl
set_option maxRecDepth 100000 in
theorem km_X10_25 : Cond.methodLink RX10 25 yX8_init ∈ tb := tb_mem 129 (by decide +kernel) rfl
set_option maxRecDepth 100000 in
theorem kc_X10_30 : Cond.classLink RX10 30 RX0 ∈ tb := tb_mem 130 (by decide +kernel) rfl
set_option maxRecDepth 100000 in
theorem kn_X0 : Cond.instantiable RX0 6 ∈ tb := tb_mem 131 (by decide +kernel) rfl
set_option maxRecDepth 100000 in
theorem km_X10_32 : Cond.methodLink RX10 32 yX0_init ∈ tb := tb_mem 132 (by decide +kernel) rfl
set_option maxRecDepth 100000 in
theorem kj_X0_init : Cond.instanceMethod yX0_init ∈ tb := tb_mem 133 (by decide +kernel) rfl
set_option maxRecDepth 100000 in
theorem kd_X0_init : Cond.code yX0_init cX0_init 2 none ∈ tb := tb_mem 134 rfl rfl
set_option maxRecDepth 100000 in
theorem km_X0_3 : Cond.methodLink RX0 3 objectInit ∈ tb := tb_mem 135 (by decide +kernel) rfl
set_option maxRecDepth 100000 in
theorem kf_X0_9 : Cond.fieldLink RX0 9 "TowerAppeal$Givers" "from" "[I" ∈ tb := tb_mem 136 (by decide +kernel) rfl
set_option maxRecDepth 100000 in
theorem kf_X0_15 : Cond.fieldLink RX0 15 "TowerAppeal$Givers" "to" "[I" ∈ tb := tb_mem 137 (by decide +kernel) rfl
set_option maxRecDepth 100000 in
theorem kf_X0_18 : Cond.fieldLink RX0 18 "TowerAppeal$Givers" "withoutName" "[Z" ∈ tb := tb_mem 138 (by decide +kernel) rfl
set_option maxRecDepth 100000 in
theorem kf_X0_22 : Cond.fieldLink RX0 22 "TowerAppeal$Givers" "gotBack" "[I" ∈ tb := tb_mem 139 (by decide +kernel) rfl
set_option maxRecDepth 100000 in
theorem kf_X0_25 : Cond.fieldLink RX0 25 "TowerAppeal$Givers" "gaveSoFar" "[I" ∈ tb := tb_mem 140 (by decide +kernel) rfl
set_option maxRecDepth 100000 in
theorem kf_X0_28 : Cond.fieldLink RX0 28 "TowerAppeal$Givers" "stoneOrder" "[I" ∈ tb := tb_mem 141 (by decide +kernel) rfl
set_option maxRecDepth 100000 in
theorem ku_X0 : Cond.superclass RX0 "java/lang/Object" ∈ tb := tb_mem 154 (by decide +kernel) rfl
set_option maxRecDepth 100000 in
theorem kc_X10_37 : Cond.classLink RX10 37 RX2 ∈ tb := tb_mem 155 (by decide +kernel) rfl
set_option maxRecDepth 100000 in
theorem kn_X2 : Cond.instantiable RX2 2 ∈ tb := tb_mem 156 (by decide +kernel) rfl
set_option maxRecDepth 100000 in
theorem kj_X2_init : Cond.instanceMethod yX2_init ∈ tb := tb_mem 158 (by decide +kernel) rfl
set_option maxRecDepth 100000 in
theorem kd_X2_init : Cond.code yX2_init cX2_init 1 none ∈ tb := tb_mem 159 rfl rfl
set_option maxRecDepth 100000 in
theorem km_X2_3 : Cond.methodLink RX2 3 objectInit ∈ tb := tb_mem 160 (by decide +kernel) rfl
set_option maxRecDepth 100000 in
theorem kc_X2_9 : Cond.classLink RX2 9 RX1 ∈ tb := tb_mem 161 (by decide +kernel) rfl
set_option maxRecDepth 100000 in
theorem kf_X2_11 : Cond.fieldLink RX2 11 "TowerAppeal$PledgeBook" "all" "[LTowerAppeal$Pledge;" ∈ tb := tb_mem 163 (by decide +kernel) rfl
set_option maxRecDepth 100000 in
theorem kf_X2_17 : Cond.fieldLink RX2 17 "TowerAppeal$PledgeBook" "size" "I" ∈ tb := tb_mem 164 (by decide +kernel) rfl
set_option maxRecDepth 100000 in
theorem ku_X2 : Cond.superclass RX2 "java/lang/Object" ∈ tb := tb_mem 169 (by decide +kernel) rfl
set_option maxRecDepth 100000 in
theorem kc_X10_44 : Cond.classLink RX10 44 RX5 ∈ tb := tb_mem 170 (by decide +kernel) rfl
set_option maxRecDepth 100000 in
theorem kn_X5 : Cond.instantiable RX5 6 ∈ tb := tb_mem 171 (by decide +kernel) rfl
set_option maxRecDepth 100000 in
theorem kj_X5_init : Cond.instanceMethod yX5_init ∈ tb := tb_mem 173 (by decide +kernel) rfl
set_option maxRecDepth 100000 in
theorem kd_X5_init : Cond.code yX5_init cX5_init 1 none ∈ tb := tb_mem 174 rfl rfl
set_option maxRecDepth 100000 in
theorem km_X5_3 : Cond.methodLink RX5 3 objectInit ∈ tb := tb_mem 175 (by decide +kernel) rfl
set_option maxRecDepth 100000 in
theorem kf_X5_9 : Cond.fieldLink RX5 9 "TowerAppeal$Sums" "giver" "[I" ∈ tb := tb_mem 176 (by decide +kernel) rfl
set_option maxRecDepth 100000 in
theorem kf_X5_15 : Cond.fieldLink RX5 15 "TowerAppeal$Sums" "pence" "[I" ∈ tb := tb_mem 177 (by decide +kernel) rfl
set_option maxRecDepth 100000 in
theorem kf_X5_18 : Cond.fieldLink RX5 18 "TowerAppeal$Sums" "month" "[I" ∈ tb := tb_mem 178 (by decide +kernel) rfl
set_option maxRecDepth 100000 in
theorem kf_X5_21 : Cond.fieldLink RX5 21 "TowerAppeal$Sums" "claimed" "[Z" ∈ tb := tb_mem 179 (by decide +kernel) rfl
set_option maxRecDepth 100000 in
theorem kf_X5_25 : Cond.fieldLink RX5 25 "TowerAppeal$Sums" "size" "I" ∈ tb := tb_mem 180 (by decide +kernel) rfl
set_option maxRecDepth 100000 in
theorem kf_X5_29 : Cond.fieldLink RX5 29 "TowerAppeal$Sums" "total" "J" ∈ tb := tb_mem 181 (by decide +kernel) rfl
set_option maxRecDepth 100000 in
theorem ku_X5 : Cond.superclass RX5 "java/lang/Object" ∈ tb := tb_mem 194 (by decide +kernel) rfl
set_option maxRecDepth 100000 in
theorem kc_X10_51 : Cond.classLink RX10 51 RX3 ∈ tb := tb_mem 195 (by decide +kernel) rfl
set_option maxRecDepth 100000 in
theorem kn_X3 : Cond.instantiable RX3 6 ∈ tb := tb_mem 196 (by decide +kernel) rfl
set_option maxRecDepth 100000 in
theorem kj_X3_init : Cond.instanceMethod yX3_init ∈ tb := tb_mem 198 (by decide +kernel) rfl
set_option maxRecDepth 100000 in
theorem kd_X3_init : Cond.code yX3_init cX3_init 1 none ∈ tb := tb_mem 199 rfl rfl
set_option maxRecDepth 100000 in
theorem km_X3_1 : Cond.methodLink RX3 1 objectInit ∈ tb := tb_mem 200 (by decide +kernel) rfl
set_option maxRecDepth 100000 in
theorem kf_X3_7 : Cond.fieldLink RX3 7 "TowerAppeal$Purse" "coin" "J" ∈ tb := tb_mem 201 (by decide +kernel) rfl
set_option maxRecDepth 100000 in
theorem kf_X3_13 : Cond.fieldLink RX3 13 "TowerAppeal$Purse" "loan" "J" ∈ tb := tb_mem 202 (by decide +kernel) rfl
set_option maxRecDepth 100000 in
theorem kf_X3_16 : Cond.fieldLink RX3 16 "TowerAppeal$Purse" "matched" "J" ∈ tb := tb_mem 203 (by decide +kernel) rfl
set_option maxRecDepth 100000 in
theorem kf_X3_19 : Cond.fieldLink RX3 19 "TowerAppeal$Purse" "tax" "J" ∈ tb := tb_mem 204 (by decide +kernel) rfl
set_option maxRecDepth 100000 in
theorem kf_X3_22 : Cond.fieldLink RX3 22 "TowerAppeal$Purse" "paidForStages" "J" ∈ tb := tb_mem 205 (by decide +kernel) rfl
set_option maxRecDepth 100000 in
theorem kf_X3_25 : Cond.fieldLink RX3 25 "TowerAppeal$Purse" "grown" "J" ∈ tb := tb_mem 206 (by decide +kernel) rfl
set_option maxRecDepth 100000 in
theorem ku_X3 : Cond.superclass RX3 "java/lang/Object" ∈ tb := tb_mem 219 (by decide +kernel) rfl
set_option maxRecDepth 100000 in
theorem kc_X10_58 : Cond.classLink RX10 58 RX7 ∈ tb := tb_mem 220 (by decide +kernel) rfl
set_option maxRecDepth 100000 in
theorem kn_X7 : Cond.instantiable RX7 3 ∈ tb := tb_mem 221 (by decide +kernel) rfl
set_option maxRecDepth 100000 in
theorem kj_X7_init : Cond.instanceMethod yX7_init ∈ tb := tb_mem 223 (by decide +kernel) rfl
set_option maxRecDepth 100000 in
theorem kd_X7_init : Cond.code yX7_init cX7_init 1 none ∈ tb := tb_mem 224 rfl rfl
set_option maxRecDepth 100000 in
theorem km_X7_3 : Cond.methodLink RX7 3 objectInit ∈ tb := tb_mem 225 (by decide +kernel) rfl
set_option maxRecDepth 100000 in
theorem kc_X7_9 : Cond.classLink RX7 9 RX4 ∈ tb := tb_mem 226 (by decide +kernel) rfl
set_option maxRecDepth 100000 in
theorem kf_X7_11 : Cond.fieldLink RX7 11 "TowerAppeal$Tower" "all" "[LTowerAppeal$Stage;" ∈ tb := tb_mem 228 (by decide +kernel) rfl
set_option maxRecDepth 100000 in
theorem kf_X7_17 : Cond.fieldLink RX7 17 "TowerAppeal$Tower" "size" "I" ∈ tb := tb_mem 229 (by decide +kernel) rfl
set_option maxRecDepth 100000 in
theorem kf_X7_21 : Cond.fieldLink RX7 21 "TowerAppeal$Tower" "started" "I" ∈ tb := tb_mem 230 (by decide +kernel) rfl
set_option maxRecDepth 100000 in
theorem ku_X7 : Cond.superclass RX7 "java/lang/Object" ∈ tb := tb_mem 237 (by decide +kernel) rfl
set_option maxRecDepth 100000 in
theorem kf_X10_10 : Cond.fieldLink RX10 10 "TowerAppeal" "tape" "LTowerAppeal$Tape;" ∈ tb := tb_mem 238 (by decide +kernel) rfl
set_option maxRecDepth 100000 in
theorem kf_X10_19 : Cond.fieldLink RX10 19 "TowerAppeal" "reader" "LTowerAppeal$TrustReader;" ∈ tb := tb_mem 239 (by decide +kernel) rfl
set_option maxRecDepth 100000 in
theorem kf_X10_26 : Cond.fieldLink RX10 26 "TowerAppeal" "inForce" "LTowerAppeal$Trust;" ∈ tb := tb_mem 240 (by decide +kernel) rfl
set_option maxRecDepth 100000 in
theorem kf_X10_33 : Cond.fieldLink RX10 33 "TowerAppeal" "givers" "LTowerAppeal$Givers;" ∈ tb := tb_mem 241 (by decide +kernel) rfl
set_option maxRecDepth 100000 in
theorem kf_X10_40 : Cond.fieldLink RX10 40 "TowerAppeal" "pledges" "LTowerAppeal$PledgeBook;" ∈ tb := tb_mem 242 (by decide +kernel) rfl
set_option maxRecDepth 100000 in
theorem kf_X10_47 : Cond.fieldLink RX10 47 "TowerAppeal" "sums" "LTowerAppeal$Sums;" ∈ tb := tb_mem 243 (by decide +kernel) rfl
set_option maxRecDepth 100000 in
theorem kf_X10_54 : Cond.fieldLink RX10 54 "TowerAppeal" "purse" "LTowerAppeal$Purse;" ∈ tb := tb_mem 244 (by decide +kernel) rfl
set_option maxRecDepth 100000 in
theorem kf_X10_61 : Cond.fieldLink RX10 61 "TowerAppeal" "tower" "LTowerAppeal$Tower;" ∈ tb := tb_mem 245 (by decide +kernel) rfl
set_option maxRecDepth 100000 in
theorem kf_X10_123 : Cond.fieldLink RX10 123 "TowerAppeal" "clock" "I" ∈ tb := tb_mem 246 (by decide +kernel) rfl
set_option maxRecDepth 100000 in
theorem kf_X10_106 : Cond.fieldLink RX10 106 "TowerAppeal" "stopped" "Z" ∈ tb := tb_mem 247 (by decide +kernel) rfl
set_option maxRecDepth 100000 in
theorem ku_X10 : Cond.superclass RX10 "java/lang/Object" ∈ tb := tb_mem 268 (by decide +kernel) rfl
set_option maxRecDepth 100000 in
theorem km_L_13 : Cond.methodLink RL 13 yX10_feed ∈ tb := tb_mem 269 (by decide +kernel) rfl
set_option maxRecDepth 100000 in
theorem kj_X10_feed : Cond.instanceMethod yX10_feed ∈ tb := tb_mem 270 (by decide +kernel) rfl
set_option maxRecDepth 100000 in
theorem kl_X10_feed : Cond.selects RX10 yX10_feed yX10_feed ∈ tb := tb_mem 271 (by decide +kernel) rfl
set_option maxRecDepth 100000 in
theorem kd_X10_feed : Cond.code yX10_feed cX10_feed 6 (some .int) ∈ tb := tb_mem 272 rfl rfl
set_option maxRecDepth 100000 in
theorem km_X10_65 : Cond.methodLink RX10 65 yX6_hasRoomForTwenty ∈ tb := tb_mem 273 (by decide +kernel) rfl
set_option maxRecDepth 100000 in
theorem kj_X6_hasRoomForTwenty : Cond.instanceMethod yX6_hasRoomForTwenty ∈ tb := tb_mem 274 (by decide +kernel) rfl
set_option maxRecDepth 100000 in
theorem kl_X6_hasRoomForTwenty : Cond.selects RX6 yX6_hasRoomForTwenty yX6_hasRoomForTwenty ∈ tb := tb_mem 275 (by decide +kernel) rfl
set_option maxRecDepth 100000 in
theorem kd_X6_hasRoomForTwenty : Cond.code yX6_hasRoomForTwenty cX6_hasRoomForTwenty 1 (some .boolean) ∈ tb := tb_mem 276 rfl rfl
set_option maxRecDepth 100000 in
theorem km_X10_69 : Cond.methodLink RX10 69 yX6_putFour ∈ tb := tb_mem 277 (by decide +kernel) rfl
set_option maxRecDepth 100000 in
theorem kj_X6_putFour : Cond.instanceMethod yX6_putFour ∈ tb := tb_mem 278 (by decide +kernel) rfl
set_option maxRecDepth 100000 in
theorem kl_X6_putFour : Cond.selects RX6 yX6_putFour yX6_putFour ∈ tb := tb_mem 279 (by decide +kernel) rfl
set_option maxRecDepth 100000 in
theorem kd_X6_putFour : Cond.code yX6_putFour cX6_putFour 3 none ∈ tb := tb_mem 280 rfl rfl
set_option maxRecDepth 100000 in
theorem km_X10_73 : Cond.methodLink RX10 73 yX6_length ∈ tb := tb_mem 281 (by decide +kernel) rfl
set_option maxRecDepth 100000 in
theorem kj_X6_length : Cond.instanceMethod yX6_length ∈ tb := tb_mem 282 (by decide +kernel) rfl
set_option maxRecDepth 100000 in
theorem kl_X6_length : Cond.selects RX6 yX6_length yX6_length ∈ tb := tb_mem 283 (by decide +kernel) rfl
set_option maxRecDepth 100000 in
theorem kd_X6_length : Cond.code yX6_length cX6_length 1 (some .int) ∈ tb := tb_mem 284 rfl rfl
set_option maxRecDepth 100000 in
theorem km_L_18 : Cond.methodLink RL 18 yX10_end ∈ tb := tb_mem 285 (by decide +kernel) rfl
set_option maxRecDepth 100000 in
theorem kj_X10_end : Cond.instanceMethod yX10_end ∈ tb := tb_mem 286 (by decide +kernel) rfl
set_option maxRecDepth 100000 in
theorem kl_X10_end : Cond.selects RX10 yX10_end yX10_end ∈ tb := tb_mem 287 (by decide +kernel) rfl
set_option maxRecDepth 100000 in
theorem kd_X10_end : Cond.code yX10_end cX10_end 2 (some .int) ∈ tb := tb_mem 288 rfl rfl
set_option maxRecDepth 100000 in
theorem km_X10_77 : Cond.methodLink RX10 77 yX6_cutTo ∈ tb := tb_mem 289 (by decide +kernel) rfl
set_option maxRecDepth 100000 in
theorem kj_X6_cutTo : Cond.instanceMethod yX6_cutTo ∈ tb := tb_mem 290 (by decide +kernel) rfl
set_option maxRecDepth 100000 in
theorem kl_X6_cutTo : Cond.selects RX6 yX6_cutTo yX6_cutTo ∈ tb := tb_mem 291 (by decide +kernel) rfl
set_option maxRecDepth 100000 in
theorem kd_X6_cutTo : Cond.code yX6_cutTo cX6_cutTo 2 none ∈ tb := tb_mem 292 rfl rfl
set_option maxRecDepth 100000 in
theorem km_L_23 : Cond.methodLink RL 23 yX10_trust ∈ tb := tb_mem 293 (by decide +kernel) rfl
set_option maxRecDepth 100000 in
theorem kj_X10_trust : Cond.instanceMethod yX10_trust ∈ tb := tb_mem 294 (by decide +kernel) rfl
set_option maxRecDepth 100000 in
theorem kl_X10_trust : Cond.selects RX10 yX10_trust yX10_trust ∈ tb := tb_mem 295 (by decide +kernel) rfl
set_option maxRecDepth 100000 in
theorem kd_X10_trust : Cond.code yX10_trust cX10_trust 2 (some .int) ∈ tb := tb_mem 296 rfl rfl
set_option maxRecDepth 100000 in
theorem km_X10_80 : Cond.methodLink RX10 80 yX9_read ∈ tb := tb_mem 297 (by decide +kernel) rfl
set_option maxRecDepth 100000 in
theorem kj_X9_read : Cond.instanceMethod yX9_read ∈ tb := tb_mem 298 (by decide +kernel) rfl
set_option maxRecDepth 100000 in
theorem kl_X9_read : Cond.selects RX9 yX9_read yX9_read ∈ tb := tb_mem 299 (by decide +kernel) rfl
set_option maxRecDepth 100000 in
theorem kd_X9_read : Cond.code yX9_read cX9_read 4 (some .int) ∈ tb := tb_mem 300 rfl rfl
set_option maxRecDepth 100000 in
theorem km_X9_29 : Cond.methodLink RX9 29 yX9_startAnew ∈ tb := tb_mem 301 (by decide +kernel) rfl
set_option maxRecDepth 100000 in
theorem kj_X9_startAnew : Cond.instanceMethod yX9_startAnew ∈ tb := tb_mem 303 (by decide +kernel) rfl
set_option maxRecDepth 100000 in
theorem kd_X9_startAnew : Cond.code yX9_startAnew cX9_startAnew 2 none ∈ tb := tb_mem 304 rfl rfl
set_option maxRecDepth 100000 in
theorem km_X9_42 : Cond.methodLink RX9 42 yX8_forget ∈ tb := tb_mem 305 (by decide +kernel) rfl
set_option maxRecDepth 100000 in
theorem kj_X8_forget : Cond.instanceMethod yX8_forget ∈ tb := tb_mem 306 (by decide +kernel) rfl
set_option maxRecDepth 100000 in
theorem kl_X8_forget : Cond.selects RX8 yX8_forget yX8_forget ∈ tb := tb_mem 307 (by decide +kernel) rfl
set_option maxRecDepth 100000 in
theorem kd_X8_forget : Cond.code yX8_forget cX8_forget 1 none ∈ tb := tb_mem 308 rfl rfl
set_option maxRecDepth 100000 in
theorem km_X9_32 : Cond.methodLink RX9 32 yX9_readToken ∈ tb := tb_mem 309 (by decide +kernel) rfl
set_option maxRecDepth 100000 in
theorem kj_X9_readToken : Cond.instanceMethod yX9_readToken ∈ tb := tb_mem 311 (by decide +kernel) rfl
set_option maxRecDepth 100000 in
theorem kd_X9_readToken : Cond.code yX9_readToken cX9_readToken 3 none ∈ tb := tb_mem 312 rfl rfl
set_option maxRecDepth 100000 in
theorem km_X9_126 : Cond.methodLink RX9 126 yX6_length ∈ tb := tb_mem 313 (by decide +kernel) rfl
set_option maxRecDepth 100000 in
theorem km_X9_116 : Cond.methodLink RX9 116 yX6_at ∈ tb := tb_mem 314 (by decide +kernel) rfl
set_option maxRecDepth 100000 in
theorem kj_X6_at : Cond.instanceMethod yX6_at ∈ tb := tb_mem 315 (by decide +kernel) rfl
set_option maxRecDepth 100000 in
theorem kl_X6_at : Cond.selects RX6 yX6_at yX6_at ∈ tb := tb_mem 316 (by decide +kernel) rfl
set_option maxRecDepth 100000 in
theorem kd_X6_at : Cond.code yX6_at cX6_at 2 (some .int) ∈ tb := tb_mem 317 rfl rfl
set_option maxRecDepth 100000 in
theorem km_X9_127 : Cond.methodLink RX9 127 yX9_isBlank ∈ tb := tb_mem 318 (by decide +kernel) rfl
set_option maxRecDepth 100000 in
theorem ks_X9_isBlank : Cond.static yX9_isBlank ∈ tb := tb_mem 319 (by decide +kernel) rfl
set_option maxRecDepth 100000 in
theorem kd_X9_isBlank : Cond.code yX9_isBlank cX9_isBlank 1 (some .boolean) ∈ tb := tb_mem 320 rfl rfl
set_option maxRecDepth 100000 in
theorem km_X9_131 : Cond.methodLink RX9 131 yX9_isLetter ∈ tb := tb_mem 321 (by decide +kernel) rfl
set_option maxRecDepth 100000 in
theorem ks_X9_isLetter : Cond.static yX9_isLetter ∈ tb := tb_mem 322 (by decide +kernel) rfl
set_option maxRecDepth 100000 in
theorem kd_X9_isLetter : Cond.code yX9_isLetter cX9_isLetter 1 (some .boolean) ∈ tb := tb_mem 323 rfl rfl
set_option maxRecDepth 100000 in
theorem km_X9_134 : Cond.methodLink RX9 134 yX9_readWord ∈ tb := tb_mem 324 (by decide +kernel) rfl
set_option maxRecDepth 100000 in
theorem kj_X9_readWord : Cond.instanceMethod yX9_readWord ∈ tb := tb_mem 326 (by decide +kernel) rfl
set_option maxRecDepth 100000 in
theorem kd_X9_readWord : Cond.code yX9_readWord cX9_readWord 2 none ∈ tb := tb_mem 327 rfl rfl
set_option maxRecDepth 100000 in
theorem km_X9_137 : Cond.methodLink RX9 137 yX9_isDigit ∈ tb := tb_mem 328 (by decide +kernel) rfl
set_option maxRecDepth 100000 in
theorem ks_X9_isDigit : Cond.static yX9_isDigit ∈ tb := tb_mem 329 (by decide +kernel) rfl
set_option maxRecDepth 100000 in
theorem kd_X9_isDigit : Cond.code yX9_isDigit cX9_isDigit 1 (some .boolean) ∈ tb := tb_mem 330 rfl rfl
set_option maxRecDepth 100000 in
theorem km_X9_140 : Cond.methodLink RX9 140 yX9_readNumber ∈ tb := tb_mem 331 (by decide +kernel) rfl
set_option maxRecDepth 100000 in
theorem kj_X9_readNumber : Cond.instanceMethod yX9_readNumber ∈ tb := tb_mem 333 (by decide +kernel) rfl
set_option maxRecDepth 100000 in
theorem kd_X9_readNumber : Cond.code yX9_readNumber cX9_readNumber 2 none ∈ tb := tb_mem 334 rfl rfl
set_option maxRecDepth 100000 in
theorem km_X9_39 : Cond.methodLink RX9 39 yX9_readLine ∈ tb := tb_mem 335 (by decide +kernel) rfl
set_option maxRecDepth 100000 in
theorem kj_X9_readLine : Cond.instanceMethod yX9_readLine ∈ tb := tb_mem 337 (by decide +kernel) rfl
set_option maxRecDepth 100000 in
theorem kd_X9_readLine : Cond.code yX9_readLine cX9_readLine 3 none ∈ tb := tb_mem 338 rfl rfl
set_option maxRecDepth 100000 in
theorem km_X9_51 : Cond.methodLink RX9 51 yX9_lineOfWord ∈ tb := tb_mem 339 (by decide +kernel) rfl
set_option maxRecDepth 100000 in
theorem kj_X9_lineOfWord : Cond.instanceMethod yX9_lineOfWord ∈ tb := tb_mem 341 (by decide +kernel) rfl
set_option maxRecDepth 100000 in
theorem kd_X9_lineOfWord : Cond.code yX9_lineOfWord cX9_lineOfWord 2 (some .int) ∈ tb := tb_mem 342 rfl rfl
set_option maxRecDepth 100000 in
theorem km_X9_92 : Cond.methodLink RX9 92 yX9_isWord ∈ tb := tb_mem 344 (by decide +kernel) rfl
set_option maxRecDepth 100000 in
theorem kj_X9_isWord : Cond.instanceMethod yX9_isWord ∈ tb := tb_mem 346 (by decide +kernel) rfl
set_option maxRecDepth 100000 in
theorem kd_X9_isWord : Cond.code yX9_isWord cX9_isWord 4 (some .boolean) ∈ tb := tb_mem 347 rfl rfl
set_option maxRecDepth 100000 in
theorem km_X9_110 : Cond.methodLink RX9 110 yJ0_length_8abf5 ∈ tb := tb_mem 348 (by decide +kernel) rfl
set_option maxRecDepth 100000 in
theorem kj_J0_length_8abf5 : Cond.instanceMethod yJ0_length_8abf5 ∈ tb := tb_mem 349 (by decide +kernel) rfl
set_option maxRecDepth 100000 in
theorem kl_J0_length_8abf5 : Cond.selects RJ0 yJ0_length_8abf5 yJ0_length_8abf5 ∈ tb := tb_mem 350 (by decide +kernel) rfl
set_option maxRecDepth 100000 in
theorem kd_J0_length_8abf5 : Cond.code yJ0_length_8abf5 cJ0_length_8abf5 1 (some .int) ∈ tb := tb_mem 351 rfl rfl
set_option maxRecDepth 100000 in
theorem km_J0_335 : Cond.methodLink RJ0 335 yJ0_coder_7d493 ∈ tb := tb_mem 352 (by decide +kernel) rfl
set_option maxRecDepth 100000 in
theorem kj_J0_coder_7d493 : Cond.instanceMethod yJ0_coder_7d493 ∈ tb := tb_mem 353 (by decide +kernel) rfl
set_option maxRecDepth 100000 in
theorem kl_J0_coder_7d493 : Cond.selects RJ0 yJ0_coder_7d493 yJ0_coder_7d493 ∈ tb := tb_mem 354 (by decide +kernel) rfl
set_option maxRecDepth 100000 in
theorem kd_J0_coder_7d493 : Cond.code yJ0_coder_7d493 cJ0_coder_7d493 1 (some .byte) ∈ tb := tb_mem 355 rfl rfl
set_option maxRecDepth 100000 in
theorem kf_J0_38 : Cond.fieldLink RJ0 38 "java/lang/String" "COMPACT_STRINGS" "Z" ∈ tb := tb_mem 356 (by decide +kernel) rfl
set_option maxRecDepth 100000 in
theorem km_X9_122 : Cond.methodLink RX9 122 yJ0_charAt_5068e ∈ tb := tb_mem 358 (by decide +kernel) rfl
set_option maxRecDepth 100000 in
theorem kj_J0_charAt_5068e : Cond.instanceMethod yJ0_charAt_5068e ∈ tb := tb_mem 359 (by decide +kernel) rfl
set_option maxRecDepth 100000 in
theorem kl_J0_charAt_5068e : Cond.selects RJ0 yJ0_charAt_5068e yJ0_charAt_5068e ∈ tb := tb_mem 360 (by decide +kernel) rfl
set_option maxRecDepth 100000 in
theorem kd_J0_charAt_5068e : Cond.code yJ0_charAt_5068e cJ0_charAt_5068e 2 (some .char) ∈ tb := tb_mem 361 rfl rfl
set_option maxRecDepth 100000 in
theorem km_J0_492 : Cond.methodLink RJ0 492 yJ0_isLatin1_aae02 ∈ tb := tb_mem 362 (by decide +kernel) rfl
set_option maxRecDepth 100000 in
theorem kj_J0_isLatin1_aae02 : Cond.instanceMethod yJ0_isLatin1_aae02 ∈ tb := tb_mem 363 (by decide +kernel) rfl
set_option maxRecDepth 100000 in
theorem kl_J0_isLatin1_aae02 : Cond.selects RJ0 yJ0_isLatin1_aae02 yJ0_isLatin1_aae02 ∈ tb := tb_mem 364 (by decide +kernel) rfl
set_option maxRecDepth 100000 in
theorem kd_J0_isLatin1_aae02 : Cond.code yJ0_isLatin1_aae02 cJ0_isLatin1_aae02 1 (some .boolean) ∈ tb := tb_mem 365 rfl rfl
set_option maxRecDepth 100000 in
theorem km_J0_495 : Cond.methodLink RJ0 495 yJ1_charAt_3b067 ∈ tb := tb_mem 366 (by decide +kernel) rfl
set_option maxRecDepth 100000 in
theorem ks_J1_charAt_3b067 : Cond.static yJ1_charAt_3b067 ∈ tb := tb_mem 367 (by decide +kernel) rfl
set_option maxRecDepth 100000 in
theorem kd_J1_charAt_3b067 : Cond.code yJ1_charAt_3b067 cJ1_charAt_3b067 2 (some .char) ∈ tb := tb_mem 368 rfl rfl
set_option maxRecDepth 100000 in
theorem km_J1_9 : Cond.methodLink RJ1 9 yJ0_checkIndex_df160 ∈ tb := tb_mem 369 (by decide +kernel) rfl
set_option maxRecDepth 100000 in
theorem ks_J0_checkIndex_df160 : Cond.static yJ0_checkIndex_df160 ∈ tb := tb_mem 370 (by decide +kernel) rfl
set_option maxRecDepth 100000 in
theorem kd_J0_checkIndex_df160 : Cond.code yJ0_checkIndex_df160 cJ0_checkIndex_df160 2 none ∈ tb := tb_mem 371 rfl rfl
set_option maxRecDepth 100000 in
theorem kf_J0_1053 : Cond.fieldLink RJ0 1053 "jdk/internal/util/Preconditions" "SIOOBE_FORMATTER" "Ljava/util/function/BiFunction;" ∈ tb := tb_mem 372 (by decide +kernel) rfl
set_option maxRecDepth 100000 in
theorem km_J0_1059 : Cond.methodLink RJ0 1059 yJ3_checkIndex_8e157 ∈ tb := tb_mem 374 (by decide +kernel) rfl
set_option maxRecDepth 100000 in
theorem ks_J3_checkIndex_8e157 : Cond.static yJ3_checkIndex_8e157 ∈ tb := tb_mem 375 (by decide +kernel) rfl
set_option maxRecDepth 100000 in
theorem kd_J3_checkIndex_8e157 : Cond.code yJ3_checkIndex_8e157 cJ3_checkIndex_8e157 3 (some .int) ∈ tb := tb_mem 376 rfl rfl
set_option maxRecDepth 100000 in
theorem km_J0_498 : Cond.methodLink RJ0 498 yJ2_charAt_3b067 ∈ tb := tb_mem 377 (by decide +kernel) rfl
set_option maxRecDepth 100000 in
theorem ks_J2_charAt_3b067 : Cond.static yJ2_charAt_3b067 ∈ tb := tb_mem 378 (by decide +kernel) rfl
set_option maxRecDepth 100000 in
theorem kd_J2_charAt_3b067 : Cond.code yJ2_charAt_3b067 cJ2_charAt_3b067 2 (some .char) ∈ tb := tb_mem 379 rfl rfl
set_option maxRecDepth 100000 in
theorem km_J2_67 : Cond.methodLink RJ2 67 yJ2_checkIndex_2214a ∈ tb := tb_mem 380 (by decide +kernel) rfl
set_option maxRecDepth 100000 in
theorem ks_J2_checkIndex_2214a : Cond.static yJ2_checkIndex_2214a ∈ tb := tb_mem 381 (by decide +kernel) rfl
set_option maxRecDepth 100000 in
theorem kd_J2_checkIndex_2214a : Cond.code yJ2_checkIndex_2214a cJ2_checkIndex_2214a 2 none ∈ tb := tb_mem 382 rfl rfl
set_option maxRecDepth 100000 in
theorem km_J2_48 : Cond.methodLink RJ2 48 yJ2_length_9d52b ∈ tb := tb_mem 383 (by decide +kernel) rfl
set_option maxRecDepth 100000 in
theorem ks_J2_length_9d52b : Cond.static yJ2_length_9d52b ∈ tb := tb_mem 384 (by decide +kernel) rfl
set_option maxRecDepth 100000 in
theorem kd_J2_length_9d52b : Cond.code yJ2_length_9d52b cJ2_length_9d52b 1 (some .int) ∈ tb := tb_mem 385 rfl rfl
set_option maxRecDepth 100000 in
theorem km_J2_414 : Cond.methodLink RJ2 414 yJ0_checkIndex_df160 ∈ tb := tb_mem 386 (by decide +kernel) rfl
set_option maxRecDepth 100000 in
theorem km_J2_71 : Cond.methodLink RJ2 71 yJ2_getChar_3b067 ∈ tb := tb_mem 387 (by decide +kernel) rfl
set_option maxRecDepth 100000 in
theorem ks_J2_getChar_3b067 : Cond.static yJ2_getChar_3b067 ∈ tb := tb_mem 388 (by decide +kernel) rfl
set_option maxRecDepth 100000 in
theorem kd_J2_getChar_3b067 : Cond.code yJ2_getChar_3b067 cJ2_getChar_3b067 2 (some .char) ∈ tb := tb_mem 389 rfl rfl
set_option maxRecDepth 100000 in
theorem kf_J2_44 : Cond.fieldLink RJ2 44 "java/lang/StringUTF16" "$assertionsDisabled" "Z" ∈ tb := tb_mem 390 (by decide +kernel) rfl
set_option maxRecDepth 100000 in
theorem kf_J2_59 : Cond.fieldLink RJ2 59 "java/lang/StringUTF16" "HI_BYTE_SHIFT" "I" ∈ tb := tb_mem 392 (by decide +kernel) rfl
set_option maxRecDepth 100000 in
theorem kf_J2_63 : Cond.fieldLink RJ2 63 "java/lang/StringUTF16" "LO_BYTE_SHIFT" "I" ∈ tb := tb_mem 394 (by decide +kernel) rfl
set_option maxRecDepth 100000 in
theorem km_X9_55 : Cond.methodLink RX9 55 yX9_refuse ∈ tb := tb_mem 401 (by decide +kernel) rfl
set_option maxRecDepth 100000 in
theorem kj_X9_refuse : Cond.instanceMethod yX9_refuse ∈ tb := tb_mem 403 (by decide +kernel) rfl
set_option maxRecDepth 100000 in
theorem kd_X9_refuse : Cond.code yX9_refuse cX9_refuse 2 none ∈ tb := tb_mem 404 rfl rfl
set_option maxRecDepth 100000 in
theorem km_X9_59 : Cond.methodLink RX9 59 yX9_readStop ∈ tb := tb_mem 405 (by decide +kernel) rfl
set_option maxRecDepth 100000 in
theorem kj_X9_readStop : Cond.instanceMethod yX9_readStop ∈ tb := tb_mem 407 (by decide +kernel) rfl
set_option maxRecDepth 100000 in
theorem kd_X9_readStop : Cond.code yX9_readStop cX9_readStop 2 none ∈ tb := tb_mem 408 rfl rfl
set_option maxRecDepth 100000 in
theorem km_X9_80 : Cond.methodLink RX9 80 yX8_put ∈ tb := tb_mem 410 (by decide +kernel) rfl
set_option maxRecDepth 100000 in
theorem kj_X8_put : Cond.instanceMethod yX8_put ∈ tb := tb_mem 411 (by decide +kernel) rfl
set_option maxRecDepth 100000 in
theorem kl_X8_put : Cond.selects RX8 yX8_put yX8_put ∈ tb := tb_mem 412 (by decide +kernel) rfl
set_option maxRecDepth 100000 in
theorem kd_X8_put : Cond.code yX8_put cX8_put 3 none ∈ tb := tb_mem 413 rfl rfl
set_option maxRecDepth 100000 in
theorem km_X9_62 : Cond.methodLink RX9 62 yX9_readNumbers ∈ tb := tb_mem 415 (by decide +kernel) rfl
set_option maxRecDepth 100000 in
theorem kj_X9_readNumbers : Cond.instanceMethod yX9_readNumbers ∈ tb := tb_mem 417 (by decide +kernel) rfl
set_option maxRecDepth 100000 in
theorem kd_X9_readNumbers : Cond.code yX9_readNumbers cX9_readNumbers 6 none ∈ tb := tb_mem 418 rfl rfl
set_option maxRecDepth 100000 in
theorem kf_X9_66 : Cond.fieldLink RX9 66 "TowerAppeal$TrustReader" "FIRST_RULE" "[I" ∈ tb := tb_mem 419 (by decide +kernel) rfl
set_option maxRecDepth 100000 in
theorem kf_X9_70 : Cond.fieldLink RX9 70 "TowerAppeal$TrustReader" "NUMBERS" "[I" ∈ tb := tb_mem 421 (by decide +kernel) rfl
end
section
set_option maxRecDepth 100000 in
theorem km_X9_76 : Cond.methodLink RX9 76 yX9_isInBounds ∈ tb := tb_mem 423 (by decide +kernel) rfl
set_option maxRecDepth 100000 in
theorem ks_X9_isInBounds : Cond.static yX9_isInBounds ∈ tb := tb_mem 424 (by decide +kernel) rfl
set_option maxRecDepth 100000 in
theorem kd_X9_isInBounds : Cond.code yX9_isInBounds cX9_isInBounds 2 (some .boolean) ∈ tb := tb_mem 425 rfl rfl
set_option maxRecDepth 100000 in
theorem kf_X9_84 : Cond.fieldLink RX9 84 "TowerAppeal$TrustReader" "LEAST" "[I" ∈ tb := tb_mem 426 (by decide +kernel) rfl
set_option maxRecDepth 100000 in
theorem kf_X9_87 : Cond.fieldLink RX9 87 "TowerAppeal$TrustReader" "MOST" "[I" ∈ tb := tb_mem 428 (by decide +kernel) rfl
set_option maxRecDepth 100000 in
theorem km_X10_84 : Cond.methodLink RX10 84 yX9_draft ∈ tb := tb_mem 430 (by decide +kernel) rfl
set_option maxRecDepth 100000 in
theorem kj_X9_draft : Cond.instanceMethod yX9_draft ∈ tb := tb_mem 431 (by decide +kernel) rfl
set_option maxRecDepth 100000 in
theorem kl_X9_draft : Cond.selects RX9 yX9_draft yX9_draft ∈ tb := tb_mem 432 (by decide +kernel) rfl
set_option maxRecDepth 100000 in
theorem kd_X9_draft : Cond.code yX9_draft cX9_draft 1 (some (.object "TowerAppeal$Trust")) ∈ tb := tb_mem 433 rfl rfl
set_option maxRecDepth 100000 in
theorem km_X10_88 : Cond.methodLink RX10 88 yX8_takeOver ∈ tb := tb_mem 434 (by decide +kernel) rfl
set_option maxRecDepth 100000 in
theorem kj_X8_takeOver : Cond.instanceMethod yX8_takeOver ∈ tb := tb_mem 435 (by decide +kernel) rfl
set_option maxRecDepth 100000 in
theorem kl_X8_takeOver : Cond.selects RX8 yX8_takeOver yX8_takeOver ∈ tb := tb_mem 436 (by decide +kernel) rfl
set_option maxRecDepth 100000 in
theorem kd_X8_takeOver : Cond.code yX8_takeOver cX8_takeOver 2 none ∈ tb := tb_mem 437 rfl rfl
set_option maxRecDepth 100000 in
theorem km_L_28 : Cond.methodLink RL 28 yX10_fault ∈ tb := tb_mem 438 (by decide +kernel) rfl
set_option maxRecDepth 100000 in
theorem kj_X10_fault : Cond.instanceMethod yX10_fault ∈ tb := tb_mem 439 (by decide +kernel) rfl
set_option maxRecDepth 100000 in
theorem kl_X10_fault : Cond.selects RX10 yX10_fault yX10_fault ∈ tb := tb_mem 440 (by decide +kernel) rfl
set_option maxRecDepth 100000 in
theorem kd_X10_fault : Cond.code yX10_fault cX10_fault 2 (some .int) ∈ tb := tb_mem 441 rfl rfl
set_option maxRecDepth 100000 in
theorem km_X10_92 : Cond.methodLink RX10 92 yX9_faultKind ∈ tb := tb_mem 442 (by decide +kernel) rfl
set_option maxRecDepth 100000 in
theorem kj_X9_faultKind : Cond.instanceMethod yX9_faultKind ∈ tb := tb_mem 443 (by decide +kernel) rfl
set_option maxRecDepth 100000 in
theorem kl_X9_faultKind : Cond.selects RX9 yX9_faultKind yX9_faultKind ∈ tb := tb_mem 444 (by decide +kernel) rfl
set_option maxRecDepth 100000 in
theorem kd_X9_faultKind : Cond.code yX9_faultKind cX9_faultKind 1 (some .int) ∈ tb := tb_mem 445 rfl rfl
set_option maxRecDepth 100000 in
theorem km_X10_95 : Cond.methodLink RX10 95 yX9_faultPlace ∈ tb := tb_mem 446 (by decide +kernel) rfl
set_option maxRecDepth 100000 in
theorem kj_X9_faultPlace : Cond.instanceMethod yX9_faultPlace ∈ tb := tb_mem 447 (by decide +kernel) rfl
set_option maxRecDepth 100000 in
theorem kl_X9_faultPlace : Cond.selects RX9 yX9_faultPlace yX9_faultPlace ∈ tb := tb_mem 448 (by decide +kernel) rfl
set_option maxRecDepth 100000 in
theorem kd_X9_faultPlace : Cond.code yX9_faultPlace cX9_faultPlace 1 (some .int) ∈ tb := tb_mem 449 rfl rfl
set_option maxRecDepth 100000 in
theorem km_L_32 : Cond.methodLink RL 32 yX10_rule ∈ tb := tb_mem 450 (by decide +kernel) rfl
set_option maxRecDepth 100000 in
theorem kj_X10_rule : Cond.instanceMethod yX10_rule ∈ tb := tb_mem 451 (by decide +kernel) rfl
set_option maxRecDepth 100000 in
theorem kl_X10_rule : Cond.selects RX10 yX10_rule yX10_rule ∈ tb := tb_mem 452 (by decide +kernel) rfl
set_option maxRecDepth 100000 in
theorem kd_X10_rule : Cond.code yX10_rule cX10_rule 2 (some .int) ∈ tb := tb_mem 453 rfl rfl
set_option maxRecDepth 100000 in
theorem km_X10_98 : Cond.methodLink RX10 98 yX8_at ∈ tb := tb_mem 454 (by decide +kernel) rfl
set_option maxRecDepth 100000 in
theorem kj_X8_at : Cond.instanceMethod yX8_at ∈ tb := tb_mem 455 (by decide +kernel) rfl
set_option maxRecDepth 100000 in
theorem kl_X8_at : Cond.selects RX8 yX8_at yX8_at ∈ tb := tb_mem 456 (by decide +kernel) rfl
set_option maxRecDepth 100000 in
theorem kd_X8_at : Cond.code yX8_at cX8_at 2 (some .int) ∈ tb := tb_mem 457 rfl rfl
set_option maxRecDepth 100000 in
theorem km_L_36 : Cond.methodLink RL 36 yX10_declare ∈ tb := tb_mem 458 (by decide +kernel) rfl
set_option maxRecDepth 100000 in
theorem kj_X10_declare : Cond.instanceMethod yX10_declare ∈ tb := tb_mem 459 (by decide +kernel) rfl
set_option maxRecDepth 100000 in
theorem kl_X10_declare : Cond.selects RX10 yX10_declare yX10_declare ∈ tb := tb_mem 460 (by decide +kernel) rfl
set_option maxRecDepth 100000 in
theorem kd_X10_declare : Cond.code yX10_declare cX10_declare 4 (some .int) ∈ tb := tb_mem 461 rfl rfl
set_option maxRecDepth 100000 in
theorem km_X10_102 : Cond.methodLink RX10 102 yX10_isGiver ∈ tb := tb_mem 462 (by decide +kernel) rfl
set_option maxRecDepth 100000 in
theorem ks_X10_isGiver : Cond.static yX10_isGiver ∈ tb := tb_mem 463 (by decide +kernel) rfl
set_option maxRecDepth 100000 in
theorem kd_X10_isGiver : Cond.code yX10_isGiver cX10_isGiver 1 (some .boolean) ∈ tb := tb_mem 464 rfl rfl
set_option maxRecDepth 100000 in
theorem km_X10_110 : Cond.methodLink RX10 110 yX0_setDeclaration ∈ tb := tb_mem 465 (by decide +kernel) rfl
set_option maxRecDepth 100000 in
theorem kj_X0_setDeclaration : Cond.instanceMethod yX0_setDeclaration ∈ tb := tb_mem 466 (by decide +kernel) rfl
set_option maxRecDepth 100000 in
theorem kl_X0_setDeclaration : Cond.selects RX0 yX0_setDeclaration yX0_setDeclaration ∈ tb := tb_mem 467 (by decide +kernel) rfl
set_option maxRecDepth 100000 in
theorem kd_X0_setDeclaration : Cond.code yX0_setDeclaration cX0_setDeclaration 4 none ∈ tb := tb_mem 468 rfl rfl
set_option maxRecDepth 100000 in
theorem km_L_41 : Cond.methodLink RL 41 yX10_nameless ∈ tb := tb_mem 470 (by decide +kernel) rfl
set_option maxRecDepth 100000 in
theorem kj_X10_nameless : Cond.instanceMethod yX10_nameless ∈ tb := tb_mem 471 (by decide +kernel) rfl
set_option maxRecDepth 100000 in
theorem kl_X10_nameless : Cond.selects RX10 yX10_nameless yX10_nameless ∈ tb := tb_mem 472 (by decide +kernel) rfl
set_option maxRecDepth 100000 in
theorem kd_X10_nameless : Cond.code yX10_nameless cX10_nameless 3 (some .int) ∈ tb := tb_mem 473 rfl rfl
set_option maxRecDepth 100000 in
theorem km_X10_114 : Cond.methodLink RX10 114 yX0_setWithoutName ∈ tb := tb_mem 474 (by decide +kernel) rfl
set_option maxRecDepth 100000 in
theorem kj_X0_setWithoutName : Cond.instanceMethod yX0_setWithoutName ∈ tb := tb_mem 475 (by decide +kernel) rfl
set_option maxRecDepth 100000 in
theorem kl_X0_setWithoutName : Cond.selects RX0 yX0_setWithoutName yX0_setWithoutName ∈ tb := tb_mem 476 (by decide +kernel) rfl
set_option maxRecDepth 100000 in
theorem kd_X0_setWithoutName : Cond.code yX0_setWithoutName cX0_setWithoutName 3 (some .boolean) ∈ tb := tb_mem 477 rfl rfl
set_option maxRecDepth 100000 in
theorem km_L_46 : Cond.methodLink RL 46 yX10_pledge ∈ tb := tb_mem 478 (by decide +kernel) rfl
set_option maxRecDepth 100000 in
theorem kj_X10_pledge : Cond.instanceMethod yX10_pledge ∈ tb := tb_mem 479 (by decide +kernel) rfl
set_option maxRecDepth 100000 in
theorem kl_X10_pledge : Cond.selects RX10 yX10_pledge yX10_pledge ∈ tb := tb_mem 480 (by decide +kernel) rfl
set_option maxRecDepth 100000 in
theorem kd_X10_pledge : Cond.code yX10_pledge cX10_pledge 6 (some .int) ∈ tb := tb_mem 481 rfl rfl
set_option maxRecDepth 100000 in
theorem kk_X10_118 : Cond.constant RX10 118 (100000 : Int32) ∈ tb := tb_mem 482 (by decide +kernel) rfl
set_option maxRecDepth 100000 in
theorem km_X10_119 : Cond.methodLink RX10 119 yX10_isWithin ∈ tb := tb_mem 483 (by decide +kernel) rfl
set_option maxRecDepth 100000 in
theorem ks_X10_isWithin : Cond.static yX10_isWithin ∈ tb := tb_mem 484 (by decide +kernel) rfl
set_option maxRecDepth 100000 in
theorem kd_X10_isWithin : Cond.code yX10_isWithin cX10_isWithin 3 (some .boolean) ∈ tb := tb_mem 485 rfl rfl
set_option maxRecDepth 100000 in
theorem km_X10_127 : Cond.methodLink RX10 127 yX2_isFull ∈ tb := tb_mem 486 (by decide +kernel) rfl
set_option maxRecDepth 100000 in
theorem kj_X2_isFull : Cond.instanceMethod yX2_isFull ∈ tb := tb_mem 487 (by decide +kernel) rfl
set_option maxRecDepth 100000 in
theorem kl_X2_isFull : Cond.selects RX2 yX2_isFull yX2_isFull ∈ tb := tb_mem 488 (by decide +kernel) rfl
set_option maxRecDepth 100000 in
theorem kd_X2_isFull : Cond.code yX2_isFull cX2_isFull 1 (some .boolean) ∈ tb := tb_mem 489 rfl rfl
set_option maxRecDepth 100000 in
theorem kc_X10_130 : Cond.classLink RX10 130 RX1 ∈ tb := tb_mem 490 (by decide +kernel) rfl
set_option maxRecDepth 100000 in
theorem kn_X1 : Cond.instantiable RX1 12 ∈ tb := tb_mem 491 (by decide +kernel) rfl
set_option maxRecDepth 100000 in
theorem km_X10_132 : Cond.methodLink RX10 132 yX1_init ∈ tb := tb_mem 492 (by decide +kernel) rfl
set_option maxRecDepth 100000 in
theorem kj_X1_init : Cond.instanceMethod yX1_init ∈ tb := tb_mem 493 (by decide +kernel) rfl
set_option maxRecDepth 100000 in
theorem kd_X1_init : Cond.code yX1_init cX1_init 7 none ∈ tb := tb_mem 494 rfl rfl
set_option maxRecDepth 100000 in
theorem km_X1_3 : Cond.methodLink RX1 3 objectInit ∈ tb := tb_mem 495 (by decide +kernel) rfl
set_option maxRecDepth 100000 in
theorem km_X1_24 : Cond.methodLink RX1 24 yX1_duesThatCome ∈ tb := tb_mem 496 (by decide +kernel) rfl
set_option maxRecDepth 100000 in
theorem ks_X1_duesThatCome : Cond.static yX1_duesThatCome ∈ tb := tb_mem 497 (by decide +kernel) rfl
set_option maxRecDepth 100000 in
theorem kd_X1_duesThatCome : Cond.code yX1_duesThatCome cX1_duesThatCome 5 (some .int) ∈ tb := tb_mem 498 rfl rfl
set_option maxRecDepth 100000 in
theorem kf_X1_15 : Cond.fieldLink RX1 15 "TowerAppeal$Pledge" "giverNumber" "I" ∈ tb := tb_mem 499 (by decide +kernel) rfl
set_option maxRecDepth 100000 in
theorem kf_X1_18 : Cond.fieldLink RX1 18 "TowerAppeal$Pledge" "first" "I" ∈ tb := tb_mem 500 (by decide +kernel) rfl
set_option maxRecDepth 100000 in
theorem kf_X1_21 : Cond.fieldLink RX1 21 "TowerAppeal$Pledge" "every" "I" ∈ tb := tb_mem 501 (by decide +kernel) rfl
set_option maxRecDepth 100000 in
theorem kf_X1_28 : Cond.fieldLink RX1 28 "TowerAppeal$Pledge" "size" "I" ∈ tb := tb_mem 502 (by decide +kernel) rfl
set_option maxRecDepth 100000 in
theorem kf_X1_31 : Cond.fieldLink RX1 31 "TowerAppeal$Pledge" "owed" "[I" ∈ tb := tb_mem 503 (by decide +kernel) rfl
set_option maxRecDepth 100000 in
theorem kf_X1_35 : Cond.fieldLink RX1 35 "TowerAppeal$Pledge" "filled" "[I" ∈ tb := tb_mem 504 (by decide +kernel) rfl
set_option maxRecDepth 100000 in
theorem kf_X1_38 : Cond.fieldLink RX1 38 "TowerAppeal$Pledge" "standing" "[I" ∈ tb := tb_mem 505 (by decide +kernel) rfl
set_option maxRecDepth 100000 in
theorem kf_X1_41 : Cond.fieldLink RX1 41 "TowerAppeal$Pledge" "penceToCome" "I" ∈ tb := tb_mem 506 (by decide +kernel) rfl
set_option maxRecDepth 100000 in
theorem kf_X1_44 : Cond.fieldLink RX1 44 "TowerAppeal$Pledge" "filledInAll" "I" ∈ tb := tb_mem 507 (by decide +kernel) rfl
set_option maxRecDepth 100000 in
theorem kf_X1_47 : Cond.fieldLink RX1 47 "TowerAppeal$Pledge" "lapsed" "Z" ∈ tb := tb_mem 508 (by decide +kernel) rfl
set_option maxRecDepth 100000 in
theorem kf_X1_51 : Cond.fieldLink RX1 51 "TowerAppeal$Pledge" "takenUp" "Z" ∈ tb := tb_mem 509 (by decide +kernel) rfl
set_option maxRecDepth 100000 in
theorem kf_X1_9 : Cond.fieldLink RX1 9 "TowerAppeal$Pledge" "firstLapse" "I" ∈ tb := tb_mem 510 (by decide +kernel) rfl
set_option maxRecDepth 100000 in
theorem ku_X1 : Cond.superclass RX1 "java/lang/Object" ∈ tb := tb_mem 535 (by decide +kernel) rfl
set_option maxRecDepth 100000 in
theorem km_X10_135 : Cond.methodLink RX10 135 yX2_add ∈ tb := tb_mem 536 (by decide +kernel) rfl
set_option maxRecDepth 100000 in
theorem kj_X2_add : Cond.instanceMethod yX2_add ∈ tb := tb_mem 537 (by decide +kernel) rfl
set_option maxRecDepth 100000 in
theorem kl_X2_add : Cond.selects RX2 yX2_add yX2_add ∈ tb := tb_mem 538 (by decide +kernel) rfl
set_option maxRecDepth 100000 in
theorem kd_X2_add : Cond.code yX2_add cX2_add 2 (some .int) ∈ tb := tb_mem 539 rfl rfl
set_option maxRecDepth 100000 in
theorem km_L_50 : Cond.methodLink RL 50 yX10_change ∈ tb := tb_mem 540 (by decide +kernel) rfl
set_option maxRecDepth 100000 in
theorem kj_X10_change : Cond.instanceMethod yX10_change ∈ tb := tb_mem 541 (by decide +kernel) rfl
set_option maxRecDepth 100000 in
theorem kl_X10_change : Cond.selects RX10 yX10_change yX10_change ∈ tb := tb_mem 542 (by decide +kernel) rfl
set_option maxRecDepth 100000 in
theorem kd_X10_change : Cond.code yX10_change cX10_change 4 (some .int) ∈ tb := tb_mem 543 rfl rfl
set_option maxRecDepth 100000 in
theorem km_X10_139 : Cond.methodLink RX10 139 yX2_at ∈ tb := tb_mem 544 (by decide +kernel) rfl
set_option maxRecDepth 100000 in
theorem kj_X2_at : Cond.instanceMethod yX2_at ∈ tb := tb_mem 545 (by decide +kernel) rfl
set_option maxRecDepth 100000 in
theorem kl_X2_at : Cond.selects RX2 yX2_at yX2_at ∈ tb := tb_mem 546 (by decide +kernel) rfl
set_option maxRecDepth 100000 in
theorem kd_X2_at : Cond.code yX2_at cX2_at 2 (some (.object "TowerAppeal$Pledge")) ∈ tb := tb_mem 547 rfl rfl
set_option maxRecDepth 100000 in
theorem km_X10_142 : Cond.methodLink RX10 142 yX1_isLapsed ∈ tb := tb_mem 548 (by decide +kernel) rfl
set_option maxRecDepth 100000 in
theorem kj_X1_isLapsed : Cond.instanceMethod yX1_isLapsed ∈ tb := tb_mem 549 (by decide +kernel) rfl
set_option maxRecDepth 100000 in
theorem kl_X1_isLapsed : Cond.selects RX1 yX1_isLapsed yX1_isLapsed ∈ tb := tb_mem 550 (by decide +kernel) rfl
set_option maxRecDepth 100000 in
theorem kd_X1_isLapsed : Cond.code yX1_isLapsed cX1_isLapsed 1 (some .boolean) ∈ tb := tb_mem 551 rfl rfl
set_option maxRecDepth 100000 in
theorem km_X10_145 : Cond.methodLink RX10 145 yX1_setPence ∈ tb := tb_mem 552 (by decide +kernel) rfl
set_option maxRecDepth 100000 in
theorem kj_X1_setPence : Cond.instanceMethod yX1_setPence ∈ tb := tb_mem 553 (by decide +kernel) rfl
set_option maxRecDepth 100000 in
theorem kl_X1_setPence : Cond.selects RX1 yX1_setPence yX1_setPence ∈ tb := tb_mem 554 (by decide +kernel) rfl
set_option maxRecDepth 100000 in
theorem kd_X1_setPence : Cond.code yX1_setPence cX1_setPence 4 none ∈ tb := tb_mem 555 rfl rfl
set_option maxRecDepth 100000 in
theorem km_X1_54 : Cond.methodLink RX1 54 yX1_monthOf ∈ tb := tb_mem 556 (by decide +kernel) rfl
set_option maxRecDepth 100000 in
theorem kj_X1_monthOf : Cond.instanceMethod yX1_monthOf ∈ tb := tb_mem 558 (by decide +kernel) rfl
set_option maxRecDepth 100000 in
theorem kd_X1_monthOf : Cond.code yX1_monthOf cX1_monthOf 2 (some .int) ∈ tb := tb_mem 559 rfl rfl
set_option maxRecDepth 100000 in
theorem km_L_55 : Cond.methodLink RL 55 yX10_pay ∈ tb := tb_mem 560 (by decide +kernel) rfl
set_option maxRecDepth 100000 in
theorem kj_X10_pay : Cond.instanceMethod yX10_pay ∈ tb := tb_mem 561 (by decide +kernel) rfl
set_option maxRecDepth 100000 in
theorem kl_X10_pay : Cond.selects RX10 yX10_pay yX10_pay ∈ tb := tb_mem 562 (by decide +kernel) rfl
set_option maxRecDepth 100000 in
theorem kd_X10_pay : Cond.code yX10_pay cX10_pay 4 (some .int) ∈ tb := tb_mem 563 rfl rfl
set_option maxRecDepth 100000 in
theorem km_X10_149 : Cond.methodLink RX10 149 yX10_isSum ∈ tb := tb_mem 564 (by decide +kernel) rfl
set_option maxRecDepth 100000 in
theorem ks_X10_isSum : Cond.static yX10_isSum ∈ tb := tb_mem 565 (by decide +kernel) rfl
set_option maxRecDepth 100000 in
theorem kd_X10_isSum : Cond.code yX10_isSum cX10_isSum 1 (some .boolean) ∈ tb := tb_mem 566 rfl rfl
set_option maxRecDepth 100000 in
theorem kk_X10_307 : Cond.constant RX10 307 (5000000 : Int32) ∈ tb := tb_mem 567 (by decide +kernel) rfl
set_option maxRecDepth 100000 in
theorem km_X10_152 : Cond.methodLink RX10 152 yX1_unfilled ∈ tb := tb_mem 568 (by decide +kernel) rfl
set_option maxRecDepth 100000 in
theorem kj_X1_unfilled : Cond.instanceMethod yX1_unfilled ∈ tb := tb_mem 569 (by decide +kernel) rfl
set_option maxRecDepth 100000 in
theorem kl_X1_unfilled : Cond.selects RX1 yX1_unfilled yX1_unfilled ∈ tb := tb_mem 570 (by decide +kernel) rfl
set_option maxRecDepth 100000 in
theorem kd_X1_unfilled : Cond.code yX1_unfilled cX1_unfilled 1 (some .int) ∈ tb := tb_mem 571 rfl rfl
set_option maxRecDepth 100000 in
theorem km_X1_58 : Cond.methodLink RX1 58 yX1_unfilledWithin ∈ tb := tb_mem 572 (by decide +kernel) rfl
set_option maxRecDepth 100000 in
theorem kj_X1_unfilledWithin : Cond.instanceMethod yX1_unfilledWithin ∈ tb := tb_mem 573 (by decide +kernel) rfl
set_option maxRecDepth 100000 in
theorem kl_X1_unfilledWithin : Cond.selects RX1 yX1_unfilledWithin yX1_unfilledWithin ∈ tb := tb_mem 574 (by decide +kernel) rfl
set_option maxRecDepth 100000 in
theorem kd_X1_unfilledWithin : Cond.code yX1_unfilledWithin cX1_unfilledWithin 5 (some .int) ∈ tb := tb_mem 575 rfl rfl
set_option maxRecDepth 100000 in
theorem km_X10_155 : Cond.methodLink RX10 155 yX5_isFull ∈ tb := tb_mem 576 (by decide +kernel) rfl
set_option maxRecDepth 100000 in
theorem kj_X5_isFull : Cond.instanceMethod yX5_isFull ∈ tb := tb_mem 577 (by decide +kernel) rfl
set_option maxRecDepth 100000 in
theorem kl_X5_isFull : Cond.selects RX5 yX5_isFull yX5_isFull ∈ tb := tb_mem 578 (by decide +kernel) rfl
set_option maxRecDepth 100000 in
theorem kd_X5_isFull : Cond.code yX5_isFull cX5_isFull 1 (some .boolean) ∈ tb := tb_mem 579 rfl rfl
set_option maxRecDepth 100000 in
theorem km_X10_156 : Cond.methodLink RX10 156 yX1_fill ∈ tb := tb_mem 580 (by decide +kernel) rfl
set_option maxRecDepth 100000 in
theorem kj_X1_fill : Cond.instanceMethod yX1_fill ∈ tb := tb_mem 581 (by decide +kernel) rfl
set_option maxRecDepth 100000 in
theorem kl_X1_fill : Cond.selects RX1 yX1_fill yX1_fill ∈ tb := tb_mem 582 (by decide +kernel) rfl
set_option maxRecDepth 100000 in
theorem kd_X1_fill : Cond.code yX1_fill cX1_fill 5 none ∈ tb := tb_mem 583 rfl rfl
set_option maxRecDepth 100000 in
theorem km_X1_62 : Cond.methodLink RX1 62 yJ9_min_7cf53 ∈ tb := tb_mem 584 (by decide +kernel) rfl
set_option maxRecDepth 100000 in
theorem ks_J9_min_7cf53 : Cond.static yJ9_min_7cf53 ∈ tb := tb_mem 585 (by decide +kernel) rfl
set_option maxRecDepth 100000 in
theorem kd_J9_min_7cf53 : Cond.code yJ9_min_7cf53 cJ9_min_7cf53 2 (some .int) ∈ tb := tb_mem 586 rfl rfl
set_option maxRecDepth 100000 in
theorem km_X10_159 : Cond.methodLink RX10 159 yX1_giverNumber ∈ tb := tb_mem 587 (by decide +kernel) rfl
set_option maxRecDepth 100000 in
theorem kj_X1_giverNumber : Cond.instanceMethod yX1_giverNumber ∈ tb := tb_mem 588 (by decide +kernel) rfl
set_option maxRecDepth 100000 in
theorem kl_X1_giverNumber : Cond.selects RX1 yX1_giverNumber yX1_giverNumber ∈ tb := tb_mem 589 (by decide +kernel) rfl
set_option maxRecDepth 100000 in
theorem kd_X1_giverNumber : Cond.code yX1_giverNumber cX1_giverNumber 1 (some .int) ∈ tb := tb_mem 590 rfl rfl
set_option maxRecDepth 100000 in
theorem km_X10_162 : Cond.methodLink RX10 162 yX10_receive ∈ tb := tb_mem 591 (by decide +kernel) rfl
set_option maxRecDepth 100000 in
theorem kj_X10_receive : Cond.instanceMethod yX10_receive ∈ tb := tb_mem 593 (by decide +kernel) rfl
set_option maxRecDepth 100000 in
theorem kd_X10_receive : Cond.code yX10_receive cX10_receive 3 (some .int) ∈ tb := tb_mem 594 rfl rfl
set_option maxRecDepth 100000 in
theorem km_X10_308 : Cond.methodLink RX10 308 yX5_add ∈ tb := tb_mem 595 (by decide +kernel) rfl
set_option maxRecDepth 100000 in
theorem kj_X5_add : Cond.instanceMethod yX5_add ∈ tb := tb_mem 596 (by decide +kernel) rfl
set_option maxRecDepth 100000 in
theorem kl_X5_add : Cond.selects RX5 yX5_add yX5_add ∈ tb := tb_mem 597 (by decide +kernel) rfl
set_option maxRecDepth 100000 in
theorem kd_X5_add : Cond.code yX5_add cX5_add 4 none ∈ tb := tb_mem 598 rfl rfl
set_option maxRecDepth 100000 in
theorem km_X10_310 : Cond.methodLink RX10 310 yX3_takeSum ∈ tb := tb_mem 599 (by decide +kernel) rfl
set_option maxRecDepth 100000 in
theorem kj_X3_takeSum : Cond.instanceMethod yX3_takeSum ∈ tb := tb_mem 600 (by decide +kernel) rfl
set_option maxRecDepth 100000 in
theorem kl_X3_takeSum : Cond.selects RX3 yX3_takeSum yX3_takeSum ∈ tb := tb_mem 601 (by decide +kernel) rfl
set_option maxRecDepth 100000 in
theorem kd_X3_takeSum : Cond.code yX3_takeSum cX3_takeSum 10 (some .int) ∈ tb := tb_mem 602 rfl rfl
set_option maxRecDepth 100000 in
theorem km_X3_28 : Cond.methodLink RX3 28 yX8_matchTill ∈ tb := tb_mem 603 (by decide +kernel) rfl
set_option maxRecDepth 100000 in
theorem kj_X8_matchTill : Cond.instanceMethod yX8_matchTill ∈ tb := tb_mem 604 (by decide +kernel) rfl
set_option maxRecDepth 100000 in
theorem kl_X8_matchTill : Cond.selects RX8 yX8_matchTill yX8_matchTill ∈ tb := tb_mem 605 (by decide +kernel) rfl
set_option maxRecDepth 100000 in
theorem kd_X8_matchTill : Cond.code yX8_matchTill cX8_matchTill 1 (some .int) ∈ tb := tb_mem 606 rfl rfl
set_option maxRecDepth 100000 in
theorem km_X3_34 : Cond.methodLink RX3 34 yX8_matchHundredths ∈ tb := tb_mem 607 (by decide +kernel) rfl
set_option maxRecDepth 100000 in
theorem kj_X8_matchHundredths : Cond.instanceMethod yX8_matchHundredths ∈ tb := tb_mem 608 (by decide +kernel) rfl
set_option maxRecDepth 100000 in
theorem kl_X8_matchHundredths : Cond.selects RX8 yX8_matchHundredths yX8_matchHundredths ∈ tb := tb_mem 609 (by decide +kernel) rfl
set_option maxRecDepth 100000 in
theorem kd_X8_matchHundredths : Cond.code yX8_matchHundredths cX8_matchHundredths 1 (some .int) ∈ tb := tb_mem 610 rfl rfl
set_option maxRecDepth 100000 in
theorem kk_X3_37 : Cond.constantLong RX3 37 (100 : Int64) ∈ tb := tb_mem 611 (by decide +kernel) rfl
set_option maxRecDepth 100000 in
theorem km_X3_39 : Cond.methodLink RX3 39 yX8_matchCapPence ∈ tb := tb_mem 612 (by decide +kernel) rfl
set_option maxRecDepth 100000 in
theorem kj_X8_matchCapPence : Cond.instanceMethod yX8_matchCapPence ∈ tb := tb_mem 613 (by decide +kernel) rfl
set_option maxRecDepth 100000 in
theorem kl_X8_matchCapPence : Cond.selects RX8 yX8_matchCapPence yX8_matchCapPence ∈ tb := tb_mem 614 (by decide +kernel) rfl
set_option maxRecDepth 100000 in
theorem kd_X8_matchCapPence : Cond.code yX8_matchCapPence cX8_matchCapPence 1 (some .int) ∈ tb := tb_mem 615 rfl rfl
set_option maxRecDepth 100000 in
theorem km_X3_42 : Cond.methodLink RX3 42 yJ9_max_f86c9 ∈ tb := tb_mem 616 (by decide +kernel) rfl
set_option maxRecDepth 100000 in
theorem ks_J9_max_f86c9 : Cond.static yJ9_max_f86c9 ∈ tb := tb_mem 617 (by decide +kernel) rfl
set_option maxRecDepth 100000 in
theorem kd_J9_max_f86c9 : Cond.code yJ9_max_f86c9 cJ9_max_f86c9 4 (some .long) ∈ tb := tb_mem 618 rfl rfl
set_option maxRecDepth 100000 in
theorem km_X3_48 : Cond.methodLink RX3 48 yJ9_min_f86c9 ∈ tb := tb_mem 619 (by decide +kernel) rfl
set_option maxRecDepth 100000 in
theorem ks_J9_min_f86c9 : Cond.static yJ9_min_f86c9 ∈ tb := tb_mem 620 (by decide +kernel) rfl
set_option maxRecDepth 100000 in
theorem kd_J9_min_f86c9 : Cond.code yJ9_min_f86c9 cJ9_min_f86c9 4 (some .long) ∈ tb := tb_mem 621 rfl rfl
set_option maxRecDepth 100000 in
theorem km_L_59 : Cond.methodLink RL 59 yX10_gift ∈ tb := tb_mem 622 (by decide +kernel) rfl
set_option maxRecDepth 100000 in
theorem kj_X10_gift : Cond.instanceMethod yX10_gift ∈ tb := tb_mem 623 (by decide +kernel) rfl
set_option maxRecDepth 100000 in
theorem kl_X10_gift : Cond.selects RX10 yX10_gift yX10_gift ∈ tb := tb_mem 624 (by decide +kernel) rfl
set_option maxRecDepth 100000 in
theorem kd_X10_gift : Cond.code yX10_gift cX10_gift 3 (some .int) ∈ tb := tb_mem 625 rfl rfl
set_option maxRecDepth 100000 in
theorem km_L_63 : Cond.methodLink RL 63 yX10_takeUp ∈ tb := tb_mem 626 (by decide +kernel) rfl
set_option maxRecDepth 100000 in
theorem kj_X10_takeUp : Cond.instanceMethod yX10_takeUp ∈ tb := tb_mem 627 (by decide +kernel) rfl
set_option maxRecDepth 100000 in
theorem kl_X10_takeUp : Cond.selects RX10 yX10_takeUp yX10_takeUp ∈ tb := tb_mem 628 (by decide +kernel) rfl
set_option maxRecDepth 100000 in
theorem kd_X10_takeUp : Cond.code yX10_takeUp cX10_takeUp 3 (some .int) ∈ tb := tb_mem 629 rfl rfl
set_option maxRecDepth 100000 in
theorem km_X10_166 : Cond.methodLink RX10 166 yX1_mayBeTakenUp ∈ tb := tb_mem 630 (by decide +kernel) rfl
set_option maxRecDepth 100000 in
theorem kj_X1_mayBeTakenUp : Cond.instanceMethod yX1_mayBeTakenUp ∈ tb := tb_mem 631 (by decide +kernel) rfl
set_option maxRecDepth 100000 in
theorem kl_X1_mayBeTakenUp : Cond.selects RX1 yX1_mayBeTakenUp yX1_mayBeTakenUp ∈ tb := tb_mem 632 (by decide +kernel) rfl
set_option maxRecDepth 100000 in
theorem kd_X1_mayBeTakenUp : Cond.code yX1_mayBeTakenUp cX1_mayBeTakenUp 1 (some .boolean) ∈ tb := tb_mem 633 rfl rfl
set_option maxRecDepth 100000 in
theorem km_X10_169 : Cond.methodLink RX10 169 yX1_standAgain ∈ tb := tb_mem 634 (by decide +kernel) rfl
set_option maxRecDepth 100000 in
theorem kj_X1_standAgain : Cond.instanceMethod yX1_standAgain ∈ tb := tb_mem 635 (by decide +kernel) rfl
set_option maxRecDepth 100000 in
theorem kl_X1_standAgain : Cond.selects RX1 yX1_standAgain yX1_standAgain ∈ tb := tb_mem 636 (by decide +kernel) rfl
set_option maxRecDepth 100000 in
theorem kd_X1_standAgain : Cond.code yX1_standAgain cX1_standAgain 3 none ∈ tb := tb_mem 637 rfl rfl
set_option maxRecDepth 100000 in
theorem km_X10_172 : Cond.methodLink RX10 172 yX1_duesToCome ∈ tb := tb_mem 638 (by decide +kernel) rfl
set_option maxRecDepth 100000 in
theorem kj_X1_duesToCome : Cond.instanceMethod yX1_duesToCome ∈ tb := tb_mem 639 (by decide +kernel) rfl
set_option maxRecDepth 100000 in
theorem kl_X1_duesToCome : Cond.selects RX1 yX1_duesToCome yX1_duesToCome ∈ tb := tb_mem 640 (by decide +kernel) rfl
set_option maxRecDepth 100000 in
theorem kd_X1_duesToCome : Cond.code yX1_duesToCome cX1_duesToCome 4 (some .int) ∈ tb := tb_mem 641 rfl rfl
set_option maxRecDepth 100000 in
theorem km_L_67 : Cond.methodLink RL 67 yX10_claim ∈ tb := tb_mem 642 (by decide +kernel) rfl
set_option maxRecDepth 100000 in
theorem kj_X10_claim : Cond.instanceMethod yX10_claim ∈ tb := tb_mem 643 (by decide +kernel) rfl
set_option maxRecDepth 100000 in
theorem kl_X10_claim : Cond.selects RX10 yX10_claim yX10_claim ∈ tb := tb_mem 644 (by decide +kernel) rfl
set_option maxRecDepth 100000 in
theorem kd_X10_claim : Cond.code yX10_claim cX10_claim 2 (some .int) ∈ tb := tb_mem 645 rfl rfl
set_option maxRecDepth 100000 in
theorem km_X10_175 : Cond.methodLink RX10 175 yX8_taxHundredths ∈ tb := tb_mem 646 (by decide +kernel) rfl
set_option maxRecDepth 100000 in
theorem kj_X8_taxHundredths : Cond.instanceMethod yX8_taxHundredths ∈ tb := tb_mem 647 (by decide +kernel) rfl
set_option maxRecDepth 100000 in
theorem kl_X8_taxHundredths : Cond.selects RX8 yX8_taxHundredths yX8_taxHundredths ∈ tb := tb_mem 648 (by decide +kernel) rfl
set_option maxRecDepth 100000 in
theorem kd_X8_taxHundredths : Cond.code yX8_taxHundredths cX8_taxHundredths 1 (some .int) ∈ tb := tb_mem 649 rfl rfl
set_option maxRecDepth 100000 in
theorem km_X10_178 : Cond.methodLink RX10 178 yX5_claimTax ∈ tb := tb_mem 650 (by decide +kernel) rfl
set_option maxRecDepth 100000 in
theorem kj_X5_claimTax : Cond.instanceMethod yX5_claimTax ∈ tb := tb_mem 651 (by decide +kernel) rfl
set_option maxRecDepth 100000 in
theorem kl_X5_claimTax : Cond.selects RX5 yX5_claimTax yX5_claimTax ∈ tb := tb_mem 652 (by decide +kernel) rfl
set_option maxRecDepth 100000 in
theorem kd_X5_claimTax : Cond.code yX5_claimTax cX5_claimTax 6 (some .int) ∈ tb := tb_mem 653 rfl rfl
set_option maxRecDepth 100000 in
theorem km_X5_33 : Cond.methodLink RX5 33 yX0_hasDeclared ∈ tb := tb_mem 654 (by decide +kernel) rfl
set_option maxRecDepth 100000 in
theorem kj_X0_hasDeclared : Cond.instanceMethod yX0_hasDeclared ∈ tb := tb_mem 655 (by decide +kernel) rfl
set_option maxRecDepth 100000 in
theorem kl_X0_hasDeclared : Cond.selects RX0 yX0_hasDeclared yX0_hasDeclared ∈ tb := tb_mem 656 (by decide +kernel) rfl
set_option maxRecDepth 100000 in
theorem kd_X0_hasDeclared : Cond.code yX0_hasDeclared cX0_hasDeclared 3 (some .boolean) ∈ tb := tb_mem 657 rfl rfl
set_option maxRecDepth 100000 in
theorem kk_X5_39 : Cond.constantLong RX5 39 (100 : Int64) ∈ tb := tb_mem 658 (by decide +kernel) rfl
set_option maxRecDepth 100000 in
theorem km_X10_182 : Cond.methodLink RX10 182 yX3_takeTax ∈ tb := tb_mem 659 (by decide +kernel) rfl
set_option maxRecDepth 100000 in
theorem kj_X3_takeTax : Cond.instanceMethod yX3_takeTax ∈ tb := tb_mem 660 (by decide +kernel) rfl
set_option maxRecDepth 100000 in
theorem kl_X3_takeTax : Cond.selects RX3 yX3_takeTax yX3_takeTax ∈ tb := tb_mem 661 (by decide +kernel) rfl
set_option maxRecDepth 100000 in
theorem kd_X3_takeTax : Cond.code yX3_takeTax cX3_takeTax 2 none ∈ tb := tb_mem 662 rfl rfl
set_option maxRecDepth 100000 in
theorem km_L_71 : Cond.methodLink RL 71 yX10_about ∈ tb := tb_mem 663 (by decide +kernel) rfl
set_option maxRecDepth 100000 in
theorem kj_X10_about : Cond.instanceMethod yX10_about ∈ tb := tb_mem 664 (by decide +kernel) rfl
set_option maxRecDepth 100000 in
theorem kl_X10_about : Cond.selects RX10 yX10_about yX10_about ∈ tb := tb_mem 665 (by decide +kernel) rfl
set_option maxRecDepth 100000 in
theorem kd_X10_about : Cond.code yX10_about cX10_about 4 (some .int) ∈ tb := tb_mem 666 rfl rfl
set_option maxRecDepth 100000 in
theorem km_X10_185 : Cond.methodLink RX10 185 yX1_penceToCome ∈ tb := tb_mem 667 (by decide +kernel) rfl
set_option maxRecDepth 100000 in
theorem kj_X1_penceToCome : Cond.instanceMethod yX1_penceToCome ∈ tb := tb_mem 668 (by decide +kernel) rfl
set_option maxRecDepth 100000 in
theorem kl_X1_penceToCome : Cond.selects RX1 yX1_penceToCome yX1_penceToCome ∈ tb := tb_mem 669 (by decide +kernel) rfl
set_option maxRecDepth 100000 in
theorem kd_X1_penceToCome : Cond.code yX1_penceToCome cX1_penceToCome 1 (some .int) ∈ tb := tb_mem 670 rfl rfl
set_option maxRecDepth 100000 in
theorem km_X10_188 : Cond.methodLink RX10 188 yX1_overdue ∈ tb := tb_mem 671 (by decide +kernel) rfl
set_option maxRecDepth 100000 in
theorem kj_X1_overdue : Cond.instanceMethod yX1_overdue ∈ tb := tb_mem 672 (by decide +kernel) rfl
set_option maxRecDepth 100000 in
theorem kl_X1_overdue : Cond.selects RX1 yX1_overdue yX1_overdue ∈ tb := tb_mem 673 (by decide +kernel) rfl
set_option maxRecDepth 100000 in
theorem kd_X1_overdue : Cond.code yX1_overdue cX1_overdue 4 (some .int) ∈ tb := tb_mem 674 rfl rfl
set_option maxRecDepth 100000 in
theorem km_X10_191 : Cond.methodLink RX10 191 yX1_filledInAll ∈ tb := tb_mem 675 (by decide +kernel) rfl
set_option maxRecDepth 100000 in
theorem kj_X1_filledInAll : Cond.instanceMethod yX1_filledInAll ∈ tb := tb_mem 676 (by decide +kernel) rfl
set_option maxRecDepth 100000 in
theorem kl_X1_filledInAll : Cond.selects RX1 yX1_filledInAll yX1_filledInAll ∈ tb := tb_mem 677 (by decide +kernel) rfl
set_option maxRecDepth 100000 in
theorem kd_X1_filledInAll : Cond.code yX1_filledInAll cX1_filledInAll 1 (some .int) ∈ tb := tb_mem 678 rfl rfl
set_option maxRecDepth 100000 in
theorem km_X10_194 : Cond.methodLink RX10 194 yX1_firstLapse ∈ tb := tb_mem 679 (by decide +kernel) rfl
set_option maxRecDepth 100000 in
theorem kj_X1_firstLapse : Cond.instanceMethod yX1_firstLapse ∈ tb := tb_mem 680 (by decide +kernel) rfl
set_option maxRecDepth 100000 in
theorem kl_X1_firstLapse : Cond.selects RX1 yX1_firstLapse yX1_firstLapse ∈ tb := tb_mem 681 (by decide +kernel) rfl
set_option maxRecDepth 100000 in
theorem kd_X1_firstLapse : Cond.code yX1_firstLapse cX1_firstLapse 1 (some .int) ∈ tb := tb_mem 682 rfl rfl
set_option maxRecDepth 100000 in
theorem km_X10_197 : Cond.methodLink RX10 197 yX1_nextDue ∈ tb := tb_mem 683 (by decide +kernel) rfl
set_option maxRecDepth 100000 in
theorem kj_X1_nextDue : Cond.instanceMethod yX1_nextDue ∈ tb := tb_mem 684 (by decide +kernel) rfl
set_option maxRecDepth 100000 in
theorem kl_X1_nextDue : Cond.selects RX1 yX1_nextDue yX1_nextDue ∈ tb := tb_mem 685 (by decide +kernel) rfl
set_option maxRecDepth 100000 in
theorem kd_X1_nextDue : Cond.code yX1_nextDue cX1_nextDue 3 (some .int) ∈ tb := tb_mem 686 rfl rfl
set_option maxRecDepth 100000 in
theorem km_L_75 : Cond.methodLink RL 75 yX10_giver ∈ tb := tb_mem 687 (by decide +kernel) rfl
set_option maxRecDepth 100000 in
theorem kj_X10_giver : Cond.instanceMethod yX10_giver ∈ tb := tb_mem 688 (by decide +kernel) rfl
set_option maxRecDepth 100000 in
theorem kl_X10_giver : Cond.selects RX10 yX10_giver yX10_giver ∈ tb := tb_mem 689 (by decide +kernel) rfl
set_option maxRecDepth 100000 in
theorem kd_X10_giver : Cond.code yX10_giver cX10_giver 3 (some .int) ∈ tb := tb_mem 690 rfl rfl
set_option maxRecDepth 100000 in
theorem km_X10_200 : Cond.methodLink RX10 200 yX5_givenBy ∈ tb := tb_mem 691 (by decide +kernel) rfl
set_option maxRecDepth 100000 in
theorem kj_X5_givenBy : Cond.instanceMethod yX5_givenBy ∈ tb := tb_mem 692 (by decide +kernel) rfl
set_option maxRecDepth 100000 in
theorem kl_X5_givenBy : Cond.selects RX5 yX5_givenBy yX5_givenBy ∈ tb := tb_mem 693 (by decide +kernel) rfl
set_option maxRecDepth 100000 in
theorem kd_X5_givenBy : Cond.code yX5_givenBy cX5_givenBy 4 (some .int) ∈ tb := tb_mem 694 rfl rfl
set_option maxRecDepth 100000 in
theorem km_X10_203 : Cond.methodLink RX10 203 yX5_unclaimedOf ∈ tb := tb_mem 695 (by decide +kernel) rfl
set_option maxRecDepth 100000 in
theorem kj_X5_unclaimedOf : Cond.instanceMethod yX5_unclaimedOf ∈ tb := tb_mem 696 (by decide +kernel) rfl
set_option maxRecDepth 100000 in
theorem kl_X5_unclaimedOf : Cond.selects RX5 yX5_unclaimedOf yX5_unclaimedOf ∈ tb := tb_mem 697 (by decide +kernel) rfl
set_option maxRecDepth 100000 in
theorem kd_X5_unclaimedOf : Cond.code yX5_unclaimedOf cX5_unclaimedOf 4 (some .int) ∈ tb := tb_mem 698 rfl rfl
set_option maxRecDepth 100000 in
theorem km_X10_206 : Cond.methodLink RX10 206 yX0_declaredFrom ∈ tb := tb_mem 699 (by decide +kernel) rfl
set_option maxRecDepth 100000 in
theorem kj_X0_declaredFrom : Cond.instanceMethod yX0_declaredFrom ∈ tb := tb_mem 700 (by decide +kernel) rfl
set_option maxRecDepth 100000 in
theorem kl_X0_declaredFrom : Cond.selects RX0 yX0_declaredFrom yX0_declaredFrom ∈ tb := tb_mem 701 (by decide +kernel) rfl
set_option maxRecDepth 100000 in
theorem kd_X0_declaredFrom : Cond.code yX0_declaredFrom cX0_declaredFrom 2 (some .int) ∈ tb := tb_mem 702 rfl rfl
set_option maxRecDepth 100000 in
theorem km_X10_209 : Cond.methodLink RX10 209 yX0_declaredTo ∈ tb := tb_mem 703 (by decide +kernel) rfl
set_option maxRecDepth 100000 in
theorem kj_X0_declaredTo : Cond.instanceMethod yX0_declaredTo ∈ tb := tb_mem 704 (by decide +kernel) rfl
set_option maxRecDepth 100000 in
theorem kl_X0_declaredTo : Cond.selects RX0 yX0_declaredTo yX0_declaredTo ∈ tb := tb_mem 705 (by decide +kernel) rfl
set_option maxRecDepth 100000 in
theorem kd_X0_declaredTo : Cond.code yX0_declaredTo cX0_declaredTo 2 (some .int) ∈ tb := tb_mem 706 rfl rfl
set_option maxRecDepth 100000 in
theorem km_X10_212 : Cond.methodLink RX10 212 yX0_isWithoutName ∈ tb := tb_mem 707 (by decide +kernel) rfl
set_option maxRecDepth 100000 in
theorem kj_X0_isWithoutName : Cond.instanceMethod yX0_isWithoutName ∈ tb := tb_mem 708 (by decide +kernel) rfl
set_option maxRecDepth 100000 in
theorem kl_X0_isWithoutName : Cond.selects RX0 yX0_isWithoutName yX0_isWithoutName ∈ tb := tb_mem 709 (by decide +kernel) rfl
set_option maxRecDepth 100000 in
theorem kd_X0_isWithoutName : Cond.code yX0_isWithoutName cX0_isWithoutName 2 (some .boolean) ∈ tb := tb_mem 710 rfl rfl
set_option maxRecDepth 100000 in
theorem km_L_79 : Cond.methodLink RL 79 yX10_stage ∈ tb := tb_mem 711 (by decide +kernel) rfl
set_option maxRecDepth 100000 in
theorem kj_X10_stage : Cond.instanceMethod yX10_stage ∈ tb := tb_mem 712 (by decide +kernel) rfl
set_option maxRecDepth 100000 in
theorem kl_X10_stage : Cond.selects RX10 yX10_stage yX10_stage ∈ tb := tb_mem 713 (by decide +kernel) rfl
set_option maxRecDepth 100000 in
theorem kd_X10_stage : Cond.code yX10_stage cX10_stage 3 (some .int) ∈ tb := tb_mem 714 rfl rfl
set_option maxRecDepth 100000 in
theorem kk_X10_215 : Cond.constant RX10 215 (100000000 : Int32) ∈ tb := tb_mem 715 (by decide +kernel) rfl
set_option maxRecDepth 100000 in
theorem km_X10_216 : Cond.methodLink RX10 216 yX7_isFull ∈ tb := tb_mem 716 (by decide +kernel) rfl
set_option maxRecDepth 100000 in
theorem kj_X7_isFull : Cond.instanceMethod yX7_isFull ∈ tb := tb_mem 717 (by decide +kernel) rfl
set_option maxRecDepth 100000 in
theorem kl_X7_isFull : Cond.selects RX7 yX7_isFull yX7_isFull ∈ tb := tb_mem 718 (by decide +kernel) rfl
set_option maxRecDepth 100000 in
theorem kd_X7_isFull : Cond.code yX7_isFull cX7_isFull 1 (some .boolean) ∈ tb := tb_mem 719 rfl rfl
set_option maxRecDepth 100000 in
theorem kc_X10_217 : Cond.classLink RX10 217 RX4 ∈ tb := tb_mem 720 (by decide +kernel) rfl
set_option maxRecDepth 100000 in
theorem kn_X4 : Cond.instantiable RX4 6 ∈ tb := tb_mem 721 (by decide +kernel) rfl
set_option maxRecDepth 100000 in
theorem km_X10_219 : Cond.methodLink RX10 219 yX4_init ∈ tb := tb_mem 722 (by decide +kernel) rfl
set_option maxRecDepth 100000 in
theorem kj_X4_init : Cond.instanceMethod yX4_init ∈ tb := tb_mem 723 (by decide +kernel) rfl
set_option maxRecDepth 100000 in
theorem kd_X4_init : Cond.code yX4_init cX4_init 3 none ∈ tb := tb_mem 724 rfl rfl
set_option maxRecDepth 100000 in
theorem km_X4_1 : Cond.methodLink RX4 1 objectInit ∈ tb := tb_mem 725 (by decide +kernel) rfl
set_option maxRecDepth 100000 in
theorem kf_X4_13 : Cond.fieldLink RX4 13 "TowerAppeal$Stage" "cost" "I" ∈ tb := tb_mem 726 (by decide +kernel) rfl
set_option maxRecDepth 100000 in
theorem kf_X4_16 : Cond.fieldLink RX4 16 "TowerAppeal$Stage" "parts" "I" ∈ tb := tb_mem 727 (by decide +kernel) rfl
set_option maxRecDepth 100000 in
theorem kf_X4_9 : Cond.fieldLink RX4 9 "TowerAppeal$Stage" "progress" "I" ∈ tb := tb_mem 728 (by decide +kernel) rfl
set_option maxRecDepth 100000 in
theorem kf_X4_25 : Cond.fieldLink RX4 25 "TowerAppeal$Stage" "partsPaid" "I" ∈ tb := tb_mem 729 (by decide +kernel) rfl
set_option maxRecDepth 100000 in
theorem kf_X4_19 : Cond.fieldLink RX4 19 "TowerAppeal$Stage" "paid" "I" ∈ tb := tb_mem 730 (by decide +kernel) rfl
set_option maxRecDepth 100000 in
theorem kf_X4_22 : Cond.fieldLink RX4 22 "TowerAppeal$Stage" "paused" "I" ∈ tb := tb_mem 731 (by decide +kernel) rfl
set_option maxRecDepth 100000 in
theorem ku_X4 : Cond.superclass RX4 "java/lang/Object" ∈ tb := tb_mem 744 (by decide +kernel) rfl
set_option maxRecDepth 100000 in
theorem km_X10_221 : Cond.methodLink RX10 221 yX7_add ∈ tb := tb_mem 745 (by decide +kernel) rfl
set_option maxRecDepth 100000 in
theorem kj_X7_add : Cond.instanceMethod yX7_add ∈ tb := tb_mem 746 (by decide +kernel) rfl
set_option maxRecDepth 100000 in
theorem kl_X7_add : Cond.selects RX7 yX7_add yX7_add ∈ tb := tb_mem 747 (by decide +kernel) rfl
set_option maxRecDepth 100000 in
theorem kd_X7_add : Cond.code yX7_add cX7_add 2 (some .int) ∈ tb := tb_mem 748 rfl rfl
set_option maxRecDepth 100000 in
theorem km_L_83 : Cond.methodLink RL 83 yX10_begin ∈ tb := tb_mem 749 (by decide +kernel) rfl
set_option maxRecDepth 100000 in
theorem kj_X10_begin : Cond.instanceMethod yX10_begin ∈ tb := tb_mem 750 (by decide +kernel) rfl
set_option maxRecDepth 100000 in
theorem kl_X10_begin : Cond.selects RX10 yX10_begin yX10_begin ∈ tb := tb_mem 751 (by decide +kernel) rfl
set_option maxRecDepth 100000 in
theorem kd_X10_begin : Cond.code yX10_begin cX10_begin 1 (some .int) ∈ tb := tb_mem 752 rfl rfl
set_option maxRecDepth 100000 in
theorem km_X10_224 : Cond.methodLink RX10 224 yX7_mayStartNext ∈ tb := tb_mem 753 (by decide +kernel) rfl
set_option maxRecDepth 100000 in
theorem kj_X7_mayStartNext : Cond.instanceMethod yX7_mayStartNext ∈ tb := tb_mem 754 (by decide +kernel) rfl
set_option maxRecDepth 100000 in
theorem kl_X7_mayStartNext : Cond.selects RX7 yX7_mayStartNext yX7_mayStartNext ∈ tb := tb_mem 755 (by decide +kernel) rfl
set_option maxRecDepth 100000 in
theorem kd_X7_mayStartNext : Cond.code yX7_mayStartNext cX7_mayStartNext 1 (some .boolean) ∈ tb := tb_mem 756 rfl rfl
set_option maxRecDepth 100000 in
theorem km_X7_32 : Cond.methodLink RX7 32 yX7_running ∈ tb := tb_mem 757 (by decide +kernel) rfl
set_option maxRecDepth 100000 in
theorem kj_X7_running : Cond.instanceMethod yX7_running ∈ tb := tb_mem 759 (by decide +kernel) rfl
set_option maxRecDepth 100000 in
theorem kd_X7_running : Cond.code yX7_running cX7_running 2 (some (.object "TowerAppeal$Stage")) ∈ tb := tb_mem 760 rfl rfl
set_option maxRecDepth 100000 in
theorem km_X7_24 : Cond.methodLink RX7 24 yX7_at ∈ tb := tb_mem 761 (by decide +kernel) rfl
set_option maxRecDepth 100000 in
theorem kj_X7_at : Cond.instanceMethod yX7_at ∈ tb := tb_mem 762 (by decide +kernel) rfl
set_option maxRecDepth 100000 in
theorem kl_X7_at : Cond.selects RX7 yX7_at yX7_at ∈ tb := tb_mem 763 (by decide +kernel) rfl
set_option maxRecDepth 100000 in
theorem kd_X7_at : Cond.code yX7_at cX7_at 2 (some (.object "TowerAppeal$Stage")) ∈ tb := tb_mem 764 rfl rfl
end
section
set_option maxRecDepth 100000 in
theorem km_X7_28 : Cond.methodLink RX7 28 yX4_runs ∈ tb := tb_mem 765 (by decide +kernel) rfl
set_option maxRecDepth 100000 in
theorem kj_X4_runs : Cond.instanceMethod yX4_runs ∈ tb := tb_mem 766 (by decide +kernel) rfl
set_option maxRecDepth 100000 in
theorem kl_X4_runs : Cond.selects RX4 yX4_runs yX4_runs ∈ tb := tb_mem 767 (by decide +kernel) rfl
set_option maxRecDepth 100000 in
theorem kd_X4_runs : Cond.code yX4_runs cX4_runs 1 (some .boolean) ∈ tb := tb_mem 768 rfl rfl
set_option maxRecDepth 100000 in
theorem km_X10_227 : Cond.methodLink RX10 227 yX7_startNext ∈ tb := tb_mem 769 (by decide +kernel) rfl
set_option maxRecDepth 100000 in
theorem kj_X7_startNext : Cond.instanceMethod yX7_startNext ∈ tb := tb_mem 770 (by decide +kernel) rfl
set_option maxRecDepth 100000 in
theorem kl_X7_startNext : Cond.selects RX7 yX7_startNext yX7_startNext ∈ tb := tb_mem 771 (by decide +kernel) rfl
set_option maxRecDepth 100000 in
theorem kd_X7_startNext : Cond.code yX7_startNext cX7_startNext 2 (some .int) ∈ tb := tb_mem 772 rfl rfl
set_option maxRecDepth 100000 in
theorem km_X7_36 : Cond.methodLink RX7 36 yX4_start ∈ tb := tb_mem 773 (by decide +kernel) rfl
set_option maxRecDepth 100000 in
theorem kj_X4_start : Cond.instanceMethod yX4_start ∈ tb := tb_mem 774 (by decide +kernel) rfl
set_option maxRecDepth 100000 in
theorem kl_X4_start : Cond.selects RX4 yX4_start yX4_start ∈ tb := tb_mem 775 (by decide +kernel) rfl
set_option maxRecDepth 100000 in
theorem kd_X4_start : Cond.code yX4_start cX4_start 1 none ∈ tb := tb_mem 776 rfl rfl
set_option maxRecDepth 100000 in
theorem km_L_87 : Cond.methodLink RL 87 yX10_built ∈ tb := tb_mem 777 (by decide +kernel) rfl
set_option maxRecDepth 100000 in
theorem kj_X10_built : Cond.instanceMethod yX10_built ∈ tb := tb_mem 778 (by decide +kernel) rfl
set_option maxRecDepth 100000 in
theorem kl_X10_built : Cond.selects RX10 yX10_built yX10_built ∈ tb := tb_mem 779 (by decide +kernel) rfl
set_option maxRecDepth 100000 in
theorem kd_X10_built : Cond.code yX10_built cX10_built 4 (some .int) ∈ tb := tb_mem 780 rfl rfl
set_option maxRecDepth 100000 in
theorem km_X10_230 : Cond.methodLink RX10 230 yX7_at ∈ tb := tb_mem 781 (by decide +kernel) rfl
set_option maxRecDepth 100000 in
theorem km_X10_233 : Cond.methodLink RX10 233 yX4_cost ∈ tb := tb_mem 782 (by decide +kernel) rfl
set_option maxRecDepth 100000 in
theorem kj_X4_cost : Cond.instanceMethod yX4_cost ∈ tb := tb_mem 783 (by decide +kernel) rfl
set_option maxRecDepth 100000 in
theorem kl_X4_cost : Cond.selects RX4 yX4_cost yX4_cost ∈ tb := tb_mem 784 (by decide +kernel) rfl
set_option maxRecDepth 100000 in
theorem kd_X4_cost : Cond.code yX4_cost cX4_cost 1 (some .int) ∈ tb := tb_mem 785 rfl rfl
set_option maxRecDepth 100000 in
theorem km_X10_236 : Cond.methodLink RX10 236 yX4_parts ∈ tb := tb_mem 786 (by decide +kernel) rfl
set_option maxRecDepth 100000 in
theorem kj_X4_parts : Cond.instanceMethod yX4_parts ∈ tb := tb_mem 787 (by decide +kernel) rfl
set_option maxRecDepth 100000 in
theorem kl_X4_parts : Cond.selects RX4 yX4_parts yX4_parts ∈ tb := tb_mem 788 (by decide +kernel) rfl
set_option maxRecDepth 100000 in
theorem kd_X4_parts : Cond.code yX4_parts cX4_parts 1 (some .int) ∈ tb := tb_mem 789 rfl rfl
set_option maxRecDepth 100000 in
theorem km_X10_239 : Cond.methodLink RX10 239 yX4_progress ∈ tb := tb_mem 790 (by decide +kernel) rfl
set_option maxRecDepth 100000 in
theorem kj_X4_progress : Cond.instanceMethod yX4_progress ∈ tb := tb_mem 791 (by decide +kernel) rfl
set_option maxRecDepth 100000 in
theorem kl_X4_progress : Cond.selects RX4 yX4_progress yX4_progress ∈ tb := tb_mem 792 (by decide +kernel) rfl
set_option maxRecDepth 100000 in
theorem kd_X4_progress : Cond.code yX4_progress cX4_progress 1 (some .int) ∈ tb := tb_mem 793 rfl rfl
set_option maxRecDepth 100000 in
theorem km_X10_242 : Cond.methodLink RX10 242 yX4_paid ∈ tb := tb_mem 794 (by decide +kernel) rfl
set_option maxRecDepth 100000 in
theorem kj_X4_paid : Cond.instanceMethod yX4_paid ∈ tb := tb_mem 795 (by decide +kernel) rfl
set_option maxRecDepth 100000 in
theorem kl_X4_paid : Cond.selects RX4 yX4_paid yX4_paid ∈ tb := tb_mem 796 (by decide +kernel) rfl
set_option maxRecDepth 100000 in
theorem kd_X4_paid : Cond.code yX4_paid cX4_paid 1 (some .int) ∈ tb := tb_mem 797 rfl rfl
set_option maxRecDepth 100000 in
theorem km_X10_245 : Cond.methodLink RX10 245 yX4_paused ∈ tb := tb_mem 798 (by decide +kernel) rfl
set_option maxRecDepth 100000 in
theorem kj_X4_paused : Cond.instanceMethod yX4_paused ∈ tb := tb_mem 799 (by decide +kernel) rfl
set_option maxRecDepth 100000 in
theorem kl_X4_paused : Cond.selects RX4 yX4_paused yX4_paused ∈ tb := tb_mem 800 (by decide +kernel) rfl
set_option maxRecDepth 100000 in
theorem kd_X4_paused : Cond.code yX4_paused cX4_paused 1 (some .int) ∈ tb := tb_mem 801 rfl rfl
set_option maxRecDepth 100000 in
theorem km_L_91 : Cond.methodLink RL 91 yX10_months ∈ tb := tb_mem 802 (by decide +kernel) rfl
set_option maxRecDepth 100000 in
theorem kj_X10_months : Cond.instanceMethod yX10_months ∈ tb := tb_mem 803 (by decide +kernel) rfl
set_option maxRecDepth 100000 in
theorem kl_X10_months : Cond.selects RX10 yX10_months yX10_months ∈ tb := tb_mem 804 (by decide +kernel) rfl
set_option maxRecDepth 100000 in
theorem kd_X10_months : Cond.code yX10_months cX10_months 3 (some .int) ∈ tb := tb_mem 805 rfl rfl
set_option maxRecDepth 100000 in
theorem km_X10_248 : Cond.methodLink RX10 248 yX10_endMonth ∈ tb := tb_mem 806 (by decide +kernel) rfl
set_option maxRecDepth 100000 in
theorem kj_X10_endMonth : Cond.instanceMethod yX10_endMonth ∈ tb := tb_mem 808 (by decide +kernel) rfl
set_option maxRecDepth 100000 in
theorem kd_X10_endMonth : Cond.code yX10_endMonth cX10_endMonth 1 none ∈ tb := tb_mem 809 rfl rfl
set_option maxRecDepth 100000 in
theorem km_X10_314 : Cond.methodLink RX10 314 yX8_lapseDues ∈ tb := tb_mem 810 (by decide +kernel) rfl
set_option maxRecDepth 100000 in
theorem kj_X8_lapseDues : Cond.instanceMethod yX8_lapseDues ∈ tb := tb_mem 811 (by decide +kernel) rfl
set_option maxRecDepth 100000 in
theorem kl_X8_lapseDues : Cond.selects RX8 yX8_lapseDues yX8_lapseDues ∈ tb := tb_mem 812 (by decide +kernel) rfl
set_option maxRecDepth 100000 in
theorem kd_X8_lapseDues : Cond.code yX8_lapseDues cX8_lapseDues 1 (some .int) ∈ tb := tb_mem 813 rfl rfl
set_option maxRecDepth 100000 in
theorem km_X10_317 : Cond.methodLink RX10 317 yX2_lapseAll ∈ tb := tb_mem 814 (by decide +kernel) rfl
set_option maxRecDepth 100000 in
theorem kj_X2_lapseAll : Cond.instanceMethod yX2_lapseAll ∈ tb := tb_mem 815 (by decide +kernel) rfl
set_option maxRecDepth 100000 in
theorem kl_X2_lapseAll : Cond.selects RX2 yX2_lapseAll yX2_lapseAll ∈ tb := tb_mem 816 (by decide +kernel) rfl
set_option maxRecDepth 100000 in
theorem kd_X2_lapseAll : Cond.code yX2_lapseAll cX2_lapseAll 5 none ∈ tb := tb_mem 817 rfl rfl
set_option maxRecDepth 100000 in
theorem km_X2_21 : Cond.methodLink RX2 21 yX2_at ∈ tb := tb_mem 818 (by decide +kernel) rfl
set_option maxRecDepth 100000 in
theorem km_X2_29 : Cond.methodLink RX2 29 yX1_overdue ∈ tb := tb_mem 819 (by decide +kernel) rfl
set_option maxRecDepth 100000 in
theorem km_X2_33 : Cond.methodLink RX2 33 yX1_lapseIn ∈ tb := tb_mem 820 (by decide +kernel) rfl
set_option maxRecDepth 100000 in
theorem kj_X1_lapseIn : Cond.instanceMethod yX1_lapseIn ∈ tb := tb_mem 821 (by decide +kernel) rfl
set_option maxRecDepth 100000 in
theorem kl_X1_lapseIn : Cond.selects RX1 yX1_lapseIn yX1_lapseIn ∈ tb := tb_mem 822 (by decide +kernel) rfl
set_option maxRecDepth 100000 in
theorem kd_X1_lapseIn : Cond.code yX1_lapseIn cX1_lapseIn 3 none ∈ tb := tb_mem 823 rfl rfl
set_option maxRecDepth 100000 in
theorem km_X10_320 : Cond.methodLink RX10 320 yX8_loanThousandths ∈ tb := tb_mem 824 (by decide +kernel) rfl
set_option maxRecDepth 100000 in
theorem kj_X8_loanThousandths : Cond.instanceMethod yX8_loanThousandths ∈ tb := tb_mem 825 (by decide +kernel) rfl
set_option maxRecDepth 100000 in
theorem kl_X8_loanThousandths : Cond.selects RX8 yX8_loanThousandths yX8_loanThousandths ∈ tb := tb_mem 826 (by decide +kernel) rfl
set_option maxRecDepth 100000 in
theorem kd_X8_loanThousandths : Cond.code yX8_loanThousandths cX8_loanThousandths 1 (some .int) ∈ tb := tb_mem 827 rfl rfl
set_option maxRecDepth 100000 in
theorem km_X10_323 : Cond.methodLink RX10 323 yX3_growLoan ∈ tb := tb_mem 828 (by decide +kernel) rfl
set_option maxRecDepth 100000 in
theorem kj_X3_growLoan : Cond.instanceMethod yX3_growLoan ∈ tb := tb_mem 829 (by decide +kernel) rfl
set_option maxRecDepth 100000 in
theorem kl_X3_growLoan : Cond.selects RX3 yX3_growLoan yX3_growLoan ∈ tb := tb_mem 830 (by decide +kernel) rfl
set_option maxRecDepth 100000 in
theorem kd_X3_growLoan : Cond.code yX3_growLoan cX3_growLoan 4 none ∈ tb := tb_mem 831 rfl rfl
set_option maxRecDepth 100000 in
theorem kk_X3_51 : Cond.constantLong RX3 51 (1000 : Int64) ∈ tb := tb_mem 832 (by decide +kernel) rfl
set_option maxRecDepth 100000 in
theorem km_X10_326 : Cond.methodLink RX10 326 yX8_loanPence ∈ tb := tb_mem 833 (by decide +kernel) rfl
set_option maxRecDepth 100000 in
theorem kj_X8_loanPence : Cond.instanceMethod yX8_loanPence ∈ tb := tb_mem 834 (by decide +kernel) rfl
set_option maxRecDepth 100000 in
theorem kl_X8_loanPence : Cond.selects RX8 yX8_loanPence yX8_loanPence ∈ tb := tb_mem 835 (by decide +kernel) rfl
set_option maxRecDepth 100000 in
theorem kd_X8_loanPence : Cond.code yX8_loanPence cX8_loanPence 1 (some .int) ∈ tb := tb_mem 836 rfl rfl
set_option maxRecDepth 100000 in
theorem km_X10_329 : Cond.methodLink RX10 329 yX7_payPart ∈ tb := tb_mem 837 (by decide +kernel) rfl
set_option maxRecDepth 100000 in
theorem kj_X7_payPart : Cond.instanceMethod yX7_payPart ∈ tb := tb_mem 838 (by decide +kernel) rfl
set_option maxRecDepth 100000 in
theorem kl_X7_payPart : Cond.selects RX7 yX7_payPart yX7_payPart ∈ tb := tb_mem 839 (by decide +kernel) rfl
set_option maxRecDepth 100000 in
theorem kd_X7_payPart : Cond.code yX7_payPart cX7_payPart 5 none ∈ tb := tb_mem 840 rfl rfl
set_option maxRecDepth 100000 in
theorem km_X7_39 : Cond.methodLink RX7 39 yX4_nextPart ∈ tb := tb_mem 841 (by decide +kernel) rfl
set_option maxRecDepth 100000 in
theorem kj_X4_nextPart : Cond.instanceMethod yX4_nextPart ∈ tb := tb_mem 842 (by decide +kernel) rfl
set_option maxRecDepth 100000 in
theorem kl_X4_nextPart : Cond.selects RX4 yX4_nextPart yX4_nextPart ∈ tb := tb_mem 843 (by decide +kernel) rfl
set_option maxRecDepth 100000 in
theorem kd_X4_nextPart : Cond.code yX4_nextPart cX4_nextPart 1 (some .int) ∈ tb := tb_mem 844 rfl rfl
set_option maxRecDepth 100000 in
theorem km_X7_43 : Cond.methodLink RX7 43 yX3_paysPart ∈ tb := tb_mem 845 (by decide +kernel) rfl
set_option maxRecDepth 100000 in
theorem kj_X3_paysPart : Cond.instanceMethod yX3_paysPart ∈ tb := tb_mem 846 (by decide +kernel) rfl
set_option maxRecDepth 100000 in
theorem kl_X3_paysPart : Cond.selects RX3 yX3_paysPart yX3_paysPart ∈ tb := tb_mem 847 (by decide +kernel) rfl
set_option maxRecDepth 100000 in
theorem kd_X3_paysPart : Cond.code yX3_paysPart cX3_paysPart 7 (some .boolean) ∈ tb := tb_mem 848 rfl rfl
set_option maxRecDepth 100000 in
theorem km_X7_49 : Cond.methodLink RX7 49 yX4_bookPart ∈ tb := tb_mem 849 (by decide +kernel) rfl
set_option maxRecDepth 100000 in
theorem kj_X4_bookPart : Cond.instanceMethod yX4_bookPart ∈ tb := tb_mem 850 (by decide +kernel) rfl
set_option maxRecDepth 100000 in
theorem kl_X4_bookPart : Cond.selects RX4 yX4_bookPart yX4_bookPart ∈ tb := tb_mem 851 (by decide +kernel) rfl
set_option maxRecDepth 100000 in
theorem kd_X4_bookPart : Cond.code yX4_bookPart cX4_bookPart 2 none ∈ tb := tb_mem 852 rfl rfl
set_option maxRecDepth 100000 in
theorem km_X7_53 : Cond.methodLink RX7 53 yX4_bookPause ∈ tb := tb_mem 853 (by decide +kernel) rfl
set_option maxRecDepth 100000 in
theorem kj_X4_bookPause : Cond.instanceMethod yX4_bookPause ∈ tb := tb_mem 854 (by decide +kernel) rfl
set_option maxRecDepth 100000 in
theorem kl_X4_bookPause : Cond.selects RX4 yX4_bookPause yX4_bookPause ∈ tb := tb_mem 855 (by decide +kernel) rfl
set_option maxRecDepth 100000 in
theorem kd_X4_bookPause : Cond.code yX4_bookPause cX4_bookPause 1 none ∈ tb := tb_mem 856 rfl rfl
set_option maxRecDepth 100000 in
theorem km_X10_333 : Cond.methodLink RX10 333 yX3_payBackLoan ∈ tb := tb_mem 857 (by decide +kernel) rfl
set_option maxRecDepth 100000 in
theorem kj_X3_payBackLoan : Cond.instanceMethod yX3_payBackLoan ∈ tb := tb_mem 858 (by decide +kernel) rfl
set_option maxRecDepth 100000 in
theorem kl_X3_payBackLoan : Cond.selects RX3 yX3_payBackLoan yX3_payBackLoan ∈ tb := tb_mem 859 (by decide +kernel) rfl
set_option maxRecDepth 100000 in
theorem kd_X3_payBackLoan : Cond.code yX3_payBackLoan cX3_payBackLoan 3 none ∈ tb := tb_mem 860 rfl rfl
set_option maxRecDepth 100000 in
theorem km_L_95 : Cond.methodLink RL 95 yX10_sure ∈ tb := tb_mem 861 (by decide +kernel) rfl
set_option maxRecDepth 100000 in
theorem kj_X10_sure : Cond.instanceMethod yX10_sure ∈ tb := tb_mem 862 (by decide +kernel) rfl
set_option maxRecDepth 100000 in
theorem kl_X10_sure : Cond.selects RX10 yX10_sure yX10_sure ∈ tb := tb_mem 863 (by decide +kernel) rfl
set_option maxRecDepth 100000 in
theorem kd_X10_sure : Cond.code yX10_sure cX10_sure 2 (some .int) ∈ tb := tb_mem 864 rfl rfl
set_option maxRecDepth 100000 in
theorem km_X10_251 : Cond.methodLink RX10 251 yX2_sureWithin ∈ tb := tb_mem 865 (by decide +kernel) rfl
set_option maxRecDepth 100000 in
theorem kj_X2_sureWithin : Cond.instanceMethod yX2_sureWithin ∈ tb := tb_mem 866 (by decide +kernel) rfl
set_option maxRecDepth 100000 in
theorem kl_X2_sureWithin : Cond.selects RX2 yX2_sureWithin yX2_sureWithin ∈ tb := tb_mem 867 (by decide +kernel) rfl
set_option maxRecDepth 100000 in
theorem kd_X2_sureWithin : Cond.code yX2_sureWithin cX2_sureWithin 11 (some .int) ∈ tb := tb_mem 868 rfl rfl
set_option maxRecDepth 100000 in
theorem km_X2_37 : Cond.methodLink RX2 37 yX1_unfilledWithin ∈ tb := tb_mem 869 (by decide +kernel) rfl
set_option maxRecDepth 100000 in
theorem km_X2_41 : Cond.methodLink RX2 41 yX1_dueSoFar ∈ tb := tb_mem 870 (by decide +kernel) rfl
set_option maxRecDepth 100000 in
theorem kj_X1_dueSoFar : Cond.instanceMethod yX1_dueSoFar ∈ tb := tb_mem 871 (by decide +kernel) rfl
set_option maxRecDepth 100000 in
theorem kl_X1_dueSoFar : Cond.selects RX1 yX1_dueSoFar yX1_dueSoFar ∈ tb := tb_mem 872 (by decide +kernel) rfl
set_option maxRecDepth 100000 in
theorem kd_X1_dueSoFar : Cond.code yX1_dueSoFar cX1_dueSoFar 4 (some .int) ∈ tb := tb_mem 873 rfl rfl
set_option maxRecDepth 100000 in
theorem km_X2_44 : Cond.methodLink RX2 44 yX1_filledSoFar ∈ tb := tb_mem 874 (by decide +kernel) rfl
set_option maxRecDepth 100000 in
theorem kj_X1_filledSoFar : Cond.instanceMethod yX1_filledSoFar ∈ tb := tb_mem 875 (by decide +kernel) rfl
set_option maxRecDepth 100000 in
theorem kl_X1_filledSoFar : Cond.selects RX1 yX1_filledSoFar yX1_filledSoFar ∈ tb := tb_mem 876 (by decide +kernel) rfl
set_option maxRecDepth 100000 in
theorem kd_X1_filledSoFar : Cond.code yX1_filledSoFar cX1_filledSoFar 4 (some .int) ∈ tb := tb_mem 877 rfl rfl
set_option maxRecDepth 100000 in
theorem km_L_99 : Cond.methodLink RL 99 yX10_stone ∈ tb := tb_mem 878 (by decide +kernel) rfl
set_option maxRecDepth 100000 in
theorem kj_X10_stone : Cond.instanceMethod yX10_stone ∈ tb := tb_mem 879 (by decide +kernel) rfl
set_option maxRecDepth 100000 in
theorem kl_X10_stone : Cond.selects RX10 yX10_stone yX10_stone ∈ tb := tb_mem 880 (by decide +kernel) rfl
set_option maxRecDepth 100000 in
theorem kd_X10_stone : Cond.code yX10_stone cX10_stone 3 (some .int) ∈ tb := tb_mem 881 rfl rfl
set_option maxRecDepth 100000 in
theorem km_X10_254 : Cond.methodLink RX10 254 yX8_stonePence ∈ tb := tb_mem 882 (by decide +kernel) rfl
set_option maxRecDepth 100000 in
theorem kj_X8_stonePence : Cond.instanceMethod yX8_stonePence ∈ tb := tb_mem 883 (by decide +kernel) rfl
set_option maxRecDepth 100000 in
theorem kl_X8_stonePence : Cond.selects RX8 yX8_stonePence yX8_stonePence ∈ tb := tb_mem 884 (by decide +kernel) rfl
set_option maxRecDepth 100000 in
theorem kd_X8_stonePence : Cond.code yX8_stonePence cX8_stonePence 1 (some .int) ∈ tb := tb_mem 885 rfl rfl
set_option maxRecDepth 100000 in
theorem km_X10_257 : Cond.methodLink RX10 257 yX0_orderStones ∈ tb := tb_mem 886 (by decide +kernel) rfl
set_option maxRecDepth 100000 in
theorem kj_X0_orderStones : Cond.instanceMethod yX0_orderStones ∈ tb := tb_mem 887 (by decide +kernel) rfl
set_option maxRecDepth 100000 in
theorem kl_X0_orderStones : Cond.selects RX0 yX0_orderStones yX0_orderStones ∈ tb := tb_mem 888 (by decide +kernel) rfl
set_option maxRecDepth 100000 in
theorem kd_X0_orderStones : Cond.code yX0_orderStones cX0_orderStones 8 (some .int) ∈ tb := tb_mem 889 rfl rfl
set_option maxRecDepth 100000 in
theorem km_X0_35 : Cond.methodLink RX0 35 yX5_size ∈ tb := tb_mem 890 (by decide +kernel) rfl
set_option maxRecDepth 100000 in
theorem kj_X5_size : Cond.instanceMethod yX5_size ∈ tb := tb_mem 891 (by decide +kernel) rfl
set_option maxRecDepth 100000 in
theorem kl_X5_size : Cond.selects RX5 yX5_size yX5_size ∈ tb := tb_mem 892 (by decide +kernel) rfl
set_option maxRecDepth 100000 in
theorem kd_X5_size : Cond.code yX5_size cX5_size 1 (some .int) ∈ tb := tb_mem 893 rfl rfl
set_option maxRecDepth 100000 in
theorem km_X0_41 : Cond.methodLink RX0 41 yX5_giverOf ∈ tb := tb_mem 894 (by decide +kernel) rfl
set_option maxRecDepth 100000 in
theorem kj_X5_giverOf : Cond.instanceMethod yX5_giverOf ∈ tb := tb_mem 895 (by decide +kernel) rfl
set_option maxRecDepth 100000 in
theorem kl_X5_giverOf : Cond.selects RX5 yX5_giverOf yX5_giverOf ∈ tb := tb_mem 896 (by decide +kernel) rfl
set_option maxRecDepth 100000 in
theorem kd_X5_giverOf : Cond.code yX5_giverOf cX5_giverOf 2 (some .int) ∈ tb := tb_mem 897 rfl rfl
set_option maxRecDepth 100000 in
theorem km_X0_45 : Cond.methodLink RX0 45 yX5_penceOf ∈ tb := tb_mem 898 (by decide +kernel) rfl
set_option maxRecDepth 100000 in
theorem kj_X5_penceOf : Cond.instanceMethod yX5_penceOf ∈ tb := tb_mem 899 (by decide +kernel) rfl
set_option maxRecDepth 100000 in
theorem kl_X5_penceOf : Cond.selects RX5 yX5_penceOf yX5_penceOf ∈ tb := tb_mem 900 (by decide +kernel) rfl
set_option maxRecDepth 100000 in
theorem kd_X5_penceOf : Cond.code yX5_penceOf cX5_penceOf 2 (some .int) ∈ tb := tb_mem 901 rfl rfl
set_option maxRecDepth 100000 in
theorem km_X10_261 : Cond.methodLink RX10 261 yX0_ofStone ∈ tb := tb_mem 902 (by decide +kernel) rfl
set_option maxRecDepth 100000 in
theorem kj_X0_ofStone : Cond.instanceMethod yX0_ofStone ∈ tb := tb_mem 903 (by decide +kernel) rfl
set_option maxRecDepth 100000 in
theorem kl_X0_ofStone : Cond.selects RX0 yX0_ofStone yX0_ofStone ∈ tb := tb_mem 904 (by decide +kernel) rfl
set_option maxRecDepth 100000 in
theorem kd_X0_ofStone : Cond.code yX0_ofStone cX0_ofStone 2 (some .int) ∈ tb := tb_mem 905 rfl rfl
set_option maxRecDepth 100000 in
theorem km_L_103 : Cond.methodLink RL 103 yX10_stop ∈ tb := tb_mem 906 (by decide +kernel) rfl
set_option maxRecDepth 100000 in
theorem kj_X10_stop : Cond.instanceMethod yX10_stop ∈ tb := tb_mem 907 (by decide +kernel) rfl
set_option maxRecDepth 100000 in
theorem kl_X10_stop : Cond.selects RX10 yX10_stop yX10_stop ∈ tb := tb_mem 908 (by decide +kernel) rfl
set_option maxRecDepth 100000 in
theorem kd_X10_stop : Cond.code yX10_stop cX10_stop 2 (some .int) ∈ tb := tb_mem 909 rfl rfl
set_option maxRecDepth 100000 in
theorem km_X10_264 : Cond.methodLink RX10 264 yX3_coin ∈ tb := tb_mem 910 (by decide +kernel) rfl
set_option maxRecDepth 100000 in
theorem kj_X3_coin : Cond.instanceMethod yX3_coin ∈ tb := tb_mem 911 (by decide +kernel) rfl
set_option maxRecDepth 100000 in
theorem kl_X3_coin : Cond.selects RX3 yX3_coin yX3_coin ∈ tb := tb_mem 912 (by decide +kernel) rfl
set_option maxRecDepth 100000 in
theorem kd_X3_coin : Cond.code yX3_coin cX3_coin 1 (some .long) ∈ tb := tb_mem 913 rfl rfl
set_option maxRecDepth 100000 in
theorem km_X10_268 : Cond.methodLink RX10 268 yX8_givesAllBack ∈ tb := tb_mem 914 (by decide +kernel) rfl
set_option maxRecDepth 100000 in
theorem kj_X8_givesAllBack : Cond.instanceMethod yX8_givesAllBack ∈ tb := tb_mem 915 (by decide +kernel) rfl
set_option maxRecDepth 100000 in
theorem kl_X8_givesAllBack : Cond.selects RX8 yX8_givesAllBack yX8_givesAllBack ∈ tb := tb_mem 916 (by decide +kernel) rfl
set_option maxRecDepth 100000 in
theorem kd_X8_givesAllBack : Cond.code yX8_givesAllBack cX8_givesAllBack 1 (some .boolean) ∈ tb := tb_mem 917 rfl rfl
set_option maxRecDepth 100000 in
theorem km_X10_271 : Cond.methodLink RX10 271 yX0_partCoin ∈ tb := tb_mem 918 (by decide +kernel) rfl
set_option maxRecDepth 100000 in
theorem kj_X0_partCoin : Cond.instanceMethod yX0_partCoin ∈ tb := tb_mem 919 (by decide +kernel) rfl
set_option maxRecDepth 100000 in
theorem kl_X0_partCoin : Cond.selects RX0 yX0_partCoin yX0_partCoin ∈ tb := tb_mem 920 (by decide +kernel) rfl
set_option maxRecDepth 100000 in
theorem kd_X0_partCoin : Cond.code yX0_partCoin cX0_partCoin 11 (some .int) ∈ tb := tb_mem 921 rfl rfl
set_option maxRecDepth 100000 in
theorem km_X0_48 : Cond.methodLink RX0 48 yX5_total ∈ tb := tb_mem 922 (by decide +kernel) rfl
set_option maxRecDepth 100000 in
theorem kj_X5_total : Cond.instanceMethod yX5_total ∈ tb := tb_mem 923 (by decide +kernel) rfl
set_option maxRecDepth 100000 in
theorem kl_X5_total : Cond.selects RX5 yX5_total yX5_total ∈ tb := tb_mem 924 (by decide +kernel) rfl
set_option maxRecDepth 100000 in
theorem kd_X5_total : Cond.code yX5_total cX5_total 1 (some .long) ∈ tb := tb_mem 925 rfl rfl
set_option maxRecDepth 100000 in
theorem km_X0_52 : Cond.methodLink RX0 52 yX5_givenBy ∈ tb := tb_mem 926 (by decide +kernel) rfl
set_option maxRecDepth 100000 in
theorem km_X10_275 : Cond.methodLink RX10 275 yX3_giveBack ∈ tb := tb_mem 927 (by decide +kernel) rfl
set_option maxRecDepth 100000 in
theorem kj_X3_giveBack : Cond.instanceMethod yX3_giveBack ∈ tb := tb_mem 928 (by decide +kernel) rfl
set_option maxRecDepth 100000 in
theorem kl_X3_giveBack : Cond.selects RX3 yX3_giveBack yX3_giveBack ∈ tb := tb_mem 929 (by decide +kernel) rfl
set_option maxRecDepth 100000 in
theorem kd_X3_giveBack : Cond.code yX3_giveBack cX3_giveBack 2 none ∈ tb := tb_mem 930 rfl rfl
set_option maxRecDepth 100000 in
theorem km_L_107 : Cond.methodLink RL 107 yX10_back ∈ tb := tb_mem 931 (by decide +kernel) rfl
set_option maxRecDepth 100000 in
theorem kj_X10_back : Cond.instanceMethod yX10_back ∈ tb := tb_mem 932 (by decide +kernel) rfl
set_option maxRecDepth 100000 in
theorem kl_X10_back : Cond.selects RX10 yX10_back yX10_back ∈ tb := tb_mem 933 (by decide +kernel) rfl
set_option maxRecDepth 100000 in
theorem kd_X10_back : Cond.code yX10_back cX10_back 2 (some .int) ∈ tb := tb_mem 934 rfl rfl
set_option maxRecDepth 100000 in
theorem km_X10_278 : Cond.methodLink RX10 278 yX0_gotBack ∈ tb := tb_mem 935 (by decide +kernel) rfl
set_option maxRecDepth 100000 in
theorem kj_X0_gotBack : Cond.instanceMethod yX0_gotBack ∈ tb := tb_mem 936 (by decide +kernel) rfl
set_option maxRecDepth 100000 in
theorem kl_X0_gotBack : Cond.selects RX0 yX0_gotBack yX0_gotBack ∈ tb := tb_mem 937 (by decide +kernel) rfl
set_option maxRecDepth 100000 in
theorem kd_X0_gotBack : Cond.code yX0_gotBack cX0_gotBack 2 (some .int) ∈ tb := tb_mem 938 rfl rfl
set_option maxRecDepth 100000 in
theorem km_L_111 : Cond.methodLink RL 111 yX10_count ∈ tb := tb_mem 939 (by decide +kernel) rfl
set_option maxRecDepth 100000 in
theorem kj_X10_count : Cond.instanceMethod yX10_count ∈ tb := tb_mem 940 (by decide +kernel) rfl
set_option maxRecDepth 100000 in
theorem kl_X10_count : Cond.selects RX10 yX10_count yX10_count ∈ tb := tb_mem 941 (by decide +kernel) rfl
set_option maxRecDepth 100000 in
theorem kd_X10_count : Cond.code yX10_count cX10_count 2 (some .int) ∈ tb := tb_mem 942 rfl rfl
set_option maxRecDepth 100000 in
theorem km_X10_281 : Cond.methodLink RX10 281 yX3_loan ∈ tb := tb_mem 943 (by decide +kernel) rfl
set_option maxRecDepth 100000 in
theorem kj_X3_loan : Cond.instanceMethod yX3_loan ∈ tb := tb_mem 944 (by decide +kernel) rfl
set_option maxRecDepth 100000 in
theorem kl_X3_loan : Cond.selects RX3 yX3_loan yX3_loan ∈ tb := tb_mem 945 (by decide +kernel) rfl
set_option maxRecDepth 100000 in
theorem kd_X3_loan : Cond.code yX3_loan cX3_loan 1 (some .long) ∈ tb := tb_mem 946 rfl rfl
set_option maxRecDepth 100000 in
theorem km_X10_284 : Cond.methodLink RX10 284 yX5_total ∈ tb := tb_mem 947 (by decide +kernel) rfl
set_option maxRecDepth 100000 in
theorem km_X10_287 : Cond.methodLink RX10 287 yX3_matched ∈ tb := tb_mem 948 (by decide +kernel) rfl
set_option maxRecDepth 100000 in
theorem kj_X3_matched : Cond.instanceMethod yX3_matched ∈ tb := tb_mem 949 (by decide +kernel) rfl
set_option maxRecDepth 100000 in
theorem kl_X3_matched : Cond.selects RX3 yX3_matched yX3_matched ∈ tb := tb_mem 950 (by decide +kernel) rfl
set_option maxRecDepth 100000 in
theorem kd_X3_matched : Cond.code yX3_matched cX3_matched 1 (some .long) ∈ tb := tb_mem 951 rfl rfl
set_option maxRecDepth 100000 in
theorem km_X10_290 : Cond.methodLink RX10 290 yX3_tax ∈ tb := tb_mem 952 (by decide +kernel) rfl
set_option maxRecDepth 100000 in
theorem kj_X3_tax : Cond.instanceMethod yX3_tax ∈ tb := tb_mem 953 (by decide +kernel) rfl
set_option maxRecDepth 100000 in
theorem kl_X3_tax : Cond.selects RX3 yX3_tax yX3_tax ∈ tb := tb_mem 954 (by decide +kernel) rfl
set_option maxRecDepth 100000 in
theorem kd_X3_tax : Cond.code yX3_tax cX3_tax 1 (some .long) ∈ tb := tb_mem 955 rfl rfl
set_option maxRecDepth 100000 in
theorem km_X10_293 : Cond.methodLink RX10 293 yX3_paidForStages ∈ tb := tb_mem 956 (by decide +kernel) rfl
set_option maxRecDepth 100000 in
theorem kj_X3_paidForStages : Cond.instanceMethod yX3_paidForStages ∈ tb := tb_mem 957 (by decide +kernel) rfl
set_option maxRecDepth 100000 in
theorem kl_X3_paidForStages : Cond.selects RX3 yX3_paidForStages yX3_paidForStages ∈ tb := tb_mem 958 (by decide +kernel) rfl
set_option maxRecDepth 100000 in
theorem kd_X3_paidForStages : Cond.code yX3_paidForStages cX3_paidForStages 1 (some .long) ∈ tb := tb_mem 959 rfl rfl
set_option maxRecDepth 100000 in
theorem km_X10_296 : Cond.methodLink RX10 296 yX3_grown ∈ tb := tb_mem 960 (by decide +kernel) rfl
set_option maxRecDepth 100000 in
theorem kj_X3_grown : Cond.instanceMethod yX3_grown ∈ tb := tb_mem 961 (by decide +kernel) rfl
set_option maxRecDepth 100000 in
theorem kl_X3_grown : Cond.selects RX3 yX3_grown yX3_grown ∈ tb := tb_mem 962 (by decide +kernel) rfl
set_option maxRecDepth 100000 in
theorem kd_X3_grown : Cond.code yX3_grown cX3_grown 1 (some .long) ∈ tb := tb_mem 963 rfl rfl
set_option maxRecDepth 100000 in
theorem km_X10_299 : Cond.methodLink RX10 299 yX2_size ∈ tb := tb_mem 964 (by decide +kernel) rfl
set_option maxRecDepth 100000 in
theorem kj_X2_size : Cond.instanceMethod yX2_size ∈ tb := tb_mem 965 (by decide +kernel) rfl
set_option maxRecDepth 100000 in
theorem kl_X2_size : Cond.selects RX2 yX2_size yX2_size ∈ tb := tb_mem 966 (by decide +kernel) rfl
set_option maxRecDepth 100000 in
theorem kd_X2_size : Cond.code yX2_size cX2_size 1 (some .int) ∈ tb := tb_mem 967 rfl rfl
set_option maxRecDepth 100000 in
theorem km_X10_302 : Cond.methodLink RX10 302 yX2_lapsedNow ∈ tb := tb_mem 968 (by decide +kernel) rfl
set_option maxRecDepth 100000 in
theorem kj_X2_lapsedNow : Cond.instanceMethod yX2_lapsedNow ∈ tb := tb_mem 969 (by decide +kernel) rfl
set_option maxRecDepth 100000 in
theorem kl_X2_lapsedNow : Cond.selects RX2 yX2_lapsedNow yX2_lapsedNow ∈ tb := tb_mem 970 (by decide +kernel) rfl
set_option maxRecDepth 100000 in
theorem kd_X2_lapsedNow : Cond.code yX2_lapsedNow cX2_lapsedNow 4 (some .int) ∈ tb := tb_mem 971 rfl rfl
set_option maxRecDepth 100000 in
theorem km_X2_25 : Cond.methodLink RX2 25 yX1_isLapsed ∈ tb := tb_mem 972 (by decide +kernel) rfl
set_option maxRecDepth 100000 in
theorem km_X10_305 : Cond.methodLink RX10 305 yX7_size ∈ tb := tb_mem 973 (by decide +kernel) rfl
set_option maxRecDepth 100000 in
theorem kj_X7_size : Cond.instanceMethod yX7_size ∈ tb := tb_mem 974 (by decide +kernel) rfl
set_option maxRecDepth 100000 in
theorem kl_X7_size : Cond.selects RX7 yX7_size yX7_size ∈ tb := tb_mem 975 (by decide +kernel) rfl
set_option maxRecDepth 100000 in
theorem kd_X7_size : Cond.code yX7_size cX7_size 1 (some .int) ∈ tb := tb_mem 976 rfl rfl
set_option maxRecDepth 100000 in
theorem km_X10_306 : Cond.methodLink RX10 306 yX5_size ∈ tb := tb_mem 977 (by decide +kernel) rfl
set_option maxRecDepth 100000 in
theorem kc_L_10 : Cond.classLink RL 10 RX12 ∈ tb := tb_mem 978 (by decide +kernel) rfl
set_option maxRecDepth 100000 in
theorem kn_X12 : Cond.instantiable RX12 53 ∈ tb := tb_mem 979 (by decide +kernel) rfl
set_option maxRecDepth 100000 in
theorem km_L_12 : Cond.methodLink RL 12 yX12_init ∈ tb := tb_mem 980 (by decide +kernel) rfl
set_option maxRecDepth 100000 in
theorem kj_X12_init : Cond.instanceMethod yX12_init ∈ tb := tb_mem 981 (by decide +kernel) rfl
set_option maxRecDepth 100000 in
theorem kd_X12_init : Cond.code yX12_init cX12_init 2 none ∈ tb := tb_mem 982 rfl rfl
set_option maxRecDepth 100000 in
theorem km_X12_109 : Cond.methodLink RX12 109 objectInit ∈ tb := tb_mem 983 (by decide +kernel) rfl
set_option maxRecDepth 100000 in
theorem kc_X12_117 : Cond.classLink RX12 117 RX11 ∈ tb := tb_mem 984 (by decide +kernel) rfl
set_option maxRecDepth 100000 in
theorem kn_X11 : Cond.instantiable RX11 6 ∈ tb := tb_mem 985 (by decide +kernel) rfl
set_option maxRecDepth 100000 in
theorem kf_H_198 : Cond.fieldLink RH 198 "java/lang/Throwable" "backtrace" "Ljava/lang/Object;" ∈ tb := tb_mem 1003 (by decide +kernel) rfl
set_option maxRecDepth 100000 in
theorem ku_H : Cond.superclass RH "java/lang/Object" ∈ tb := tb_mem 1004 (by decide +kernel) rfl
set_option maxRecDepth 100000 in
theorem kj_q1005 : Cond.instanceMethod ⟨"java/lang/Throwable", "<init>", "()V"⟩ ∈ tb := tb_mem 1005 (by decide +kernel) rfl
set_option maxRecDepth 100000 in
theorem km_H_1 : Cond.methodLink RH 1 objectInit ∈ tb := tb_mem 1007 (by decide +kernel) rfl
set_option maxRecDepth 100000 in
theorem kf_H_13 : Cond.fieldLink RH 13 "java/lang/Throwable" "UNASSIGNED_STACK" "[Ljava/lang/StackTraceElement;" ∈ tb := tb_mem 1008 (by decide +kernel) rfl
set_option maxRecDepth 100000 in
theorem kf_H_20 : Cond.fieldLink RH 20 "java/lang/Throwable" "SUPPRESSED_SENTINEL" "Ljava/util/List;" ∈ tb := tb_mem 1010 (by decide +kernel) rfl
set_option maxRecDepth 100000 in
theorem km_H_27 : Cond.methodLink RH 27 ⟨"java/lang/Throwable", "fillInStackTrace", "()Ljava/lang/Throwable;"⟩ ∈ tb := tb_mem 1012 (by decide +kernel) rfl
set_option maxRecDepth 100000 in
theorem kj_q1013 : Cond.instanceMethod ⟨"java/lang/Throwable", "fillInStackTrace", "()Ljava/lang/Throwable;"⟩ ∈ tb := tb_mem 1013 (by decide +kernel) rfl
set_option maxRecDepth 100000 in
theorem km_H_202 : Cond.methodLink RH 202 ⟨"java/lang/Throwable", "fillInStackTrace", "(I)Ljava/lang/Throwable;"⟩ ∈ tb := tb_mem 1016 (by decide +kernel) rfl
set_option maxRecDepth 100000 in
theorem kj_q1018 : Cond.instanceMethod ⟨"java/lang/Throwable", "fillInStackTrace", "(I)Ljava/lang/Throwable;"⟩ ∈ tb := tb_mem 1018 (by decide +kernel) rfl
set_option maxRecDepth 100000 in
theorem kn_H : Cond.instantiable RH 6 ∈ tb := tb_mem 1019 (by decide +kernel) rfl
set_option maxRecDepth 100000 in
theorem kv_q1020 : Cond.native ⟨"java/lang/Throwable", "fillInStackTrace", "(I)Ljava/lang/Throwable;"⟩ ∈ tb := tb_mem 1020 (by decide +kernel) rfl
set_option maxRecDepth 100000 in
theorem km_X12_119 : Cond.methodLink RX12 119 yX11_init ∈ tb := tb_mem 1021 (by decide +kernel) rfl
set_option maxRecDepth 100000 in
theorem kj_X11_init : Cond.instanceMethod yX11_init ∈ tb := tb_mem 1022 (by decide +kernel) rfl
set_option maxRecDepth 100000 in
theorem kd_X11_init : Cond.code yX11_init cX11_init 1 none ∈ tb := tb_mem 1023 rfl rfl
set_option maxRecDepth 100000 in
theorem km_X11_1 : Cond.methodLink RX11 1 yE_init ∈ tb := tb_mem 1024 (by decide +kernel) rfl
set_option maxRecDepth 100000 in
theorem kj_E_init : Cond.instanceMethod yE_init ∈ tb := tb_mem 1025 (by decide +kernel) rfl
set_option maxRecDepth 100000 in
theorem kd_E_init : Cond.code yE_init cE_init 5 none ∈ tb := tb_mem 1026 rfl rfl
set_option maxRecDepth 100000 in
theorem km_E_16 : Cond.methodLink RE 16 yH_init ∈ tb := tb_mem 1027 (by decide +kernel) rfl
set_option maxRecDepth 100000 in
theorem kj_H_init : Cond.instanceMethod yH_init ∈ tb := tb_mem 1028 (by decide +kernel) rfl
set_option maxRecDepth 100000 in
theorem kd_H_init : Cond.code yH_init cH_init 5 none ∈ tb := tb_mem 1029 rfl rfl
set_option maxRecDepth 100000 in
theorem kf_H_31 : Cond.fieldLink RH 31 "java/lang/Throwable" "detailMessage" "Ljava/lang/String;" ∈ tb := tb_mem 1031 (by decide +kernel) rfl
set_option maxRecDepth 100000 in
theorem kf_H_7 : Cond.fieldLink RH 7 "java/lang/Throwable" "cause" "Ljava/lang/Throwable;" ∈ tb := tb_mem 1032 (by decide +kernel) rfl
set_option maxRecDepth 100000 in
theorem kf_H_17 : Cond.fieldLink RH 17 "java/lang/Throwable" "stackTrace" "[Ljava/lang/StackTraceElement;" ∈ tb := tb_mem 1033 (by decide +kernel) rfl
set_option maxRecDepth 100000 in
theorem kf_H_24 : Cond.fieldLink RH 24 "java/lang/Throwable" "suppressedExceptions" "Ljava/util/List;" ∈ tb := tb_mem 1034 (by decide +kernel) rfl
set_option maxRecDepth 100000 in
theorem ku_X11 : Cond.superclass RX11 RE ∈ tb := tb_mem 1042 (by decide +kernel) rfl
set_option maxRecDepth 100000 in
theorem kf_X12_86 : Cond.fieldLink RX12 86 "TowerAppealModel" "PLAIN" "[I" ∈ tb := tb_mem 1043 (by decide +kernel) rfl
set_option maxRecDepth 100000 in
theorem kf_X12_114 : Cond.fieldLink RX12 114 "TowerAppealModel" "rule" "[I" ∈ tb := tb_mem 1045 (by decide +kernel) rfl
set_option maxRecDepth 100000 in
theorem kf_X12_82 : Cond.fieldLink RX12 82 "TowerAppealModel" "read" "[I" ∈ tb := tb_mem 1046 (by decide +kernel) rfl
set_option maxRecDepth 100000 in
theorem kf_X12_13 : Cond.fieldLink RX12 13 "TowerAppealModel" "halt" "LTowerAppealModel$Stop;" ∈ tb := tb_mem 1047 (by decide +kernel) rfl
set_option maxRecDepth 100000 in
theorem kf_X12_20 : Cond.fieldLink RX12 20 "TowerAppealModel" "tape" "[B" ∈ tb := tb_mem 1048 (by decide +kernel) rfl
set_option maxRecDepth 100000 in
theorem kf_X12_203 : Cond.fieldLink RX12 203 "TowerAppealModel" "taped" "I" ∈ tb := tb_mem 1049 (by decide +kernel) rfl
set_option maxRecDepth 100000 in
theorem kf_X12_17 : Cond.fieldLink RX12 17 "TowerAppealModel" "size" "I" ∈ tb := tb_mem 1050 (by decide +kernel) rfl
set_option maxRecDepth 100000 in
theorem kf_X12_7 : Cond.fieldLink RX12 7 "TowerAppealModel" "from" "I" ∈ tb := tb_mem 1051 (by decide +kernel) rfl
set_option maxRecDepth 100000 in
theorem kf_X12_24 : Cond.fieldLink RX12 24 "TowerAppealModel" "behind" "I" ∈ tb := tb_mem 1052 (by decide +kernel) rfl
set_option maxRecDepth 100000 in
theorem kf_X12_31 : Cond.fieldLink RX12 31 "TowerAppealModel" "hand" "I" ∈ tb := tb_mem 1053 (by decide +kernel) rfl
set_option maxRecDepth 100000 in
theorem kf_X12_41 : Cond.fieldLink RX12 41 "TowerAppealModel" "value" "I" ∈ tb := tb_mem 1054 (by decide +kernel) rfl
set_option maxRecDepth 100000 in
theorem kf_X12_1 : Cond.fieldLink RX12 1 "TowerAppealModel" "fault" "I" ∈ tb := tb_mem 1055 (by decide +kernel) rfl
set_option maxRecDepth 100000 in
theorem kf_X12_10 : Cond.fieldLink RX12 10 "TowerAppealModel" "faultAt" "I" ∈ tb := tb_mem 1056 (by decide +kernel) rfl
set_option maxRecDepth 100000 in
theorem kf_X12_89 : Cond.fieldLink RX12 89 "TowerAppealModel" "told" "[Z" ∈ tb := tb_mem 1057 (by decide +kernel) rfl
set_option maxRecDepth 100000 in
theorem kf_X12_230 : Cond.fieldLink RX12 230 "TowerAppealModel" "clock" "I" ∈ tb := tb_mem 1058 (by decide +kernel) rfl
set_option maxRecDepth 100000 in
theorem kf_X12_262 : Cond.fieldLink RX12 262 "TowerAppealModel" "coin" "I" ∈ tb := tb_mem 1059 (by decide +kernel) rfl
set_option maxRecDepth 100000 in
theorem kf_X12_296 : Cond.fieldLink RX12 296 "TowerAppealModel" "loan" "I" ∈ tb := tb_mem 1060 (by decide +kernel) rfl
set_option maxRecDepth 100000 in
theorem kf_X12_251 : Cond.fieldLink RX12 251 "TowerAppealModel" "matched" "I" ∈ tb := tb_mem 1061 (by decide +kernel) rfl
set_option maxRecDepth 100000 in
theorem kf_X12_276 : Cond.fieldLink RX12 276 "TowerAppealModel" "taxed" "I" ∈ tb := tb_mem 1062 (by decide +kernel) rfl
set_option maxRecDepth 100000 in
theorem kf_X12_298 : Cond.fieldLink RX12 298 "TowerAppealModel" "paidStages" "I" ∈ tb := tb_mem 1063 (by decide +kernel) rfl
set_option maxRecDepth 100000 in
theorem kf_X12_305 : Cond.fieldLink RX12 305 "TowerAppealModel" "grown" "I" ∈ tb := tb_mem 1064 (by decide +kernel) rfl
set_option maxRecDepth 100000 in
theorem kf_X12_237 : Cond.fieldLink RX12 237 "TowerAppealModel" "pledges" "I" ∈ tb := tb_mem 1065 (by decide +kernel) rfl
set_option maxRecDepth 100000 in
theorem kf_X12_246 : Cond.fieldLink RX12 246 "TowerAppealModel" "sums" "I" ∈ tb := tb_mem 1066 (by decide +kernel) rfl
set_option maxRecDepth 100000 in
theorem kf_X12_286 : Cond.fieldLink RX12 286 "TowerAppealModel" "stages" "I" ∈ tb := tb_mem 1067 (by decide +kernel) rfl
set_option maxRecDepth 100000 in
theorem kf_X12_224 : Cond.fieldLink RX12 224 "TowerAppealModel" "isStopped" "Z" ∈ tb := tb_mem 1068 (by decide +kernel) rfl
set_option maxRecDepth 100000 in
theorem kf_X12_120 : Cond.fieldLink RX12 120 "TowerAppealModel" "declaredFrom" "[I" ∈ tb := tb_mem 1069 (by decide +kernel) rfl
set_option maxRecDepth 100000 in
theorem kf_X12_123 : Cond.fieldLink RX12 123 "TowerAppealModel" "declaredTo" "[I" ∈ tb := tb_mem 1070 (by decide +kernel) rfl
set_option maxRecDepth 100000 in
theorem kf_X12_126 : Cond.fieldLink RX12 126 "TowerAppealModel" "given" "[I" ∈ tb := tb_mem 1071 (by decide +kernel) rfl
set_option maxRecDepth 100000 in
theorem kf_X12_129 : Cond.fieldLink RX12 129 "TowerAppealModel" "back" "[I" ∈ tb := tb_mem 1072 (by decide +kernel) rfl
set_option maxRecDepth 100000 in
theorem kf_X12_132 : Cond.fieldLink RX12 132 "TowerAppealModel" "isNameless" "[Z" ∈ tb := tb_mem 1073 (by decide +kernel) rfl
set_option maxRecDepth 100000 in
theorem kf_X12_135 : Cond.fieldLink RX12 135 "TowerAppealModel" "giver" "[I" ∈ tb := tb_mem 1074 (by decide +kernel) rfl
set_option maxRecDepth 100000 in
theorem kf_X12_138 : Cond.fieldLink RX12 138 "TowerAppealModel" "pence" "[I" ∈ tb := tb_mem 1075 (by decide +kernel) rfl
set_option maxRecDepth 100000 in
theorem kf_X12_141 : Cond.fieldLink RX12 141 "TowerAppealModel" "first" "[I" ∈ tb := tb_mem 1076 (by decide +kernel) rfl
set_option maxRecDepth 100000 in
theorem kf_X12_144 : Cond.fieldLink RX12 144 "TowerAppealModel" "every" "[I" ∈ tb := tb_mem 1077 (by decide +kernel) rfl
set_option maxRecDepth 100000 in
theorem kf_X12_147 : Cond.fieldLink RX12 147 "TowerAppealModel" "dues" "[I" ∈ tb := tb_mem 1078 (by decide +kernel) rfl
set_option maxRecDepth 100000 in
theorem kf_X12_150 : Cond.fieldLink RX12 150 "TowerAppealModel" "lapsedAt" "[I" ∈ tb := tb_mem 1079 (by decide +kernel) rfl
set_option maxRecDepth 100000 in
theorem kf_X12_153 : Cond.fieldLink RX12 153 "TowerAppealModel" "isLapsed" "[Z" ∈ tb := tb_mem 1080 (by decide +kernel) rfl
set_option maxRecDepth 100000 in
theorem kf_X12_156 : Cond.fieldLink RX12 156 "TowerAppealModel" "wasTakenUp" "[Z" ∈ tb := tb_mem 1081 (by decide +kernel) rfl
set_option maxRecDepth 100000 in
theorem kf_X12_159 : Cond.fieldLink RX12 159 "TowerAppealModel" "due" "[I" ∈ tb := tb_mem 1082 (by decide +kernel) rfl
set_option maxRecDepth 100000 in
theorem kf_X12_162 : Cond.fieldLink RX12 162 "TowerAppealModel" "filled" "[I" ∈ tb := tb_mem 1083 (by decide +kernel) rfl
set_option maxRecDepth 100000 in
theorem kf_X12_165 : Cond.fieldLink RX12 165 "TowerAppealModel" "isThere" "[Z" ∈ tb := tb_mem 1084 (by decide +kernel) rfl
set_option maxRecDepth 100000 in
theorem kf_X12_168 : Cond.fieldLink RX12 168 "TowerAppealModel" "counts" "[Z" ∈ tb := tb_mem 1085 (by decide +kernel) rfl
set_option maxRecDepth 100000 in
theorem kf_X12_171 : Cond.fieldLink RX12 171 "TowerAppealModel" "sumGiver" "[I" ∈ tb := tb_mem 1086 (by decide +kernel) rfl
set_option maxRecDepth 100000 in
theorem kf_X12_174 : Cond.fieldLink RX12 174 "TowerAppealModel" "sumMonth" "[I" ∈ tb := tb_mem 1087 (by decide +kernel) rfl
set_option maxRecDepth 100000 in
theorem kf_X12_177 : Cond.fieldLink RX12 177 "TowerAppealModel" "sumPence" "[I" ∈ tb := tb_mem 1088 (by decide +kernel) rfl
set_option maxRecDepth 100000 in
theorem kf_X12_180 : Cond.fieldLink RX12 180 "TowerAppealModel" "isClaimed" "[Z" ∈ tb := tb_mem 1089 (by decide +kernel) rfl
set_option maxRecDepth 100000 in
theorem kf_X12_183 : Cond.fieldLink RX12 183 "TowerAppealModel" "cost" "[I" ∈ tb := tb_mem 1090 (by decide +kernel) rfl
set_option maxRecDepth 100000 in
theorem kf_X12_186 : Cond.fieldLink RX12 186 "TowerAppealModel" "length" "[I" ∈ tb := tb_mem 1091 (by decide +kernel) rfl
set_option maxRecDepth 100000 in
theorem kf_X12_188 : Cond.fieldLink RX12 188 "TowerAppealModel" "parts" "[I" ∈ tb := tb_mem 1092 (by decide +kernel) rfl
set_option maxRecDepth 100000 in
theorem kf_X12_191 : Cond.fieldLink RX12 191 "TowerAppealModel" "stagePaid" "[I" ∈ tb := tb_mem 1093 (by decide +kernel) rfl
set_option maxRecDepth 100000 in
theorem kf_X12_194 : Cond.fieldLink RX12 194 "TowerAppealModel" "paused" "[I" ∈ tb := tb_mem 1094 (by decide +kernel) rfl
set_option maxRecDepth 100000 in
theorem kf_X12_289 : Cond.fieldLink RX12 289 "TowerAppealModel" "begun" "I" ∈ tb := tb_mem 1095 (by decide +kernel) rfl
set_option maxRecDepth 100000 in
theorem kf_X12_197 : Cond.fieldLink RX12 197 "TowerAppealModel" "sum" "[I" ∈ tb := tb_mem 1096 (by decide +kernel) rfl
set_option maxRecDepth 100000 in
theorem kf_X12_200 : Cond.fieldLink RX12 200 "TowerAppealModel" "stones" "[I" ∈ tb := tb_mem 1097 (by decide +kernel) rfl
end
section
set_option maxRecDepth 100000 in
theorem ku_X12 : Cond.superclass RX12 "java/lang/Object" ∈ tb := tb_mem 1204 (by decide +kernel) rfl
set_option maxRecDepth 100000 in
theorem km_L_17 : Cond.methodLink RL 17 yX12_feed ∈ tb := tb_mem 1205 (by decide +kernel) rfl
set_option maxRecDepth 100000 in
theorem kj_X12_feed : Cond.instanceMethod yX12_feed ∈ tb := tb_mem 1206 (by decide +kernel) rfl
set_option maxRecDepth 100000 in
theorem kl_X12_feed : Cond.selects RX12 yX12_feed yX12_feed ∈ tb := tb_mem 1207 (by decide +kernel) rfl
set_option maxRecDepth 100000 in
theorem kd_X12_feed : Cond.code yX12_feed cX12_feed 6 (some .int) ∈ tb := tb_mem 1208 rfl rfl
set_option maxRecDepth 100000 in
theorem km_X12_206 : Cond.methodLink RX12 206 yX12_lay ∈ tb := tb_mem 1209 (by decide +kernel) rfl
set_option maxRecDepth 100000 in
theorem kj_X12_lay : Cond.instanceMethod yX12_lay ∈ tb := tb_mem 1211 (by decide +kernel) rfl
set_option maxRecDepth 100000 in
theorem kd_X12_lay : Cond.code yX12_lay cX12_lay 3 none ∈ tb := tb_mem 1212 rfl rfl
set_option maxRecDepth 100000 in
theorem km_L_22 : Cond.methodLink RL 22 yX12_end ∈ tb := tb_mem 1213 (by decide +kernel) rfl
set_option maxRecDepth 100000 in
theorem kj_X12_end : Cond.instanceMethod yX12_end ∈ tb := tb_mem 1214 (by decide +kernel) rfl
set_option maxRecDepth 100000 in
theorem kl_X12_end : Cond.selects RX12 yX12_end yX12_end ∈ tb := tb_mem 1215 (by decide +kernel) rfl
set_option maxRecDepth 100000 in
theorem kd_X12_end : Cond.code yX12_end cX12_end 2 (some .int) ∈ tb := tb_mem 1216 rfl rfl
set_option maxRecDepth 100000 in
theorem km_X12_58 : Cond.methodLink RX12 58 yX12_in ∈ tb := tb_mem 1217 (by decide +kernel) rfl
set_option maxRecDepth 100000 in
theorem ks_X12_in : Cond.static yX12_in ∈ tb := tb_mem 1218 (by decide +kernel) rfl
set_option maxRecDepth 100000 in
theorem kd_X12_in : Cond.code yX12_in cX12_in 6 (some .boolean) ∈ tb := tb_mem 1219 rfl rfl
set_option maxRecDepth 100000 in
theorem km_L_27 : Cond.methodLink RL 27 yX12_trust ∈ tb := tb_mem 1220 (by decide +kernel) rfl
set_option maxRecDepth 100000 in
theorem kj_X12_trust : Cond.instanceMethod yX12_trust ∈ tb := tb_mem 1221 (by decide +kernel) rfl
set_option maxRecDepth 100000 in
theorem kl_X12_trust : Cond.selects RX12 yX12_trust yX12_trust ∈ tb := tb_mem 1222 (by decide +kernel) rfl
set_option maxRecDepth 100000 in
theorem kd_X12_trust : Cond.codeWith yX12_trust cX12_trust 3 (some .int) [((28), (37), (40), (117))] ∈ tb := tb_mem 1223 rfl rfl
set_option maxRecDepth 100000 in
theorem km_X12_62 : Cond.methodLink RX12 62 yX12_scan ∈ tb := tb_mem 1224 (by decide +kernel) rfl
set_option maxRecDepth 100000 in
theorem kj_X12_scan : Cond.instanceMethod yX12_scan ∈ tb := tb_mem 1226 (by decide +kernel) rfl
set_option maxRecDepth 100000 in
theorem kd_X12_scan : Cond.code yX12_scan cX12_scan 2 none ∈ tb := tb_mem 1227 rfl rfl
set_option maxRecDepth 100000 in
theorem km_X12_27 : Cond.methodLink RX12 27 yX12_byteAt ∈ tb := tb_mem 1228 (by decide +kernel) rfl
set_option maxRecDepth 100000 in
theorem kj_X12_byteAt : Cond.instanceMethod yX12_byteAt ∈ tb := tb_mem 1230 (by decide +kernel) rfl
set_option maxRecDepth 100000 in
theorem kd_X12_byteAt : Cond.code yX12_byteAt cX12_byteAt 2 (some .int) ∈ tb := tb_mem 1231 rfl rfl
set_option maxRecDepth 100000 in
theorem km_X12_34 : Cond.methodLink RX12 34 yX12_isLetter ∈ tb := tb_mem 1232 (by decide +kernel) rfl
set_option maxRecDepth 100000 in
theorem ks_X12_isLetter : Cond.static yX12_isLetter ∈ tb := tb_mem 1233 (by decide +kernel) rfl
set_option maxRecDepth 100000 in
theorem kd_X12_isLetter : Cond.code yX12_isLetter cX12_isLetter 1 (some .boolean) ∈ tb := tb_mem 1234 rfl rfl
set_option maxRecDepth 100000 in
theorem km_X12_38 : Cond.methodLink RX12 38 yX12_isDigit ∈ tb := tb_mem 1235 (by decide +kernel) rfl
set_option maxRecDepth 100000 in
theorem ks_X12_isDigit : Cond.static yX12_isDigit ∈ tb := tb_mem 1236 (by decide +kernel) rfl
set_option maxRecDepth 100000 in
theorem kd_X12_isDigit : Cond.code yX12_isDigit cX12_isDigit 1 (some .boolean) ∈ tb := tb_mem 1237 rfl rfl
set_option maxRecDepth 100000 in
theorem km_X12_209 : Cond.methodLink RX12 209 yX12_readTrust ∈ tb := tb_mem 1238 (by decide +kernel) rfl
set_option maxRecDepth 100000 in
theorem kj_X12_readTrust : Cond.instanceMethod yX12_readTrust ∈ tb := tb_mem 1240 (by decide +kernel) rfl
set_option maxRecDepth 100000 in
theorem kd_X12_readTrust : Cond.code yX12_readTrust cX12_readTrust 3 (some .int) ∈ tb := tb_mem 1241 rfl rfl
set_option maxRecDepth 100000 in
theorem km_X12_93 : Cond.methodLink RX12 93 yX12_key ∈ tb := tb_mem 1242 (by decide +kernel) rfl
set_option maxRecDepth 100000 in
theorem kj_X12_key : Cond.instanceMethod yX12_key ∈ tb := tb_mem 1244 (by decide +kernel) rfl
set_option maxRecDepth 100000 in
theorem kd_X12_key : Cond.code yX12_key cX12_key 1 (some .int) ∈ tb := tb_mem 1245 rfl rfl
set_option maxRecDepth 100000 in
theorem km_X12_68 : Cond.methodLink RX12 68 yX12_is ∈ tb := tb_mem 1247 (by decide +kernel) rfl
set_option maxRecDepth 100000 in
theorem kj_X12_is : Cond.instanceMethod yX12_is ∈ tb := tb_mem 1249 (by decide +kernel) rfl
set_option maxRecDepth 100000 in
theorem kd_X12_is : Cond.code yX12_is cX12_is 4 (some .boolean) ∈ tb := tb_mem 1250 rfl rfl
set_option maxRecDepth 100000 in
theorem km_X12_44 : Cond.methodLink RX12 44 yJ0_length_8abf5 ∈ tb := tb_mem 1251 (by decide +kernel) rfl
set_option maxRecDepth 100000 in
theorem km_X12_50 : Cond.methodLink RX12 50 yJ0_charAt_5068e ∈ tb := tb_mem 1252 (by decide +kernel) rfl
set_option maxRecDepth 100000 in
theorem km_X12_54 : Cond.methodLink RX12 54 yX12_wrong ∈ tb := tb_mem 1258 (by decide +kernel) rfl
set_option maxRecDepth 100000 in
theorem kj_X12_wrong : Cond.instanceMethod yX12_wrong ∈ tb := tb_mem 1260 (by decide +kernel) rfl
set_option maxRecDepth 100000 in
theorem kd_X12_wrong : Cond.code yX12_wrong cX12_wrong 2 (some (.object "TowerAppealModel$Stop")) ∈ tb := tb_mem 1261 rfl rfl
set_option maxRecDepth 100000 in
theorem km_X12_96 : Cond.methodLink RX12 96 yX12_readLine ∈ tb := tb_mem 1262 (by decide +kernel) rfl
set_option maxRecDepth 100000 in
theorem kj_X12_readLine : Cond.instanceMethod yX12_readLine ∈ tb := tb_mem 1264 (by decide +kernel) rfl
set_option maxRecDepth 100000 in
theorem kd_X12_readLine : Cond.code yX12_readLine cX12_readLine 2 none ∈ tb := tb_mem 1265 rfl rfl
set_option maxRecDepth 100000 in
theorem km_X12_100 : Cond.methodLink RX12 100 yX12_number ∈ tb := tb_mem 1266 (by decide +kernel) rfl
set_option maxRecDepth 100000 in
theorem kj_X12_number : Cond.instanceMethod yX12_number ∈ tb := tb_mem 1268 (by decide +kernel) rfl
set_option maxRecDepth 100000 in
theorem kd_X12_number : Cond.code yX12_number cX12_number 4 (some .int) ∈ tb := tb_mem 1269 rfl rfl
set_option maxRecDepth 100000 in
theorem kk_X12_104 : Cond.constant RX12 104 (999999 : Int32) ∈ tb := tb_mem 1270 (by decide +kernel) rfl
set_option maxRecDepth 100000 in
theorem km_L_31 : Cond.methodLink RL 31 yX12_fault ∈ tb := tb_mem 1273 (by decide +kernel) rfl
set_option maxRecDepth 100000 in
theorem kj_X12_fault : Cond.instanceMethod yX12_fault ∈ tb := tb_mem 1274 (by decide +kernel) rfl
set_option maxRecDepth 100000 in
theorem kl_X12_fault : Cond.selects RX12 yX12_fault yX12_fault ∈ tb := tb_mem 1275 (by decide +kernel) rfl
set_option maxRecDepth 100000 in
theorem kd_X12_fault : Cond.code yX12_fault cX12_fault 2 (some .int) ∈ tb := tb_mem 1276 rfl rfl
set_option maxRecDepth 100000 in
theorem km_L_35 : Cond.methodLink RL 35 yX12_rule ∈ tb := tb_mem 1277 (by decide +kernel) rfl
set_option maxRecDepth 100000 in
theorem kj_X12_rule : Cond.instanceMethod yX12_rule ∈ tb := tb_mem 1278 (by decide +kernel) rfl
set_option maxRecDepth 100000 in
theorem kl_X12_rule : Cond.selects RX12 yX12_rule yX12_rule ∈ tb := tb_mem 1279 (by decide +kernel) rfl
set_option maxRecDepth 100000 in
theorem kd_X12_rule : Cond.code yX12_rule cX12_rule 2 (some .int) ∈ tb := tb_mem 1280 rfl rfl
set_option maxRecDepth 100000 in
theorem kk_X12_212 : Cond.constantLong RX12 212 (8 : Int64) ∈ tb := tb_mem 1281 (by decide +kernel) rfl
set_option maxRecDepth 100000 in
theorem km_L_40 : Cond.methodLink RL 40 yX12_declare ∈ tb := tb_mem 1282 (by decide +kernel) rfl
set_option maxRecDepth 100000 in
theorem kj_X12_declare : Cond.instanceMethod yX12_declare ∈ tb := tb_mem 1283 (by decide +kernel) rfl
set_option maxRecDepth 100000 in
theorem kl_X12_declare : Cond.selects RX12 yX12_declare yX12_declare ∈ tb := tb_mem 1284 (by decide +kernel) rfl
set_option maxRecDepth 100000 in
theorem kd_X12_declare : Cond.code yX12_declare cX12_declare 4 (some .int) ∈ tb := tb_mem 1285 rfl rfl
set_option maxRecDepth 100000 in
theorem km_X12_218 : Cond.methodLink RX12 218 yX12_isGiver ∈ tb := tb_mem 1286 (by decide +kernel) rfl
set_option maxRecDepth 100000 in
theorem ks_X12_isGiver : Cond.static yX12_isGiver ∈ tb := tb_mem 1287 (by decide +kernel) rfl
set_option maxRecDepth 100000 in
theorem kd_X12_isGiver : Cond.code yX12_isGiver cX12_isGiver 1 (some .boolean) ∈ tb := tb_mem 1288 rfl rfl
set_option maxRecDepth 100000 in
theorem kk_X12_214 : Cond.constantLong RX12 214 (29 : Int64) ∈ tb := tb_mem 1289 (by decide +kernel) rfl
set_option maxRecDepth 100000 in
theorem km_X12_221 : Cond.methodLink RX12 221 yX12_isMonth ∈ tb := tb_mem 1290 (by decide +kernel) rfl
set_option maxRecDepth 100000 in
theorem ks_X12_isMonth : Cond.static yX12_isMonth ∈ tb := tb_mem 1291 (by decide +kernel) rfl
set_option maxRecDepth 100000 in
theorem kd_X12_isMonth : Cond.code yX12_isMonth cX12_isMonth 1 (some .boolean) ∈ tb := tb_mem 1292 rfl rfl
set_option maxRecDepth 100000 in
theorem kk_X12_216 : Cond.constantLong RX12 216 (119 : Int64) ∈ tb := tb_mem 1293 (by decide +kernel) rfl
set_option maxRecDepth 100000 in
theorem km_L_45 : Cond.methodLink RL 45 yX12_nameless ∈ tb := tb_mem 1294 (by decide +kernel) rfl
set_option maxRecDepth 100000 in
theorem kj_X12_nameless : Cond.instanceMethod yX12_nameless ∈ tb := tb_mem 1295 (by decide +kernel) rfl
set_option maxRecDepth 100000 in
theorem kl_X12_nameless : Cond.selects RX12 yX12_nameless yX12_nameless ∈ tb := tb_mem 1296 (by decide +kernel) rfl
set_option maxRecDepth 100000 in
theorem kd_X12_nameless : Cond.code yX12_nameless cX12_nameless 4 (some .int) ∈ tb := tb_mem 1297 rfl rfl
set_option maxRecDepth 100000 in
theorem km_L_49 : Cond.methodLink RL 49 yX12_pledge ∈ tb := tb_mem 1298 (by decide +kernel) rfl
set_option maxRecDepth 100000 in
theorem kj_X12_pledge : Cond.instanceMethod yX12_pledge ∈ tb := tb_mem 1299 (by decide +kernel) rfl
set_option maxRecDepth 100000 in
theorem kl_X12_pledge : Cond.selects RX12 yX12_pledge yX12_pledge ∈ tb := tb_mem 1300 (by decide +kernel) rfl
set_option maxRecDepth 100000 in
theorem kd_X12_pledge : Cond.code yX12_pledge cX12_pledge 8 (some .int) ∈ tb := tb_mem 1301 rfl rfl
set_option maxRecDepth 100000 in
theorem kk_X12_228 : Cond.constantLong RX12 228 (100000 : Int64) ∈ tb := tb_mem 1302 (by decide +kernel) rfl
set_option maxRecDepth 100000 in
theorem kk_X12_233 : Cond.constantLong RX12 233 (12 : Int64) ∈ tb := tb_mem 1303 (by decide +kernel) rfl
set_option maxRecDepth 100000 in
theorem kk_X12_235 : Cond.constantLong RX12 235 (84 : Int64) ∈ tb := tb_mem 1304 (by decide +kernel) rfl
set_option maxRecDepth 100000 in
theorem km_X12_240 : Cond.methodLink RX12 240 yX12_monthOf ∈ tb := tb_mem 1305 (by decide +kernel) rfl
set_option maxRecDepth 100000 in
theorem kj_X12_monthOf : Cond.instanceMethod yX12_monthOf ∈ tb := tb_mem 1307 (by decide +kernel) rfl
set_option maxRecDepth 100000 in
theorem kd_X12_monthOf : Cond.code yX12_monthOf cX12_monthOf 3 (some .int) ∈ tb := tb_mem 1308 rfl rfl
set_option maxRecDepth 100000 in
theorem km_L_54 : Cond.methodLink RL 54 yX12_change ∈ tb := tb_mem 1309 (by decide +kernel) rfl
set_option maxRecDepth 100000 in
theorem kj_X12_change : Cond.instanceMethod yX12_change ∈ tb := tb_mem 1310 (by decide +kernel) rfl
set_option maxRecDepth 100000 in
theorem kl_X12_change : Cond.selects RX12 yX12_change yX12_change ∈ tb := tb_mem 1311 (by decide +kernel) rfl
set_option maxRecDepth 100000 in
theorem kd_X12_change : Cond.code yX12_change cX12_change 4 (some .int) ∈ tb := tb_mem 1312 rfl rfl
set_option maxRecDepth 100000 in
theorem km_X12_243 : Cond.methodLink RX12 243 yX12_isPledge ∈ tb := tb_mem 1313 (by decide +kernel) rfl
set_option maxRecDepth 100000 in
theorem kj_X12_isPledge : Cond.instanceMethod yX12_isPledge ∈ tb := tb_mem 1315 (by decide +kernel) rfl
set_option maxRecDepth 100000 in
theorem kd_X12_isPledge : Cond.code yX12_isPledge cX12_isPledge 2 (some .boolean) ∈ tb := tb_mem 1316 rfl rfl
set_option maxRecDepth 100000 in
theorem km_L_58 : Cond.methodLink RL 58 yX12_pay ∈ tb := tb_mem 1317 (by decide +kernel) rfl
set_option maxRecDepth 100000 in
theorem kj_X12_pay : Cond.instanceMethod yX12_pay ∈ tb := tb_mem 1318 (by decide +kernel) rfl
set_option maxRecDepth 100000 in
theorem kl_X12_pay : Cond.selects RX12 yX12_pay yX12_pay ∈ tb := tb_mem 1319 (by decide +kernel) rfl
set_option maxRecDepth 100000 in
theorem kd_X12_pay : Cond.code yX12_pay cX12_pay 6 (some .int) ∈ tb := tb_mem 1320 rfl rfl
set_option maxRecDepth 100000 in
theorem kk_X12_265 : Cond.constantLong RX12 265 (5000000 : Int64) ∈ tb := tb_mem 1321 (by decide +kernel) rfl
set_option maxRecDepth 100000 in
theorem km_X12_267 : Cond.methodLink RX12 267 yX12_unfilled ∈ tb := tb_mem 1322 (by decide +kernel) rfl
set_option maxRecDepth 100000 in
theorem kj_X12_unfilled : Cond.instanceMethod yX12_unfilled ∈ tb := tb_mem 1324 (by decide +kernel) rfl
set_option maxRecDepth 100000 in
theorem kd_X12_unfilled : Cond.code yX12_unfilled cX12_unfilled 4 (some .int) ∈ tb := tb_mem 1325 rfl rfl
set_option maxRecDepth 100000 in
theorem km_X12_254 : Cond.methodLink RX12 254 yJ9_min_7cf53 ∈ tb := tb_mem 1326 (by decide +kernel) rfl
set_option maxRecDepth 100000 in
theorem km_X12_270 : Cond.methodLink RX12 270 yX12_come ∈ tb := tb_mem 1327 (by decide +kernel) rfl
set_option maxRecDepth 100000 in
theorem kj_X12_come : Cond.instanceMethod yX12_come ∈ tb := tb_mem 1329 (by decide +kernel) rfl
set_option maxRecDepth 100000 in
theorem kd_X12_come : Cond.code yX12_come cX12_come 4 (some .int) ∈ tb := tb_mem 1330 rfl rfl
set_option maxRecDepth 100000 in
theorem kk_X12_249 : Cond.constantLong RX12 249 (100 : Int64) ∈ tb := tb_mem 1331 (by decide +kernel) rfl
set_option maxRecDepth 100000 in
theorem km_X12_259 : Cond.methodLink RX12 259 yJ9_max_7cf53 ∈ tb := tb_mem 1332 (by decide +kernel) rfl
set_option maxRecDepth 100000 in
theorem ks_J9_max_7cf53 : Cond.static yJ9_max_7cf53 ∈ tb := tb_mem 1333 (by decide +kernel) rfl
set_option maxRecDepth 100000 in
theorem kd_J9_max_7cf53 : Cond.code yJ9_max_7cf53 cJ9_max_7cf53 2 (some .int) ∈ tb := tb_mem 1334 rfl rfl
set_option maxRecDepth 100000 in
theorem km_L_62 : Cond.methodLink RL 62 yX12_gift ∈ tb := tb_mem 1335 (by decide +kernel) rfl
set_option maxRecDepth 100000 in
theorem kj_X12_gift : Cond.instanceMethod yX12_gift ∈ tb := tb_mem 1336 (by decide +kernel) rfl
set_option maxRecDepth 100000 in
theorem kl_X12_gift : Cond.selects RX12 yX12_gift yX12_gift ∈ tb := tb_mem 1337 (by decide +kernel) rfl
set_option maxRecDepth 100000 in
theorem kd_X12_gift : Cond.code yX12_gift cX12_gift 3 (some .int) ∈ tb := tb_mem 1338 rfl rfl
set_option maxRecDepth 100000 in
theorem km_L_66 : Cond.methodLink RL 66 yX12_takeUp ∈ tb := tb_mem 1339 (by decide +kernel) rfl
set_option maxRecDepth 100000 in
theorem kj_X12_takeUp : Cond.instanceMethod yX12_takeUp ∈ tb := tb_mem 1340 (by decide +kernel) rfl
set_option maxRecDepth 100000 in
theorem kl_X12_takeUp : Cond.selects RX12 yX12_takeUp yX12_takeUp ∈ tb := tb_mem 1341 (by decide +kernel) rfl
set_option maxRecDepth 100000 in
theorem kd_X12_takeUp : Cond.code yX12_takeUp cX12_takeUp 3 (some .int) ∈ tb := tb_mem 1342 rfl rfl
set_option maxRecDepth 100000 in
theorem km_X12_273 : Cond.methodLink RX12 273 yX12_toCome ∈ tb := tb_mem 1343 (by decide +kernel) rfl
set_option maxRecDepth 100000 in
theorem kj_X12_toCome : Cond.instanceMethod yX12_toCome ∈ tb := tb_mem 1345 (by decide +kernel) rfl
set_option maxRecDepth 100000 in
theorem kd_X12_toCome : Cond.code yX12_toCome cX12_toCome 4 (some .int) ∈ tb := tb_mem 1346 rfl rfl
set_option maxRecDepth 100000 in
theorem km_L_70 : Cond.methodLink RL 70 yX12_claim ∈ tb := tb_mem 1347 (by decide +kernel) rfl
set_option maxRecDepth 100000 in
theorem kj_X12_claim : Cond.instanceMethod yX12_claim ∈ tb := tb_mem 1348 (by decide +kernel) rfl
set_option maxRecDepth 100000 in
theorem kl_X12_claim : Cond.selects RX12 yX12_claim yX12_claim ∈ tb := tb_mem 1349 (by decide +kernel) rfl
set_option maxRecDepth 100000 in
theorem kd_X12_claim : Cond.code yX12_claim cX12_claim 4 (some .int) ∈ tb := tb_mem 1350 rfl rfl
set_option maxRecDepth 100000 in
theorem km_L_74 : Cond.methodLink RL 74 yX12_about ∈ tb := tb_mem 1351 (by decide +kernel) rfl
set_option maxRecDepth 100000 in
theorem kj_X12_about : Cond.instanceMethod yX12_about ∈ tb := tb_mem 1352 (by decide +kernel) rfl
set_option maxRecDepth 100000 in
theorem kl_X12_about : Cond.selects RX12 yX12_about yX12_about ∈ tb := tb_mem 1353 (by decide +kernel) rfl
set_option maxRecDepth 100000 in
theorem kd_X12_about : Cond.code yX12_about cX12_about 5 (some .int) ∈ tb := tb_mem 1354 rfl rfl
set_option maxRecDepth 100000 in
theorem km_X12_279 : Cond.methodLink RX12 279 yX12_overdue ∈ tb := tb_mem 1355 (by decide +kernel) rfl
set_option maxRecDepth 100000 in
theorem kj_X12_overdue : Cond.instanceMethod yX12_overdue ∈ tb := tb_mem 1357 (by decide +kernel) rfl
set_option maxRecDepth 100000 in
theorem kd_X12_overdue : Cond.code yX12_overdue cX12_overdue 4 (some .int) ∈ tb := tb_mem 1358 rfl rfl
set_option maxRecDepth 100000 in
theorem km_L_78 : Cond.methodLink RL 78 yX12_giver ∈ tb := tb_mem 1359 (by decide +kernel) rfl
set_option maxRecDepth 100000 in
theorem kj_X12_giver : Cond.instanceMethod yX12_giver ∈ tb := tb_mem 1360 (by decide +kernel) rfl
set_option maxRecDepth 100000 in
theorem kl_X12_giver : Cond.selects RX12 yX12_giver yX12_giver ∈ tb := tb_mem 1361 (by decide +kernel) rfl
set_option maxRecDepth 100000 in
theorem kd_X12_giver : Cond.code yX12_giver cX12_giver 5 (some .int) ∈ tb := tb_mem 1362 rfl rfl
set_option maxRecDepth 100000 in
theorem km_L_82 : Cond.methodLink RL 82 yX12_stage ∈ tb := tb_mem 1363 (by decide +kernel) rfl
set_option maxRecDepth 100000 in
theorem kj_X12_stage : Cond.instanceMethod yX12_stage ∈ tb := tb_mem 1364 (by decide +kernel) rfl
set_option maxRecDepth 100000 in
theorem kl_X12_stage : Cond.selects RX12 yX12_stage yX12_stage ∈ tb := tb_mem 1365 (by decide +kernel) rfl
set_option maxRecDepth 100000 in
theorem kd_X12_stage : Cond.code yX12_stage cX12_stage 3 (some .int) ∈ tb := tb_mem 1366 rfl rfl
set_option maxRecDepth 100000 in
theorem kk_X12_282 : Cond.constantLong RX12 282 (100000000 : Int64) ∈ tb := tb_mem 1367 (by decide +kernel) rfl
set_option maxRecDepth 100000 in
theorem kk_X12_284 : Cond.constantLong RX12 284 (24 : Int64) ∈ tb := tb_mem 1368 (by decide +kernel) rfl
set_option maxRecDepth 100000 in
theorem km_L_86 : Cond.methodLink RL 86 yX12_begin ∈ tb := tb_mem 1369 (by decide +kernel) rfl
set_option maxRecDepth 100000 in
theorem kj_X12_begin : Cond.instanceMethod yX12_begin ∈ tb := tb_mem 1370 (by decide +kernel) rfl
set_option maxRecDepth 100000 in
theorem kl_X12_begin : Cond.selects RX12 yX12_begin yX12_begin ∈ tb := tb_mem 1371 (by decide +kernel) rfl
set_option maxRecDepth 100000 in
theorem kd_X12_begin : Cond.code yX12_begin cX12_begin 1 (some .int) ∈ tb := tb_mem 1372 rfl rfl
set_option maxRecDepth 100000 in
theorem km_X12_292 : Cond.methodLink RX12 292 yX12_runs ∈ tb := tb_mem 1373 (by decide +kernel) rfl
set_option maxRecDepth 100000 in
theorem kj_X12_runs : Cond.instanceMethod yX12_runs ∈ tb := tb_mem 1375 (by decide +kernel) rfl
set_option maxRecDepth 100000 in
theorem kd_X12_runs : Cond.code yX12_runs cX12_runs 1 (some .boolean) ∈ tb := tb_mem 1376 rfl rfl
set_option maxRecDepth 100000 in
theorem km_L_90 : Cond.methodLink RL 90 yX12_built ∈ tb := tb_mem 1377 (by decide +kernel) rfl
set_option maxRecDepth 100000 in
theorem kj_X12_built : Cond.instanceMethod yX12_built ∈ tb := tb_mem 1378 (by decide +kernel) rfl
set_option maxRecDepth 100000 in
theorem kl_X12_built : Cond.selects RX12 yX12_built yX12_built ∈ tb := tb_mem 1379 (by decide +kernel) rfl
set_option maxRecDepth 100000 in
theorem kd_X12_built : Cond.code yX12_built cX12_built 3 (some .int) ∈ tb := tb_mem 1380 rfl rfl
set_option maxRecDepth 100000 in
theorem km_L_94 : Cond.methodLink RL 94 yX12_months ∈ tb := tb_mem 1381 (by decide +kernel) rfl
set_option maxRecDepth 100000 in
theorem kj_X12_months : Cond.instanceMethod yX12_months ∈ tb := tb_mem 1382 (by decide +kernel) rfl
set_option maxRecDepth 100000 in
theorem kl_X12_months : Cond.selects RX12 yX12_months yX12_months ∈ tb := tb_mem 1383 (by decide +kernel) rfl
set_option maxRecDepth 100000 in
theorem kd_X12_months : Cond.code yX12_months cX12_months 3 (some .int) ∈ tb := tb_mem 1384 rfl rfl
set_option maxRecDepth 100000 in
theorem km_X12_311 : Cond.methodLink RX12 311 yX12_endMonth ∈ tb := tb_mem 1385 (by decide +kernel) rfl
set_option maxRecDepth 100000 in
theorem kj_X12_endMonth : Cond.instanceMethod yX12_endMonth ∈ tb := tb_mem 1387 (by decide +kernel) rfl
set_option maxRecDepth 100000 in
theorem kd_X12_endMonth : Cond.code yX12_endMonth cX12_endMonth 3 none ∈ tb := tb_mem 1388 rfl rfl
set_option maxRecDepth 100000 in
theorem km_X12_301 : Cond.methodLink RX12 301 yX12_lapse ∈ tb := tb_mem 1389 (by decide +kernel) rfl
set_option maxRecDepth 100000 in
theorem kj_X12_lapse : Cond.instanceMethod yX12_lapse ∈ tb := tb_mem 1391 (by decide +kernel) rfl
set_option maxRecDepth 100000 in
theorem kd_X12_lapse : Cond.code yX12_lapse cX12_lapse 4 none ∈ tb := tb_mem 1392 rfl rfl
set_option maxRecDepth 100000 in
theorem kk_X12_303 : Cond.constantLong RX12 303 (1000 : Int64) ∈ tb := tb_mem 1393 (by decide +kernel) rfl
set_option maxRecDepth 100000 in
theorem km_X12_308 : Cond.methodLink RX12 308 yX12_build ∈ tb := tb_mem 1394 (by decide +kernel) rfl
set_option maxRecDepth 100000 in
theorem kj_X12_build : Cond.instanceMethod yX12_build ∈ tb := tb_mem 1396 (by decide +kernel) rfl
set_option maxRecDepth 100000 in
theorem kd_X12_build : Cond.code yX12_build cX12_build 6 none ∈ tb := tb_mem 1397 rfl rfl
set_option maxRecDepth 100000 in
theorem km_L_98 : Cond.methodLink RL 98 yX12_sure ∈ tb := tb_mem 1398 (by decide +kernel) rfl
set_option maxRecDepth 100000 in
theorem kj_X12_sure : Cond.instanceMethod yX12_sure ∈ tb := tb_mem 1399 (by decide +kernel) rfl
set_option maxRecDepth 100000 in
theorem kl_X12_sure : Cond.selects RX12 yX12_sure yX12_sure ∈ tb := tb_mem 1400 (by decide +kernel) rfl
set_option maxRecDepth 100000 in
theorem kd_X12_sure : Cond.code yX12_sure cX12_sure 12 (some .int) ∈ tb := tb_mem 1401 rfl rfl
set_option maxRecDepth 100000 in
theorem km_L_102 : Cond.methodLink RL 102 yX12_stone ∈ tb := tb_mem 1402 (by decide +kernel) rfl
set_option maxRecDepth 100000 in
theorem kj_X12_stone : Cond.instanceMethod yX12_stone ∈ tb := tb_mem 1403 (by decide +kernel) rfl
set_option maxRecDepth 100000 in
theorem kl_X12_stone : Cond.selects RX12 yX12_stone yX12_stone ∈ tb := tb_mem 1404 (by decide +kernel) rfl
set_option maxRecDepth 100000 in
theorem kd_X12_stone : Cond.code yX12_stone cX12_stone 2 (some .int) ∈ tb := tb_mem 1405 rfl rfl
set_option maxRecDepth 100000 in
theorem km_X12_314 : Cond.methodLink RX12 314 yX12_carve ∈ tb := tb_mem 1406 (by decide +kernel) rfl
set_option maxRecDepth 100000 in
theorem kj_X12_carve : Cond.instanceMethod yX12_carve ∈ tb := tb_mem 1408 (by decide +kernel) rfl
set_option maxRecDepth 100000 in
theorem kd_X12_carve : Cond.code yX12_carve cX12_carve 5 (some .int) ∈ tb := tb_mem 1409 rfl rfl
set_option maxRecDepth 100000 in
theorem km_L_106 : Cond.methodLink RL 106 yX12_stop ∈ tb := tb_mem 1410 (by decide +kernel) rfl
set_option maxRecDepth 100000 in
theorem kj_X12_stop : Cond.instanceMethod yX12_stop ∈ tb := tb_mem 1411 (by decide +kernel) rfl
set_option maxRecDepth 100000 in
theorem kl_X12_stop : Cond.selects RX12 yX12_stop yX12_stop ∈ tb := tb_mem 1412 (by decide +kernel) rfl
set_option maxRecDepth 100000 in
theorem kd_X12_stop : Cond.code yX12_stop cX12_stop 4 (some .int) ∈ tb := tb_mem 1413 rfl rfl
set_option maxRecDepth 100000 in
theorem km_X12_317 : Cond.methodLink RX12 317 yX12_allGiven ∈ tb := tb_mem 1414 (by decide +kernel) rfl
set_option maxRecDepth 100000 in
theorem kj_X12_allGiven : Cond.instanceMethod yX12_allGiven ∈ tb := tb_mem 1416 (by decide +kernel) rfl
set_option maxRecDepth 100000 in
theorem kd_X12_allGiven : Cond.code yX12_allGiven cX12_allGiven 3 (some .int) ∈ tb := tb_mem 1417 rfl rfl
set_option maxRecDepth 100000 in
theorem km_L_110 : Cond.methodLink RL 110 yX12_back ∈ tb := tb_mem 1418 (by decide +kernel) rfl
set_option maxRecDepth 100000 in
theorem kj_X12_back : Cond.instanceMethod yX12_back ∈ tb := tb_mem 1419 (by decide +kernel) rfl
set_option maxRecDepth 100000 in
theorem kl_X12_back : Cond.selects RX12 yX12_back yX12_back ∈ tb := tb_mem 1420 (by decide +kernel) rfl
set_option maxRecDepth 100000 in
theorem kd_X12_back : Cond.code yX12_back cX12_back 2 (some .int) ∈ tb := tb_mem 1421 rfl rfl
set_option maxRecDepth 100000 in
theorem km_L_114 : Cond.methodLink RL 114 yX12_count ∈ tb := tb_mem 1422 (by decide +kernel) rfl
set_option maxRecDepth 100000 in
theorem kj_X12_count : Cond.instanceMethod yX12_count ∈ tb := tb_mem 1423 (by decide +kernel) rfl
set_option maxRecDepth 100000 in
theorem kl_X12_count : Cond.selects RX12 yX12_count yX12_count ∈ tb := tb_mem 1424 (by decide +kernel) rfl
set_option maxRecDepth 100000 in
theorem kd_X12_count : Cond.code yX12_count cX12_count 4 (some .int) ∈ tb := tb_mem 1425 rfl rfl
set_option maxRecDepth 100000 in
theorem kf_J0_9 : Cond.fieldLink RJ0 9 "java/lang/String" "value" "[B" ∈ tb := tb_mem 1427 (by decide +kernel) rfl
set_option maxRecDepth 100000 in
theorem kf_J0_15 : Cond.fieldLink RJ0 15 "java/lang/String" "coder" "B" ∈ tb := tb_mem 1428 (by decide +kernel) rfl
end
section
-- ===== the words of my contracts: statics and nest words (gx), a contract's start (cP), its end's world (cB), where a walk stands (cS) =====
def untold : Nat → Int32 := fun j => if j = 4 then 3 else if j = 7 then 1000 else 0
def gxW (U : State) : Prop :=
  va_Nw (.methodLinkNest RX10 9 yX6_init "TowerAppeal") U ∧ va_Nw (.methodLinkNest RX10 18 yX9_init "TowerAppeal") U ∧ va_Nw (.methodLinkNest RX10 39 yX2_init "TowerAppeal") U ∧ va_Nw (.methodLinkNest RX10 46 yX5_init "TowerAppeal") U ∧ va_Nw (.methodLinkNest RX10 53 yX3_init "TowerAppeal") U ∧ va_Nw (.methodLinkNest RX10 60 yX7_init "TowerAppeal") U ∧ va_Nw (.methodLinkNest RX0 31 yX10_isGiver "TowerAppeal") U ∧ va_AO RX1 U ∧ va_AO RX4 U
def gxH (k : Nat → Nat) (A : Nat → Prop) (U : State) (H : Heap) : Prop :=
  va_Z "TowerAppeal$Trust" "UNTOLD" "[I" (.ref (k 0)) A U H ∧ va_T .int (k 0) 9 (fun j => .int (untold j)) A U H ∧ va_Z "TowerAppealModel" "PLAIN" "[I" (.ref (k 1)) A U H ∧ va_T .int (k 1) 9 (fun j => .int (untold j)) A U H ∧ va_Zq "java/lang/Throwable" "UNASSIGNED_STACK" "[Ljava/lang/StackTraceElement;" A U H ∧ va_Zq "java/lang/Throwable" "SUPPRESSED_SENTINEL" "Ljava/util/List;" A U H
def gx (k : Nat → Nat) (A : Nat → Prop) (U : State) (H : Heap) : Prop := gxW U ∧ gxH k A U H
theorem gxW.calling {U : State} (h : gxW U) (g : JFrame) (mk : MethodId) (a : Array Value) : gxW (U.calling g mk a) := by
  obtain ⟨h1, h2, h3, h4, h5, h6, h7, h8, h9⟩ := h
  exact ⟨va_Nw.same (u := U) rfl rfl h1, va_Nw.same (u := U) rfl rfl h2, va_Nw.same (u := U) rfl rfl h3, va_Nw.same (u := U) rfl rfl h4, va_Nw.same (u := U) rfl rfl h5, va_Nw.same (u := U) rfl rfl h6, va_Nw.same (u := U) rfl rfl h7, va_AO.moved (u := U) (Vm.Alike.refl U.vm) h8, va_AO.moved (u := U) (Vm.Alike.refl U.vm) h9⟩
theorem gxW.warm {s U : State} (hW : s.WarmedH U.vm) (h : gxW s) : gxW U := by
  obtain ⟨h1, h2, h3, h4, h5, h6, h7, h8, h9⟩ := h
  exact ⟨va_Nw.warmM hW h1, va_Nw.warmM hW h2, va_Nw.warmM hW h3, va_Nw.warmM hW h4, va_Nw.warmM hW h5, va_Nw.warmM hW h6, va_Nw.warmM hW h7, va_AO.moved hW.alike h8, va_AO.moved hW.alike h9⟩
theorem gxH.moved {k : Nat → Nat} {A : Nat → Prop} {u U : State} {H : Heap} (hvm : u.vm.Alike U.vm) (h : gxH k A u H) : gxH k A U H := by
  obtain ⟨h1, h2, h3, h4, h5, h6⟩ := h
  exact ⟨h1.moved hvm, h2.moved hvm, h3.moved hvm, h4.moved hvm, h5.moved hvm, h6.moved hvm⟩
theorem gxH.kept {k : Nat → Nat} {A : Nat → Prop} {U : State} {H H1 : Heap} (h : gxH k A U H) (hq : ∀ a : Nat, a < H.size → ¬ A a → H1[a]? = H[a]?) : gxH k A U H1 := by
  obtain ⟨h1, h2, h3, h4, h5, h6⟩ := h
  exact ⟨h1.kept hq, h2.kept hq, h3.kept hq, h4.kept hq, h5.kept hq, h6.kept hq⟩
theorem gxH.narrow {k : Nat → Nat} {A B : Nat → Prop} {U : State} {H : Heap} (h : gxH k A U H) (hAB : ∀ q, B q → A q) : gxH k B U H := by
  obtain ⟨h1, h2, h3, h4, h5, h6⟩ := h
  exact ⟨h1.narrow hAB, h2.narrow hAB, h3.narrow hAB, h4.narrow hAB, h5.narrow hAB, h6.narrow hAB⟩
/-- a contract's start: the heap's size, the cells, the classes, apart, the statics -/
def cP (G : va_G) (k : Nat → Nat) (ws : va_W) (tys : List (ClassId × FieldType)) (sz : Nat) (U : State) : Prop :=
  U.heap.size = sz ∧ va_P G vwCl ws U.heap ∧ va_K G vwCl tys U ∧ va_D (fun _ => True) ws ∧ gx k (va_A ws sz) U U.heap
/-- a contract's end: the cells that it hands back, new array classes -/
def cB {S : Type} (G : va_G) (wo : S → va_W) (to : S → List (ClassId × FieldType)) (A : Nat → Prop) (u : S) (t : State) : Prop :=
  va_P G vwCl (wo u) t.heap ∧ va_K G vwCl (to u) t ∧ va_D A (wo u)
/-- where a walk stands -/
def cS (G : va_G) (k : Nat → Nat) (ws : va_W) (tys : List (ClassId × FieldType)) (A : Nat → Prop) (s : State) (H : Heap) (locs : List Loc) : Prop :=
  va_K G vwCl tys s ∧ va_P G vwCl ws H ∧ va_D A ws ∧ va_S A s.heap H locs ∧ (∀ q, s.heap.size ≤ q → A q) ∧ gx k A s s.heap
theorem cP_blind {G : va_G} {k : Nat → Nat} {ws : va_W} {tys : List (ClassId × FieldType)} {sz : Nat} {av : List Value} : FrameBlind (va_Pc av (cP G k ws tys sz)) := by
  intro a U g mk q
  obtain ⟨q0, q1, q2, q3, q4, q5, q6⟩ := q
  exact ⟨q0, q1, q2, va_K.moved (u := U) (U := U.calling g mk a) (Vm.Alike.refl U.vm) q3, q4, q5.calling g mk a, gxH.moved (u := U) (U := U.calling g mk a) (Vm.Alike.refl U.vm) q6⟩
theorem fm_of_map {α β : Type} (f : α → Option β) : ∀ (l : List α) (w : List β), l.map f = w.map some → l.filterMap f = w
  | [], w, h => by cases w with
    | nil => rfl
    | cons b w => cases h
  | x :: l, w, h => by
    cases w with
    | nil => cases h
    | cons b w =>
      rw [List.map_cons, List.map_cons] at h
      injection h with h1 h2
      rw [List.filterMap_cons, h1, fm_of_map f l w h2]
/-- what a call takes of the tables, by the method -/
def mV (y : MethodName) (bytes : ByteArray) (maxL : Nat) (ret : Option FieldType) (n : Nat) : Prop := Cond.code y bytes maxL ret ∈ tb ∧ Cond.initialized y.cls ∈ tb ∧ Cond.instanceMethod y ∈ tb ∧ Cond.selects y.cls y y ∈ tb ∧ (y.cls ≠ "java/lang/invoke/MethodHandle" ∧ y.cls ≠ "java/lang/invoke/VarHandle" ∧ (parseMethodDescriptor y.desc).map (fun d => d.parameters.length) = some n)
def mS (y : MethodName) (bytes : ByteArray) (maxL : Nat) (ret : Option FieldType) (n : Nat) : Prop := Cond.code y bytes maxL ret ∈ tb ∧ Cond.initialized y.cls ∈ tb ∧ Cond.static y ∈ tb ∧ (y.cls ≠ "java/lang/invoke/MethodHandle" ∧ y.cls ≠ "java/lang/invoke/VarHandle" ∧ (parseMethodDescriptor y.desc).map (fun d => d.parameters.length) = some n)
def mI (y : MethodName) (bytes : ByteArray) (maxL : Nat) (n : Nat) : Prop := Cond.code y bytes maxL none ∈ tb ∧ Cond.initialized y.cls ∈ tb ∧ Cond.instanceMethod y ∈ tb ∧ y.name = "<init>" ∧ (y.cls ≠ "java/lang/invoke/MethodHandle" ∧ y.cls ≠ "java/lang/invoke/VarHandle" ∧ (parseMethodDescriptor y.desc).map (fun d => d.parameters.length) = some n)
theorem in_of {C : String} {T : u_T} {N : Nat} (ps : List Nat) (h : ∀ j, j < N → lw_tbl[ps.getD j 0]? = some (u_lay C T j) ∧ goodWord (u_lay C T j) = true) : ∀ w ∈ u_ws C T N, w ∈ tb := by
  intro w hw
  obtain ⟨j, hj, rfl⟩ := List.mem_map.mp hw
  have hj := List.mem_range.mp hj
  exact tb_mem _ (h j hj).1 (h j hj).2
theorem ci_lt {x y : Int32} {u v : Int} (hx : x.toInt = u) (hy : y.toInt = v) (h : x < y) : u < v := by rw [← hx, ← hy]; exact Int32.lt_iff_toInt_lt.mp h
theorem ci_nlt {x y : Int32} {u v : Int} (hx : x.toInt = u) (hy : y.toInt = v) (h : ¬ x < y) : ¬ u < v := by rw [← hx, ← hy]; exact fun q => h (Int32.lt_iff_toInt_lt.mpr q)
theorem ci_le {x y : Int32} {u v : Int} (hx : x.toInt = u) (hy : y.toInt = v) (h : x ≤ y) : u ≤ v := by rw [← hx, ← hy]; exact Int32.le_iff_toInt_le.mp h
theorem ci_nle {x y : Int32} {u v : Int} (hx : x.toInt = u) (hy : y.toInt = v) (h : ¬ x ≤ y) : ¬ u ≤ v := by rw [← hx, ← hy]; exact fun q => h (Int32.le_iff_toInt_le.mpr q)
theorem ci_eq {x y : Int32} {u v : Int} (hx : x.toInt = u) (hy : y.toInt = v) (h : x = y) : u = v := by rw [← hx, ← hy, h]
theorem ci_ne {x y : Int32} {u v : Int} (hx : x.toInt = u) (hy : y.toInt = v) (h : ¬ x = y) : ¬ u = v := by rw [← hx, ← hy]; exact fun q => h (Int32.toInt_inj.mp q)
theorem ci_bm (z : Int) : z.bmod (2 ^ 32) = (z + 2147483648) % 4294967296 - 2147483648 := by simp only [Int.bmod]; omega
theorem ci_add {x y z : Int32} {u v : Int} (hx : x.toInt = u) (hy : y.toInt = v) (h : z = x + y) : z.toInt = (u + v + 2147483648) % 4294967296 - 2147483648 := by rw [h, Int32.toInt_add, hx, hy]; exact ci_bm _
theorem ci_sub {x y z : Int32} {u v : Int} (hx : x.toInt = u) (hy : y.toInt = v) (h : z = x - y) : z.toInt = (u - v + 2147483648) % 4294967296 - 2147483648 := by rw [h, Int32.toInt_sub, hx, hy]; exact ci_bm _
theorem ci_rng (x : Int32) : -2147483648 ≤ x.toInt ∧ x.toInt < 2147483648 := ⟨by have := Int32.le_toInt x; omega, by have := Int32.toInt_lt x; omega⟩
section CB
variable {p : Program} {l : Launch} {e : Env} {R : Room} {s : State} {m : MethodId} {args : Array Value} {below : List Frame} {meth : Method} {c : Code} {H : Heap} {locs : List Loc} {cells slots : Nat} {Q : State → Prop}
variable {cc : ByteArray} {pc nL : Nat} {ls : Array Slot} {rest : List Value} {G : va_G} {k : Nat → Nat} {A : Nat → Prop} {a : Nat} {tys tc : List (ClassId × FieldType)} {ws wc wr w' : va_W} {own : String}
theorem top_i {x y : Int32} (h : x = y) (kk : W p l e R s m args below meth c H locs cells slots Q (F0 m pc ls (.int y :: rest))) : W p l e R s m args below meth c H locs cells slots Q (F0 m pc ls (.int x :: rest)) := h ▸ kk
theorem top_l {x y : Int64} (h : x = y) (kk : W p l e R s m args below meth c H locs cells slots Q (F0 m pc ls (.long y :: rest))) : W p l e R s m args below meth c H locs cells slots Q (F0 m pc ls (.long x :: rest)) := h ▸ kk
/-- a method's start -/
theorem ofC {y : MethodName} {wsY : List Cond} {cd : Cond} {rm : Room} {sz mc ms maxL : Nat} {av : List Value} {ret : Option FieldType} {Qc : (Nat → Prop) → Array Value → State → Outcome → State → Prop}
    (hy : plainName y.cls = true) (hcd : cd = Cond.code y cc maxL ret) (hw : wsY = cd :: tb) (hlen : (lg_sl av).length ≤ maxL)
    (body : ∀ (p : Program) (e : Env) (s : State) (m : MethodId) (args : Array Value) (below : List Frame) (meth : Method) (c : Code) (A : Nat → Prop) (ls : Array Slot) (Q : State → Prop), CallFix p m c cc maxL s args tb y.cls → meth.sig.returnType = ret → meth.name = y.name → meth.locks = false → cS G k ws tys A s s.heap [] → lv_has ls maxL (lv_args 0 av) → Q = MQ below (Qc A) args s mc ms A → W p l e rm s m args below meth c s.heap [] 0 0 Q (F0 m 0 ls [])) :
    Met l y wsY rm (va_Pc av (cP G k ws tys sz)) (Qc (va_A ws sz)) mc ms (va_A ws sz) := by
  subst hcd
  subst hw
  refine Met.ofW (cc := cc) (maxL := maxL) (ret := ret) hy rfl ?_
  intro p e s m args below meth c s₁ B hml hv
  obtain ⟨rfl, hsz, hP, hK, hD0, hg⟩ := hv
  have hl := lv_entry av (n := maxL) hlen
  rw [lg_entry_eq]
  subst hsz
  have hts := atoms_spec (ws := Cond.code y cc maxL ret :: tb) B.pre
  exact body p e s m _ below meth c _ _ _ ⟨B.exec, B.bytes, hml, findClass_of_methodNamed B.named, fun w h => hts w (List.mem_cons_of_mem _ h)⟩ B.returns (name_of_methodNamed B.named B.method).1 B.notSynchronized ⟨hK, hP, hD0.self, va_S.rf, fun q h => Or.inr h, hg⟩ hl rfl
theorem ofC_i {S : Type} {post : Int32 → S → Prop} {wo : S → va_W} {to : S → List (ClassId × FieldType)} {y : MethodName} {wsY : List Cond} {rm : Room} {sz mc ms maxL : Nat} {av : List Value} {ret : Option FieldType}
    (hy : plainName y.cls = true) (hw : wsY = Cond.code y cc maxL ret :: tb) (hlen : (lg_sl av).length ≤ maxL)
    (body : ∀ (p : Program) (e : Env) (s : State) (m : MethodId) (args : Array Value) (below : List Frame) (meth : Method) (c : Code) (A : Nat → Prop) (ls : Array Slot) (Q : State → Prop), CallFix p m c cc maxL s args tb y.cls → meth.sig.returnType = ret → meth.name = y.name → meth.locks = false → cS G k ws tys A s s.heap [] → lv_has ls maxL (lv_args 0 av) → Q = MQ below (va_Qi post (cB G wo to A) A) args s mc ms A → W p l e rm s m args below meth c s.heap [] 0 0 Q (F0 m 0 ls [])) :
    Met l y wsY rm (va_Pc av (cP G k ws tys sz)) (va_Qi post (cB G wo to (va_A ws sz)) (va_A ws sz)) mc ms (va_A ws sz) := ofC (Qc := fun A => va_Qi post (cB G wo to A) A) hy rfl hw hlen body
theorem ofC_l {S : Type} {post : Int64 → S → Prop} {wo : S → va_W} {to : S → List (ClassId × FieldType)} {y : MethodName} {wsY : List Cond} {rm : Room} {sz mc ms maxL : Nat} {av : List Value} {ret : Option FieldType}
    (hy : plainName y.cls = true) (hw : wsY = Cond.code y cc maxL ret :: tb) (hlen : (lg_sl av).length ≤ maxL)
    (body : ∀ (p : Program) (e : Env) (s : State) (m : MethodId) (args : Array Value) (below : List Frame) (meth : Method) (c : Code) (A : Nat → Prop) (ls : Array Slot) (Q : State → Prop), CallFix p m c cc maxL s args tb y.cls → meth.sig.returnType = ret → meth.name = y.name → meth.locks = false → cS G k ws tys A s s.heap [] → lv_has ls maxL (lv_args 0 av) → Q = MQ below (va_Ql post (cB G wo to A) A) args s mc ms A → W p l e rm s m args below meth c s.heap [] 0 0 Q (F0 m 0 ls [])) :
    Met l y wsY rm (va_Pc av (cP G k ws tys sz)) (va_Ql post (cB G wo to (va_A ws sz)) (va_A ws sz)) mc ms (va_A ws sz) := ofC (Qc := fun A => va_Ql post (cB G wo to A) A) hy rfl hw hlen body
theorem ofC_v {S : Type} {post : S → Prop} {wo : S → va_W} {to : S → List (ClassId × FieldType)} {y : MethodName} {wsY : List Cond} {rm : Room} {sz mc ms maxL : Nat} {av : List Value} {ret : Option FieldType}
    (hy : plainName y.cls = true) (hw : wsY = Cond.code y cc maxL ret :: tb) (hlen : (lg_sl av).length ≤ maxL)
    (body : ∀ (p : Program) (e : Env) (s : State) (m : MethodId) (args : Array Value) (below : List Frame) (meth : Method) (c : Code) (A : Nat → Prop) (ls : Array Slot) (Q : State → Prop), CallFix p m c cc maxL s args tb y.cls → meth.sig.returnType = ret → meth.name = y.name → meth.locks = false → cS G k ws tys A s s.heap [] → lv_has ls maxL (lv_args 0 av) → Q = MQ below (va_Qv post (cB G wo to A) A) args s mc ms A → W p l e rm s m args below meth c s.heap [] 0 0 Q (F0 m 0 ls [])) :
    Met l y wsY rm (va_Pc av (cP G k ws tys sz)) (va_Qv post (cB G wo to (va_A ws sz)) (va_A ws sz)) mc ms (va_A ws sz) := ofC (Qc := fun A => va_Qv post (cB G wo to A) A) hy rfl hw hlen body
theorem ofC_q {S : Type} {post : Option Nat → S → Prop} {wo : S → va_W} {to : S → List (ClassId × FieldType)} {y : MethodName} {wsY : List Cond} {rm : Room} {sz mc ms maxL : Nat} {av : List Value} {ret : Option FieldType}
    (hy : plainName y.cls = true) (hw : wsY = Cond.code y cc maxL ret :: tb) (hlen : (lg_sl av).length ≤ maxL)
    (body : ∀ (p : Program) (e : Env) (s : State) (m : MethodId) (args : Array Value) (below : List Frame) (meth : Method) (c : Code) (A : Nat → Prop) (ls : Array Slot) (Q : State → Prop), CallFix p m c cc maxL s args tb y.cls → meth.sig.returnType = ret → meth.name = y.name → meth.locks = false → cS G k ws tys A s s.heap [] → lv_has ls maxL (lv_args 0 av) → Q = MQ below (va_Qq post (cB G wo to A) A) args s mc ms A → W p l e rm s m args below meth c s.heap [] 0 0 Q (F0 m 0 ls [])) :
    Met l y wsY rm (va_Pc av (cP G k ws tys sz)) (va_Qq post (cB G wo to (va_A ws sz)) (va_A ws sz)) mc ms (va_A ws sz) := ofC (Qc := fun A => va_Qq post (cB G wo to A) A) hy rfl hw hlen body
theorem cS.toS (St : cS G k ws tys A s H locs) : va_S A s.heap H locs := St.2.2.2.1
/-- what a callee asks, out of where the walk stands -/
theorem cs_pre (St : cS G k ws tys A s H locs) {av : List Value} (isC : List Nat) (hC : isC.map (fun i => ws[i]?) = wc.map some) (hn : va_nd isC = true) (itC : List Nat) (hT : itC.filterMap (fun i => tys[i]?) = tc) : PreS s H (va_Pc av (cP G k wc tc H.size)) av := by
  obtain ⟨hK, hP, hD, hS, hA, hg⟩ := St
  have hF := va_free (wc := wc) hD hS hA isC hC
  have hP2 := hP.sub (ws' := wc) isC (fm_of_map _ _ _ hC)
  have hD2 := hD.sub (ws' := wc) isC hn hC
  have hK2 := hK.sub (tys' := tc) itC hT
  refine ⟨cP_blind, fun U hU hW => ⟨rfl, by rw [hU], by rw [hU]; exact hP2, va_K.moved hW.alike hK2, hD2.weaken (fun _ _ _ _ => trivial), hg.1.warm hW, ?_⟩⟩
  have h2 := ((hg.2.moved hW.alike).kept (H1 := H) (fun q h1 h2 => hS.2.1 q h1 h2)).narrow hF
  rw [hU]
  exact h2
theorem cs_preV (St : cS G k ws tys A s H locs) {av : List Value} {b : Addr} {C : String} (isC : List Nat) (hC : isC.map (fun i => ws[i]?) = wc.map some) (hn : va_nd isC = true) (itC : List Nat) (hT : itC.filterMap (fun i => tys[i]?) = tc) {ci q0 : Nat} {T : u_T} {N : Nat} {fs : List Value} (hc : vwCl[ci]? = some (C, T, N)) (he : ws[q0]? = some (b, .inr (ci, fs))) : PreV s H C b (va_Pc (.ref b :: av) (cP G k wc tc H.size)) av :=
  ⟨(cs_pre St isC hC hn itC hT (av := .ref b :: av)).1, va_recv St.1 St.2.1 hc he, (cs_pre St isC hC hn itC hT).2⟩
theorem cs_back {S : Type} {wo : S → va_W} {to : S → List (ClassId × FieldType)} (St : cS G k ws tys A s H locs) (isC isR : List Nat) (hC : isC.map (fun i => ws[i]?) = wc.map some) (hR : isR.map (fun i => ws[i]?) = wr.map some) (hn : va_nd isR = true) (hdis : ∀ i ∈ isR, i ∉ isC) {u : S} {t : State} {H1 : Heap} {locs1 : List Loc} (ht : t.heap = H1) (hvm : s.vm.Alike t.vm) (hB : cB G wo to (va_A wc H.size) u t) (hk : ∀ q : Nat, q < H.size → ¬ va_A wc H.size q → H1[q]? = H[q]?) (hS1 : va_S A s.heap H1 locs1) : cS G k (wr ++ wo u) (tys ++ to u) A s H1 locs1 := by
  obtain ⟨hK, hP, hD, hS, hA, hg⟩ := St
  obtain ⟨hP1, hK1, hD1⟩ := hB
  rw [ht] at hP1
  obtain ⟨hP2, hD2⟩ := va_join (wr := wr) (w1 := wo u) hP hD isC isR hC hR hn hdis hk (va_free (wc := wc) hD hS hA isC hC) hP1 hD1
  exact ⟨hK.app (va_K.moved hvm.symm hK1), hP2, hD2, hS1, hA, hg⟩
theorem cs_i {S : Type} {post : Int32 → S → Prop} {wo : S → va_W} {to : S → List (ClassId × FieldType)} {mc ms : Nat} {st0 : List Value} {av : Array Value} (St : cS G k ws tys A s H locs) (isC isR : List Nat) (hC : isC.map (fun i => ws[i]?) = wc.map some) (hR : isR.map (fun i => ws[i]?) = wr.map some) (hn : va_nd isR = true) (hdis : ∀ i ∈ isR, i ∉ isC)
    (hr : va_Run p l e R s m args below meth c H locs cells slots mc ms (F0 m pc ls st0) rest (va_Qi post (cB G wo to (va_A wc H.size)) (va_A wc H.size) av) (va_A wc H.size))
    (kk : ∀ (r : Int32) (u : S) (H1 : Heap) (locs1 : List Loc), post r u → cS G k (wr ++ wo u) (tys ++ to u) A s H1 locs1 → W p l e R s m args below meth c H1 locs1 (cells + mc) (slots + ms) Q (F0 m (pc + 3) ls (.int r :: rest))) : W p l e R s m args below meth c H locs cells slots Q (F0 m pc ls st0) := by
  have hF := va_free (wc := wc) St.2.2.1 St.toS St.2.2.2.2.1 isC hC
  exact va_calli hr St.toS (fun q _ h => hF q h) hF (fun r u t H1 locs1 ht hvm hp hB hz hk hS1 => kk r u H1 locs1 hp (cs_back St isC isR hC hR hn hdis ht hvm hB hk hS1))
theorem cs_l {S : Type} {post : Int64 → S → Prop} {wo : S → va_W} {to : S → List (ClassId × FieldType)} {mc ms : Nat} {st0 : List Value} {av : Array Value} (St : cS G k ws tys A s H locs) (isC isR : List Nat) (hC : isC.map (fun i => ws[i]?) = wc.map some) (hR : isR.map (fun i => ws[i]?) = wr.map some) (hn : va_nd isR = true) (hdis : ∀ i ∈ isR, i ∉ isC)
    (hr : va_Run p l e R s m args below meth c H locs cells slots mc ms (F0 m pc ls st0) rest (va_Ql post (cB G wo to (va_A wc H.size)) (va_A wc H.size) av) (va_A wc H.size))
    (kk : ∀ (r : Int64) (u : S) (H1 : Heap) (locs1 : List Loc), post r u → cS G k (wr ++ wo u) (tys ++ to u) A s H1 locs1 → W p l e R s m args below meth c H1 locs1 (cells + mc) (slots + ms) Q (F0 m (pc + 3) ls (.long r :: rest))) : W p l e R s m args below meth c H locs cells slots Q (F0 m pc ls st0) := by
  have hF := va_free (wc := wc) St.2.2.1 St.toS St.2.2.2.2.1 isC hC
  exact va_calll hr St.toS (fun q _ h => hF q h) hF (fun r u t H1 locs1 ht hvm hp hB hz hk hS1 => kk r u H1 locs1 hp (cs_back St isC isR hC hR hn hdis ht hvm hB hk hS1))
theorem cs_v {S : Type} {post : S → Prop} {wo : S → va_W} {to : S → List (ClassId × FieldType)} {mc ms : Nat} {st0 : List Value} {av : Array Value} (St : cS G k ws tys A s H locs) (isC isR : List Nat) (hC : isC.map (fun i => ws[i]?) = wc.map some) (hR : isR.map (fun i => ws[i]?) = wr.map some) (hn : va_nd isR = true) (hdis : ∀ i ∈ isR, i ∉ isC)
    (hr : va_Run p l e R s m args below meth c H locs cells slots mc ms (F0 m pc ls st0) rest (va_Qv post (cB G wo to (va_A wc H.size)) (va_A wc H.size) av) (va_A wc H.size))
    (kk : ∀ (u : S) (H1 : Heap) (locs1 : List Loc), post u → cS G k (wr ++ wo u) (tys ++ to u) A s H1 locs1 → W p l e R s m args below meth c H1 locs1 (cells + mc) (slots + ms) Q (F0 m (pc + 3) ls rest)) : W p l e R s m args below meth c H locs cells slots Q (F0 m pc ls st0) := by
  have hF := va_free (wc := wc) St.2.2.1 St.toS St.2.2.2.2.1 isC hC
  exact va_callv hr St.toS (fun q _ h => hF q h) hF (fun u t H1 locs1 ht hvm hp hB hz hk hS1 => kk u H1 locs1 hp (cs_back St isC isR hC hR hn hdis ht hvm hB hk hS1))
theorem cs_q {S : Type} {post : Option Nat → S → Prop} {wo : S → va_W} {to : S → List (ClassId × FieldType)} {mc ms : Nat} {st0 : List Value} {av : Array Value} (St : cS G k ws tys A s H locs) (isC isR : List Nat) (hC : isC.map (fun i => ws[i]?) = wc.map some) (hR : isR.map (fun i => ws[i]?) = wr.map some) (hn : va_nd isR = true) (hdis : ∀ i ∈ isR, i ∉ isC)
    (hr : va_Run p l e R s m args below meth c H locs cells slots mc ms (F0 m pc ls st0) rest (va_Qq post (cB G wo to (va_A wc H.size)) (va_A wc H.size) av) (va_A wc H.size))
    (kk : ∀ (r : Option Nat) (u : S) (H1 : Heap) (locs1 : List Loc), post r u → cS G k (wr ++ wo u) (tys ++ to u) A s H1 locs1 → W p l e R s m args below meth c H1 locs1 (cells + mc) (slots + ms) Q (F0 m (pc + 3) ls (va_rf r :: rest))) : W p l e R s m args below meth c H locs cells slots Q (F0 m pc ls st0) := by
  have hF := va_free (wc := wc) St.2.2.1 St.toS St.2.2.2.2.1 isC hC
  exact va_callq hr St.toS (fun q _ h => hF q h) hF (fun r u t H1 locs1 ht hvm hp hB hz hk hS1 => kk r u H1 locs1 hp (cs_back St isC isR hC hR hn hdis ht hvm hB hk hS1))
-- calls
theorem cwVt {y : MethodName} {bytes : ByteArray} {maxL n index mc ms : Nat} {ret : Option FieldType} {rm : Room} (F : CallFix p m c cc nL s args tb own) (h : mV y bytes maxL ret n) (hl : Cond.methodLink own index y ∈ tb) (hrc : rm.cells = mc) (hrs : rm.slots = ms) (hR : rm.frames + 1 ≤ R.frames ∧ 8 + (maxL + 11) + rm.locals ≤ R.locals) : CallW R s args own y.cls index y bytes maxL ret (Cond.code y bytes maxL ret :: tb) rm mc ms n :=
  ⟨callB_of n F.2.2.2.2 (tb_GoodT h.1) rfl hrc hrs (F.2.2.2.2 _ h.2.1) (F.2.2.2.2 _ hl) h.2.2.2.2 hR, F.2.2.2.2 _ h.2.2.1, F.2.2.2.2 _ h.2.2.2.1⟩
theorem cwSt {y : MethodName} {bytes : ByteArray} {maxL n index mc ms : Nat} {ret : Option FieldType} {rm : Room} (F : CallFix p m c cc nL s args tb own) (h : mS y bytes maxL ret n) (hl : Cond.methodLink own index y ∈ tb) (hrc : rm.cells = mc) (hrs : rm.slots = ms) (hR : rm.frames + 1 ≤ R.frames ∧ 8 + (maxL + 11) + rm.locals ≤ R.locals) : CallB R s args own index y bytes maxL ret (Cond.code y bytes maxL ret :: tb) rm mc ms n ∧ (Cond.static y).before args s = true :=
  ⟨callB_of n F.2.2.2.2 (tb_GoodT h.1) rfl hrc hrs (F.2.2.2.2 _ h.2.1) (F.2.2.2.2 _ hl) h.2.2.2 hR, F.2.2.2.2 _ h.2.2.1⟩
theorem cwIt {y : MethodName} {bytes : ByteArray} {maxL n index mc ms : Nat} {rm : Room} (F : CallFix p m c cc nL s args tb own) (h : mI y bytes maxL n) (hl : Cond.methodLink own index y ∈ tb) (hrc : rm.cells = mc) (hrs : rm.slots = ms) (hR : rm.frames + 1 ≤ R.frames ∧ 8 + (maxL + 11) + rm.locals ≤ R.locals) : CallB R s args own index y bytes maxL none (Cond.code y bytes maxL none :: tb) rm mc ms n ∧ y.name = "<init>" ∧ (Cond.instanceMethod y).before args s = true :=
  ⟨callB_of n F.2.2.2.2 (tb_GoodT h.1) rfl hrc hrs (F.2.2.2.2 _ h.2.1) (F.2.2.2.2 _ hl) h.2.2.2.2 hR, h.2.2.2.1, F.2.2.2.2 _ h.2.2.1⟩
theorem cwINt {y : MethodName} {bytes : ByteArray} {maxL n index mc ms : Nat} {host : String} {rm : Room} (F : CallFix p m c cc nL s args tb own) (h : mI y bytes maxL n) (hl : va_Nw (.methodLinkNest own index y host) s) (hrc : rm.cells = mc) (hrs : rm.slots = ms) (hR : rm.frames + 1 ≤ R.frames ∧ 8 + (maxL + 11) + rm.locals ≤ R.locals) : va_CN R s args own index y host bytes maxL none (Cond.code y bytes maxL none :: tb) rm mc ms n ∧ y.name = "<init>" ∧ (Cond.instanceMethod y).before args s = true :=
  ⟨va_cnB n F.2.2.2.2 (tb_GoodT h.1) rfl hrc hrs hl (F.2.2.2.2 _ h.2.1) h.2.2.2.2 hR, h.2.2.2.1, F.2.2.2.2 _ h.2.2.1⟩
theorem cwSNt {y : MethodName} {bytes : ByteArray} {maxL n index mc ms : Nat} {ret : Option FieldType} {host : String} {rm : Room} (F : CallFix p m c cc nL s args tb own) (h : mS y bytes maxL ret n) (hl : va_Nw (.methodLinkNest own index y host) s) (hrc : rm.cells = mc) (hrs : rm.slots = ms) (hR : rm.frames + 1 ≤ R.frames ∧ 8 + (maxL + 11) + rm.locals ≤ R.locals) : va_CN R s args own index y host bytes maxL ret (Cond.code y bytes maxL ret :: tb) rm mc ms n ∧ (Cond.static y).before args s = true ∧ True :=
  ⟨va_cnB n F.2.2.2.2 (tb_GoodT h.1) rfl hrc hrs hl (F.2.2.2.2 _ h.2.1) h.2.2.2 hR, F.2.2.2.2 _ h.2.2.1, trivial⟩
-- fields
theorem cs_get (F : CallFix p m c cc nL s args tb own) (St : cS G k ws tys A s H locs) (q0 : Nat) {C : String} {T : u_T} {N ci index : Nat} {fs : List Value} (he : ws[q0]? = some (a, .inr (ci, fs))) (hc : vwCl[ci]? = some (C, T, N)) (hin : ∀ w ∈ u_ws C T N, w ∈ tb) (j : Nat) (hj : j < N) (hlink : Cond.fieldLink own index (T j).1 (T j).2.1 (T j).2.2.1 ∈ tb) {v : Value} (hv : fs[j]? = some v) (hdg : decode cc pc = .ok (.getfield index, 3))
    (kk : W p l e R s m args below meth c H locs cells slots Q (F0 m (pc + 3) ls (v :: rest))) : W p l e R s m args below meth c H locs cells slots Q (F0 m pc ls (.ref a :: rest)) :=
  va_get F.1 F.2.1 F.2.2.2.2 hin F.2.2.2.1 St.1 St.2.1 q0 he hc j hj (F.2.2.2.2 _ hlink) (fun _ h => h) hv hdg kk
theorem cs_put (F : CallFix p m c cc nL s args tb own) (St : cS G k ws tys A s H locs) (q0 : Nat) {C : String} {T : u_T} {N ci index : Nat} {fs : List Value} (he : ws[q0]? = some (a, .inr (ci, fs))) (hc : vwCl[ci]? = some (C, T, N)) (hin : ∀ w ∈ u_ws C T N, w ∈ tb) {ty0 : Nat → FieldType} (hty : ∀ k, k < N → parseFieldDescriptor (T k).2.2.1 = some (ty0 k)) (hnm : ∀ a, a < N → ∀ b, b < N → a ≠ b → (T a).2.1 ≠ (T b).2.1) (j : Nat) (hj : j < N) (hlink : Cond.fieldLink own index (T j).1 (T j).2.1 (T j).2.2.1 ∈ tb) (hfin : (T j).2.2.2 = false) {v : Value} (hn : narrow (ty0 j) v = v) (hfit : fits (ty0 j) v = true) (hl : j < fs.length) (hw : ws.set q0 (a, .inr (ci, fs.set j v)) = w') (hdg : decode cc pc = .ok (.putfield index, 3))
    (kk : ∀ (H1 : Heap) (locs1 : List Loc), cS G k w' tys A s H1 locs1 → W p l e R s m args below meth c H1 locs1 cells slots Q (F0 m (pc + 3) ls rest)) : W p l e R s m args below meth c H locs cells slots Q (F0 m pc ls (v :: .ref a :: rest)) := by
  subst hw
  exact va_put F.1 F.2.1 F.2.2.2.2 hin ty0 hty hnm F.2.2.2.1 St.1 St.2.1 St.2.2.1 St.toS q0 he hc j hj (F.2.2.2.2 _ hlink) (fun _ h => h) hfin (hty j hj) hn hfit hl hdg (fun H1 locs1 hP hD hS => kk H1 locs1 ⟨St.1, hP, hD, hS, St.2.2.2.2.1, St.2.2.2.2.2⟩)
theorem cs_putF (F : CallFix p m c cc nL s args tb own) (hin2 : meth.name = "<init>") (St : cS G k ws tys A s H locs) (q0 : Nat) {C : String} {T : u_T} {N ci index : Nat} {fs : List Value} (he : ws[q0]? = some (a, .inr (ci, fs))) (hc : vwCl[ci]? = some (C, T, N)) (hin : ∀ w ∈ u_ws C T N, w ∈ tb) {ty0 : Nat → FieldType} (hty : ∀ k, k < N → parseFieldDescriptor (T k).2.2.1 = some (ty0 k)) (hnm : ∀ a, a < N → ∀ b, b < N → a ≠ b → (T a).2.1 ≠ (T b).2.1) (j : Nat) (hj : j < N) (hlink : Cond.fieldLink own index (T j).1 (T j).2.1 (T j).2.2.1 ∈ tb) (hfin : (T j).2.2.2 = true) (hdecl : (T j).1 = own) {v : Value} (hn : narrow (ty0 j) v = v) (hfit : fits (ty0 j) v = true) (hl : j < fs.length) (hw : ws.set q0 (a, .inr (ci, fs.set j v)) = w') (hdg : decode cc pc = .ok (.putfield index, 3))
    (kk : ∀ (H1 : Heap) (locs1 : List Loc), cS G k w' tys A s H1 locs1 → W p l e R s m args below meth c H1 locs1 cells slots Q (F0 m (pc + 3) ls rest)) : W p l e R s m args below meth c H locs cells slots Q (F0 m pc ls (v :: .ref a :: rest)) := by
  subst hw
  exact va_putF F.1 F.2.1 F.2.2.2.2 hin ty0 hty hnm F.2.2.2.1 St.1 St.2.1 St.2.2.1 St.toS q0 he hc j hj (F.2.2.2.2 _ hlink) (fun _ h => h) hfin hin2 hdecl (hty j hj) hn hfit hl hdg (fun H1 locs1 hP hD hS => kk H1 locs1 ⟨St.1, hP, hD, hS, St.2.2.2.2.1, St.2.2.2.2.2⟩)
-- arrays
theorem cs_ild (F : CallFix p m c cc nL s args tb own) (St : cS G k ws tys A s H locs) (q0 t0 : Nat) {cA : ClassId} {n : Nat} {f : Nat → Int32} (ha : ws[q0]? = some (a, .inl (cA, n, .inl f))) (ht : tys[t0]? = some (cA, .int)) {i : Int32} (hin : vp_in i n) (hdg : decode cc pc = .ok (.iaload, 1))
    (kk : W p l e R s m args below meth c H locs cells slots Q (F0 m (pc + 1) ls (.int (f i.toNatClampNeg) :: rest))) : W p l e R s m args below meth c H locs cells slots Q (F0 m pc ls (.int i :: .ref a :: rest)) := va_iald F.1 F.2.1 St.1 St.2.1 q0 t0 ha ht hin hdg kk
theorem cs_bld (F : CallFix p m c cc nL s args tb own) (St : cS G k ws tys A s H locs) (q0 t0 : Nat) {cA : ClassId} {n : Nat} {f : Nat → Int32} (ha : ws[q0]? = some (a, .inl (cA, n, .inl f))) (ht : tys[t0]? = some (cA, .byte)) {i : Int32} (hin : vp_in i n) (hdg : decode cc pc = .ok (.baload, 1))
    (kk : W p l e R s m args below meth c H locs cells slots Q (F0 m (pc + 1) ls (.int (f i.toNatClampNeg) :: rest))) : W p l e R s m args below meth c H locs cells slots Q (F0 m pc ls (.int i :: .ref a :: rest)) := va_bald F.1 F.2.1 St.1 St.2.1 q0 t0 ha ht hin hdg kk
theorem cs_zld (F : CallFix p m c cc nL s args tb own) (St : cS G k ws tys A s H locs) (q0 t0 : Nat) {cA : ClassId} {n : Nat} {f : Nat → Int32} (ha : ws[q0]? = some (a, .inl (cA, n, .inl f))) (ht : tys[t0]? = some (cA, .boolean)) {i : Int32} (hin : vp_in i n) (hdg : decode cc pc = .ok (.baload, 1))
    (kk : W p l e R s m args below meth c H locs cells slots Q (F0 m (pc + 1) ls (.int (f i.toNatClampNeg) :: rest))) : W p l e R s m args below meth c H locs cells slots Q (F0 m pc ls (.int i :: .ref a :: rest)) := va_zald F.1 F.2.1 St.1 St.2.1 q0 t0 ha ht hin hdg kk
theorem cs_ist (F : CallFix p m c cc nL s args tb own) (St : cS G k ws tys A s H locs) (q0 t0 : Nat) {cA : ClassId} {n : Nat} {f : Nat → Int32} (ha : ws[q0]? = some (a, .inl (cA, n, .inl f))) (ht : tys[t0]? = some (cA, .int)) {i x : Int32} (hin : vp_in i n) (hw : ws.set q0 (a, .inl (cA, n, .inl (upd f i.toNatClampNeg x))) = w') (hdg : decode cc pc = .ok (.iastore, 1))
    (kk : ∀ (H1 : Heap) (locs1 : List Loc), cS G k w' tys A s H1 locs1 → W p l e R s m args below meth c H1 locs1 cells slots Q (F0 m (pc + 1) ls rest)) : W p l e R s m args below meth c H locs cells slots Q (F0 m pc ls (.int x :: .int i :: .ref a :: rest)) := by
  subst hw
  exact va_iast F.1 F.2.1 St.1 St.2.1 St.2.2.1 St.toS q0 t0 ha ht hin hdg (fun H1 locs1 hP hD hS => kk H1 locs1 ⟨St.1, hP, hD, hS, St.2.2.2.2.1, St.2.2.2.2.2⟩)
theorem cs_bst (F : CallFix p m c cc nL s args tb own) (St : cS G k ws tys A s H locs) (q0 t0 : Nat) {cA : ClassId} {n : Nat} {f : Nat → Int32} (ha : ws[q0]? = some (a, .inl (cA, n, .inl f))) (ht : tys[t0]? = some (cA, .byte)) {i x : Int32} (hin : vp_in i n) (hw : ws.set q0 (a, .inl (cA, n, .inl (upd f i.toNatClampNeg (vp_nar .byte x)))) = w') (hdg : decode cc pc = .ok (.bastore, 1))
    (kk : ∀ (H1 : Heap) (locs1 : List Loc), cS G k w' tys A s H1 locs1 → W p l e R s m args below meth c H1 locs1 cells slots Q (F0 m (pc + 1) ls rest)) : W p l e R s m args below meth c H locs cells slots Q (F0 m pc ls (.int x :: .int i :: .ref a :: rest)) := by
  subst hw
  exact va_bast F.1 F.2.1 St.1 St.2.1 St.2.2.1 St.toS q0 t0 ha ht hin hdg (fun H1 locs1 hP hD hS => kk H1 locs1 ⟨St.1, hP, hD, hS, St.2.2.2.2.1, St.2.2.2.2.2⟩)
theorem cs_zst (F : CallFix p m c cc nL s args tb own) (St : cS G k ws tys A s H locs) (q0 t0 : Nat) {cA : ClassId} {n : Nat} {f : Nat → Int32} (ha : ws[q0]? = some (a, .inl (cA, n, .inl f))) (ht : tys[t0]? = some (cA, .boolean)) {i x : Int32} (hin : vp_in i n) (hw : ws.set q0 (a, .inl (cA, n, .inl (upd f i.toNatClampNeg (vp_nar .boolean x)))) = w') (hdg : decode cc pc = .ok (.bastore, 1))
    (kk : ∀ (H1 : Heap) (locs1 : List Loc), cS G k w' tys A s H1 locs1 → W p l e R s m args below meth c H1 locs1 cells slots Q (F0 m (pc + 1) ls rest)) : W p l e R s m args below meth c H locs cells slots Q (F0 m pc ls (.int x :: .int i :: .ref a :: rest)) := by
  subst hw
  exact va_zast F.1 F.2.1 St.1 St.2.1 St.2.2.1 St.toS q0 t0 ha ht hin hdg (fun H1 locs1 hP hD hS => kk H1 locs1 ⟨St.1, hP, hD, hS, St.2.2.2.2.1, St.2.2.2.2.2⟩)
theorem cs_len (F : CallFix p m c cc nL s args tb own) (St : cS G k ws tys A s H locs) (q0 t0 : Nat) {cA : ClassId} {x : vp_A} (ha : ws[q0]? = some (a, .inl (cA, x))) {ty : FieldType} (ht : tys[t0]? = some (cA, ty)) {v : Int32} (hv : Int32.ofNat x.1 = v) (hdg : decode cc pc = .ok (.arraylength, 1))
    (kk : W p l e R s m args below meth c H locs cells slots Q (F0 m (pc + 1) ls (.int v :: rest))) : W p l e R s m args below meth c H locs cells slots Q (F0 m pc ls (.ref a :: rest)) := va_alen F.1 F.2.1 St.1 St.2.1 q0 t0 ha ht hv hdg kk
theorem cs_newa (F : CallFix p m c cc nL s args tb own) (St : cS G k ws tys A s H locs) {atype : ArrayType} (harr : Cond.arrayClass (newarray.typeOf atype) ∈ tb) {ty : FieldType} (hty : newarray.typeOf atype = ty) {n : Int32} {N' : Nat} {a0 : vp_A} (ha : ∀ cA : ClassId, vp_cell cA a0 = arrV cA N' (fun _ => defaultValue ty)) (hn : ¬ n < 0) (hN : n.toNatClampNeg = N') (hbytes : N' * componentBytes ty ≤ 536870912) (hcells : cells + 1 ≤ R.cells) (hslots : slots + N' ≤ R.slots) (hdg : decode cc pc = .ok (.newarray atype, 2))
    (kk : ∀ (q : Nat) (cA : ClassId) (H1 : Heap), cS G k (ws ++ [(q, .inl (cA, a0))]) (tys ++ [(cA, ty)]) A s H1 locs → W p l e R s m args below meth c H1 locs (cells + 1) (slots + N') Q (F0 m (pc + 2) ls (.ref q :: rest))) : W p l e R s m args below meth c H locs cells slots Q (F0 m pc ls (.int n :: rest)) :=
  va_newa F.1 F.2.1 (F.2.2.2.2 _ harr) hty St.1 St.2.1 St.2.2.1 St.toS St.2.2.2.2.1 ha hn hN hbytes hcells hslots hdg (fun q cA H1 hK hP hD hS => kk q cA H1 ⟨hK, hP, hD, hS, St.2.2.2.2.1, St.2.2.2.2.2⟩)
theorem cs_new (F : CallFix p m c cc nL s args tb own) (St : cS G k ws tys A s H locs) {C : String} {T : u_T} {N ci index : Nat} (hc : vwCl[ci]? = some (C, T, N)) (hin : ∀ w ∈ u_ws C T N, w ∈ tb) {ty : Nat → FieldType} (hty : ∀ k, k < N → parseFieldDescriptor (T k).2.2.1 = some (ty k)) (hcl : Cond.classLink own index C ∈ tb) (hinst : Cond.instantiable C N ∈ tb) (hini : Cond.initialized C ∈ tb) {fs : List Value} (hfs : ∀ j, j < N → defaultValue (ty j) = vp_V fs j) (hcells : cells + 1 ≤ R.cells) (hslots : slots + N ≤ R.slots) (hdg : decode cc pc = .ok (.new index, 3))
    (kk : ∀ (q : Nat) (H1 : Heap), cS G k (ws ++ [(q, .inr (ci, fs))]) tys A s H1 locs → W p l e R s m args below meth c H1 locs (cells + 1) (slots + N) Q (F0 m (pc + 3) ls (.ref q :: rest))) : W p l e R s m args below meth c H locs cells slots Q (F0 m pc ls rest) :=
  va_new F.1 F.2.1 F.2.2.2.2 hin ty hty F.2.2.2.1 (F.2.2.2.2 _ hcl) (F.2.2.2.2 _ hinst) (F.2.2.2.2 _ hini) St.1 St.2.1 St.2.2.1 St.toS St.2.2.2.2.1 hc hfs hcells hslots hdg (fun q H1 hP hD hS => kk q H1 ⟨St.1, hP, hD, hS, St.2.2.2.2.1, St.2.2.2.2.2⟩)
-- ends
theorem cs_iret {S : Type} {post : Int32 → S → Prop} {wo : S → va_W} {to : S → List (ClassId × FieldType)} {mc ms : Nat} (F : CallFix p m c cc nL s args tb own) (hr : meth.sig.returnType = some .int) (hlk : meth.locks = false) (hQ : Q = MQ below (va_Qi post (cB G wo to A) A) args s mc ms A) (St : cS G k ws tys A s H locs) (u : S) {r : Int32} (hp : post r u) (is : List Nat) (hw : is.map (fun i => ws[i]?) = (wo u).map some) (hnd : va_nd is = true) (it : List Nat) (ht : it.filterMap (fun i => tys[i]?) = to u) (h1 : cells ≤ mc) (h2 : slots ≤ ms) (hdg : decode cc pc = .ok (.ireturn, 1)) : W p l e R s m args below meth c H locs cells slots Q (F0 m pc ls [.int r]) := by
  subst hQ
  refine W.widen h1 h2 ?_
  have hP9 := St.2.1.sub (ws' := wo u) is (fm_of_map _ _ _ hw)
  have hD9 := St.2.2.1.sub (ws' := wo u) is hnd hw
  have hK9 := St.1.sub (tys' := to u) it ht
  exact W.iret (v := r) F.1 F.2.1 hr (fun t ht hW => ⟨⟨r, u, rfl, hp, by rw [ht]; exact hP9, va_K.moved hW.alike hK9, hD9⟩, St.toS.F ht⟩) St.toS.2.2 hdg hlk
theorem cs_zret {S : Type} {post : Int32 → S → Prop} {wo : S → va_W} {to : S → List (ClassId × FieldType)} {mc ms : Nat} {ty : FieldType} (F : CallFix p m c cc nL s args tb own) (hr : meth.sig.returnType = some ty) (hlk : meth.locks = false) (hQ : Q = MQ below (va_Qi post (cB G wo to A) A) args s mc ms A) (St : cS G k ws tys A s H locs) (u : S) {r : Int32} (hz : narrow ty (.int r) = .int r) (hp : post r u) (is : List Nat) (hw : is.map (fun i => ws[i]?) = (wo u).map some) (hnd : va_nd is = true) (it : List Nat) (ht : it.filterMap (fun i => tys[i]?) = to u) (h1 : cells ≤ mc) (h2 : slots ≤ ms) (hdg : decode cc pc = .ok (.ireturn, 1)) : W p l e R s m args below meth c H locs cells slots Q (F0 m pc ls [.int r]) := by
  subst hQ
  refine W.widen h1 h2 ?_
  have hP9 := St.2.1.sub (ws' := wo u) is (fm_of_map _ _ _ hw)
  have hD9 := St.2.2.1.sub (ws' := wo u) is hnd hw
  have hK9 := St.1.sub (tys' := to u) it ht
  exact W.zret (v := r) F.1 F.2.1 hr hz (fun t ht hW => ⟨⟨r, u, rfl, hp, by rw [ht]; exact hP9, va_K.moved hW.alike hK9, hD9⟩, St.toS.F ht⟩) St.toS.2.2 hdg hlk
theorem cs_lret {S : Type} {post : Int64 → S → Prop} {wo : S → va_W} {to : S → List (ClassId × FieldType)} {mc ms : Nat} (F : CallFix p m c cc nL s args tb own) (hr : meth.sig.returnType = some .long) (hlk : meth.locks = false) (hQ : Q = MQ below (va_Ql post (cB G wo to A) A) args s mc ms A) (St : cS G k ws tys A s H locs) (u : S) {r : Int64} (hp : post r u) (is : List Nat) (hw : is.map (fun i => ws[i]?) = (wo u).map some) (hnd : va_nd is = true) (it : List Nat) (ht : it.filterMap (fun i => tys[i]?) = to u) (h1 : cells ≤ mc) (h2 : slots ≤ ms) (hdg : decode cc pc = .ok (.lreturn, 1)) : W p l e R s m args below meth c H locs cells slots Q (F0 m pc ls [.long r]) := by
  subst hQ
  refine W.widen h1 h2 ?_
  have hP9 := St.2.1.sub (ws' := wo u) is (fm_of_map _ _ _ hw)
  have hD9 := St.2.2.1.sub (ws' := wo u) is hnd hw
  have hK9 := St.1.sub (tys' := to u) it ht
  exact W.lret (v := r) F.1 F.2.1 hr (fun t ht hW => ⟨⟨r, u, rfl, hp, by rw [ht]; exact hP9, va_K.moved hW.alike hK9, hD9⟩, St.toS.F ht⟩) St.toS.2.2 hdg hlk
theorem cs_vret {S : Type} {post : S → Prop} {wo : S → va_W} {to : S → List (ClassId × FieldType)} {mc ms : Nat} (F : CallFix p m c cc nL s args tb own) (hr : meth.sig.returnType = none) (hlk : meth.locks = false) (hQ : Q = MQ below (va_Qv post (cB G wo to A) A) args s mc ms A) (St : cS G k ws tys A s H locs) (u : S) (hp : post u) (is : List Nat) (hw : is.map (fun i => ws[i]?) = (wo u).map some) (hnd : va_nd is = true) (it : List Nat) (ht : it.filterMap (fun i => tys[i]?) = to u) (h1 : cells ≤ mc) (h2 : slots ≤ ms) (hdg : decode cc pc = .ok (.return_, 1)) : W p l e R s m args below meth c H locs cells slots Q (F0 m pc ls []) := by
  subst hQ
  refine W.widen h1 h2 ?_
  have hP9 := St.2.1.sub (ws' := wo u) is (fm_of_map _ _ _ hw)
  have hD9 := St.2.2.1.sub (ws' := wo u) is hnd hw
  have hK9 := St.1.sub (tys' := to u) it ht
  exact W.vret F.1 F.2.1 hr (fun t ht hW => ⟨⟨u, rfl, hp, by rw [ht]; exact hP9, va_K.moved hW.alike hK9, hD9⟩, St.toS.F ht⟩) St.toS.2.2 hdg hlk
theorem cs_qret {S : Type} {post : Option Nat → S → Prop} {wo : S → va_W} {to : S → List (ClassId × FieldType)} {mc ms : Nat} {rt : FieldType} (F : CallFix p m c cc nL s args tb own) (hr : meth.sig.returnType = some rt) (hrt : (∃ n, rt = .object n) ∨ ∃ t, rt = .array t) (hlk : meth.locks = false) (hQ : Q = MQ below (va_Qq post (cB G wo to A) A) args s mc ms A) (St : cS G k ws tys A s H locs) (u : S) (r : Option Nat) {v : Value} (hv : v = va_rf r) (hp : post r u) (is : List Nat) (hw : is.map (fun i => ws[i]?) = (wo u).map some) (hnd : va_nd is = true) (it : List Nat) (ht : it.filterMap (fun i => tys[i]?) = to u) (h1 : cells ≤ mc) (h2 : slots ≤ ms) (hdg : decode cc pc = .ok (.areturn, 1)) : W p l e R s m args below meth c H locs cells slots Q (F0 m pc ls [v]) := by
  subst hQ
  subst hv
  refine W.widen h1 h2 ?_
  have hP9 := St.2.1.sub (ws' := wo u) is (fm_of_map _ _ _ hw)
  have hD9 := St.2.2.1.sub (ws' := wo u) is hnd hw
  have hK9 := St.1.sub (tys' := to u) it ht
  exact W.aret F.1 F.2.1 hr hrt (va_rf_or r) (fun t ht hW => ⟨⟨r, u, rfl, hp, by rw [ht]; exact hP9, va_K.moved hW.alike hK9, hD9⟩, St.toS.F ht⟩) St.toS.2.2 hdg hlk
end CB
end
section
set_option maxRecDepth 100000 in
theorem inX0 : ∀ w ∈ u_ws RX0 TX0 6, w ∈ tb := in_of [142, 144, 146, 148, 150, 152] (by decide +kernel)
set_option maxRecDepth 100000 in
theorem inX1 : ∀ w ∈ u_ws RX1 TX1 12, w ∈ tb := in_of [511, 513, 515, 517, 519, 521, 523, 525, 527, 529, 531, 533] (by decide +kernel)
set_option maxRecDepth 100000 in
theorem inX2 : ∀ w ∈ u_ws RX2 TX2 2, w ∈ tb := in_of [165, 167] (by decide +kernel)
set_option maxRecDepth 100000 in
theorem inX3 : ∀ w ∈ u_ws RX3 TX3 6, w ∈ tb := in_of [207, 209, 211, 213, 215, 217] (by decide +kernel)
set_option maxRecDepth 100000 in
theorem inX4 : ∀ w ∈ u_ws RX4 TX4 6, w ∈ tb := in_of [732, 734, 736, 738, 740, 742] (by decide +kernel)
set_option maxRecDepth 100000 in
theorem inX5 : ∀ w ∈ u_ws RX5 TX5 6, w ∈ tb := in_of [182, 184, 186, 188, 190, 192] (by decide +kernel)
set_option maxRecDepth 100000 in
theorem inX6 : ∀ w ∈ u_ws RX6 TX6 2, w ∈ tb := in_of [74, 76] (by decide +kernel)
set_option maxRecDepth 100000 in
theorem inX7 : ∀ w ∈ u_ws RX7 TX7 3, w ∈ tb := in_of [231, 233, 235] (by decide +kernel)
set_option maxRecDepth 100000 in
theorem inX8 : ∀ w ∈ u_ws RX8 TX8 1, w ∈ tb := in_of [98] (by decide +kernel)
set_option maxRecDepth 100000 in
theorem inX9 : ∀ w ∈ u_ws RX9 TX9 8, w ∈ tb := in_of [110, 112, 114, 116, 118, 120, 122, 124] (by decide +kernel)
set_option maxRecDepth 100000 in
theorem inX10 : ∀ w ∈ u_ws RX10 TX10 10, w ∈ tb := in_of [248, 250, 252, 254, 256, 258, 260, 262, 264, 266] (by decide +kernel)
set_option maxRecDepth 100000 in
theorem inX11 : ∀ w ∈ u_ws RX11 TX11 6, w ∈ tb := in_of [993, 995, 997, 999, 1001, 1039] (by decide +kernel)
set_option maxRecDepth 100000 in
theorem inX12 : ∀ w ∈ u_ws RX12 TX12 53, w ∈ tb := in_of [1098, 1100, 1102, 1104, 1106, 1108, 1110, 1112, 1114, 1116, 1118, 1120, 1122, 1124, 1126, 1128, 1130, 1132, 1134, 1136, 1138, 1140, 1142, 1144, 1146, 1148, 1150, 1152, 1154, 1156, 1158, 1160, 1162, 1164, 1166, 1168, 1170, 1172, 1174, 1176, 1178, 1180, 1182, 1184, 1186, 1188, 1190, 1192, 1194, 1196, 1198, 1200, 1202] (by decide +kernel)
set_option maxRecDepth 100000 in
theorem mf_X0_init : mI yX0_init cX0_init 2 0 := ⟨kd_X0_init, ki_X0, kj_X0_init, rfl, by decide +kernel⟩
set_option maxRecDepth 100000 in
theorem mf_X0_setDeclaration : mV yX0_setDeclaration cX0_setDeclaration 4 none 3 := ⟨kd_X0_setDeclaration, ki_X0, kj_X0_setDeclaration, kl_X0_setDeclaration, by decide +kernel⟩
set_option maxRecDepth 100000 in
theorem mf_X0_declaredFrom : mV yX0_declaredFrom cX0_declaredFrom 2 (some .int) 1 := ⟨kd_X0_declaredFrom, ki_X0, kj_X0_declaredFrom, kl_X0_declaredFrom, by decide +kernel⟩
set_option maxRecDepth 100000 in
theorem mf_X0_declaredTo : mV yX0_declaredTo cX0_declaredTo 2 (some .int) 1 := ⟨kd_X0_declaredTo, ki_X0, kj_X0_declaredTo, kl_X0_declaredTo, by decide +kernel⟩
set_option maxRecDepth 100000 in
theorem mf_X0_hasDeclared : mV yX0_hasDeclared cX0_hasDeclared 3 (some .boolean) 2 := ⟨kd_X0_hasDeclared, ki_X0, kj_X0_hasDeclared, kl_X0_hasDeclared, by decide +kernel⟩
set_option maxRecDepth 100000 in
theorem mf_X0_setWithoutName : mV yX0_setWithoutName cX0_setWithoutName 3 (some .boolean) 2 := ⟨kd_X0_setWithoutName, ki_X0, kj_X0_setWithoutName, kl_X0_setWithoutName, by decide +kernel⟩
set_option maxRecDepth 100000 in
theorem mf_X0_isWithoutName : mV yX0_isWithoutName cX0_isWithoutName 2 (some .boolean) 1 := ⟨kd_X0_isWithoutName, ki_X0, kj_X0_isWithoutName, kl_X0_isWithoutName, by decide +kernel⟩
set_option maxRecDepth 100000 in
theorem mf_X0_gotBack : mV yX0_gotBack cX0_gotBack 2 (some .int) 1 := ⟨kd_X0_gotBack, ki_X0, kj_X0_gotBack, kl_X0_gotBack, by decide +kernel⟩
set_option maxRecDepth 100000 in
theorem mf_X0_ofStone : mV yX0_ofStone cX0_ofStone 2 (some .int) 1 := ⟨kd_X0_ofStone, ki_X0, kj_X0_ofStone, kl_X0_ofStone, by decide +kernel⟩
set_option maxRecDepth 100000 in
theorem mf_X0_orderStones : mV yX0_orderStones cX0_orderStones 8 (some .int) 2 := ⟨kd_X0_orderStones, ki_X0, kj_X0_orderStones, kl_X0_orderStones, by decide +kernel⟩
set_option maxRecDepth 100000 in
theorem mf_X0_partCoin : mV yX0_partCoin cX0_partCoin 11 (some .int) 3 := ⟨kd_X0_partCoin, ki_X0, kj_X0_partCoin, kl_X0_partCoin, by decide +kernel⟩
set_option maxRecDepth 100000 in
theorem mf_X1_init : mI yX1_init cX1_init 7 5 := ⟨kd_X1_init, ki_X1, kj_X1_init, rfl, by decide +kernel⟩
set_option maxRecDepth 100000 in
theorem mf_X1_duesThatCome : mS yX1_duesThatCome cX1_duesThatCome 5 (some .int) 3 := ⟨kd_X1_duesThatCome, ki_X1, ks_X1_duesThatCome, by decide +kernel⟩
set_option maxRecDepth 100000 in
theorem mf_X1_monthOf : mV yX1_monthOf cX1_monthOf 2 (some .int) 1 := ⟨kd_X1_monthOf, ki_X1, kj_X1_monthOf, kl_X1_monthOf, by decide +kernel⟩
set_option maxRecDepth 100000 in
theorem mf_X1_giverNumber : mV yX1_giverNumber cX1_giverNumber 1 (some .int) 0 := ⟨kd_X1_giverNumber, ki_X1, kj_X1_giverNumber, kl_X1_giverNumber, by decide +kernel⟩
set_option maxRecDepth 100000 in
theorem mf_X1_penceToCome : mV yX1_penceToCome cX1_penceToCome 1 (some .int) 0 := ⟨kd_X1_penceToCome, ki_X1, kj_X1_penceToCome, kl_X1_penceToCome, by decide +kernel⟩
set_option maxRecDepth 100000 in
theorem mf_X1_filledInAll : mV yX1_filledInAll cX1_filledInAll 1 (some .int) 0 := ⟨kd_X1_filledInAll, ki_X1, kj_X1_filledInAll, kl_X1_filledInAll, by decide +kernel⟩
set_option maxRecDepth 100000 in
theorem mf_X1_isLapsed : mV yX1_isLapsed cX1_isLapsed 1 (some .boolean) 0 := ⟨kd_X1_isLapsed, ki_X1, kj_X1_isLapsed, kl_X1_isLapsed, by decide +kernel⟩
set_option maxRecDepth 100000 in
theorem mf_X1_firstLapse : mV yX1_firstLapse cX1_firstLapse 1 (some .int) 0 := ⟨kd_X1_firstLapse, ki_X1, kj_X1_firstLapse, kl_X1_firstLapse, by decide +kernel⟩
set_option maxRecDepth 100000 in
theorem mf_X1_mayBeTakenUp : mV yX1_mayBeTakenUp cX1_mayBeTakenUp 1 (some .boolean) 0 := ⟨kd_X1_mayBeTakenUp, ki_X1, kj_X1_mayBeTakenUp, kl_X1_mayBeTakenUp, by decide +kernel⟩
set_option maxRecDepth 100000 in
theorem mf_X1_overdue : mV yX1_overdue cX1_overdue 4 (some .int) 1 := ⟨kd_X1_overdue, ki_X1, kj_X1_overdue, kl_X1_overdue, by decide +kernel⟩
set_option maxRecDepth 100000 in
theorem mf_X1_unfilled : mV yX1_unfilled cX1_unfilled 1 (some .int) 0 := ⟨kd_X1_unfilled, ki_X1, kj_X1_unfilled, kl_X1_unfilled, by decide +kernel⟩
set_option maxRecDepth 100000 in
theorem mf_X1_unfilledWithin : mV yX1_unfilledWithin cX1_unfilledWithin 5 (some .int) 2 := ⟨kd_X1_unfilledWithin, ki_X1, kj_X1_unfilledWithin, kl_X1_unfilledWithin, by decide +kernel⟩
set_option maxRecDepth 100000 in
theorem mf_X1_nextDue : mV yX1_nextDue cX1_nextDue 3 (some .int) 1 := ⟨kd_X1_nextDue, ki_X1, kj_X1_nextDue, kl_X1_nextDue, by decide +kernel⟩
set_option maxRecDepth 100000 in
theorem mf_X1_duesToCome : mV yX1_duesToCome cX1_duesToCome 4 (some .int) 1 := ⟨kd_X1_duesToCome, ki_X1, kj_X1_duesToCome, kl_X1_duesToCome, by decide +kernel⟩
set_option maxRecDepth 100000 in
theorem mf_X1_dueSoFar : mV yX1_dueSoFar cX1_dueSoFar 4 (some .int) 1 := ⟨kd_X1_dueSoFar, ki_X1, kj_X1_dueSoFar, kl_X1_dueSoFar, by decide +kernel⟩
set_option maxRecDepth 100000 in
theorem mf_X1_filledSoFar : mV yX1_filledSoFar cX1_filledSoFar 4 (some .int) 1 := ⟨kd_X1_filledSoFar, ki_X1, kj_X1_filledSoFar, kl_X1_filledSoFar, by decide +kernel⟩
set_option maxRecDepth 100000 in
theorem mf_X1_setPence : mV yX1_setPence cX1_setPence 4 none 2 := ⟨kd_X1_setPence, ki_X1, kj_X1_setPence, kl_X1_setPence, by decide +kernel⟩
set_option maxRecDepth 100000 in
theorem mf_X1_fill : mV yX1_fill cX1_fill 5 none 1 := ⟨kd_X1_fill, ki_X1, kj_X1_fill, kl_X1_fill, by decide +kernel⟩
set_option maxRecDepth 100000 in
theorem mf_X1_lapseIn : mV yX1_lapseIn cX1_lapseIn 3 none 1 := ⟨kd_X1_lapseIn, ki_X1, kj_X1_lapseIn, kl_X1_lapseIn, by decide +kernel⟩
set_option maxRecDepth 100000 in
theorem mf_X1_standAgain : mV yX1_standAgain cX1_standAgain 3 none 1 := ⟨kd_X1_standAgain, ki_X1, kj_X1_standAgain, kl_X1_standAgain, by decide +kernel⟩
set_option maxRecDepth 100000 in
theorem mf_X2_init : mI yX2_init cX2_init 1 0 := ⟨kd_X2_init, ki_X2, kj_X2_init, rfl, by decide +kernel⟩
set_option maxRecDepth 100000 in
theorem mf_X2_size : mV yX2_size cX2_size 1 (some .int) 0 := ⟨kd_X2_size, ki_X2, kj_X2_size, kl_X2_size, by decide +kernel⟩
set_option maxRecDepth 100000 in
theorem mf_X2_isFull : mV yX2_isFull cX2_isFull 1 (some .boolean) 0 := ⟨kd_X2_isFull, ki_X2, kj_X2_isFull, kl_X2_isFull, by decide +kernel⟩
set_option maxRecDepth 100000 in
theorem mf_X2_add : mV yX2_add cX2_add 2 (some .int) 1 := ⟨kd_X2_add, ki_X2, kj_X2_add, kl_X2_add, by decide +kernel⟩
set_option maxRecDepth 100000 in
theorem mf_X2_at : mV yX2_at cX2_at 2 (some (.object "TowerAppeal$Pledge")) 1 := ⟨kd_X2_at, ki_X2, kj_X2_at, kl_X2_at, by decide +kernel⟩
set_option maxRecDepth 100000 in
theorem mf_X2_lapsedNow : mV yX2_lapsedNow cX2_lapsedNow 4 (some .int) 0 := ⟨kd_X2_lapsedNow, ki_X2, kj_X2_lapsedNow, kl_X2_lapsedNow, by decide +kernel⟩
set_option maxRecDepth 100000 in
theorem mf_X2_lapseAll : mV yX2_lapseAll cX2_lapseAll 5 none 2 := ⟨kd_X2_lapseAll, ki_X2, kj_X2_lapseAll, kl_X2_lapseAll, by decide +kernel⟩
set_option maxRecDepth 100000 in
theorem mf_X2_sureWithin : mV yX2_sureWithin cX2_sureWithin 11 (some .int) 2 := ⟨kd_X2_sureWithin, ki_X2, kj_X2_sureWithin, kl_X2_sureWithin, by decide +kernel⟩
set_option maxRecDepth 100000 in
theorem mf_X3_init : mI yX3_init cX3_init 1 0 := ⟨kd_X3_init, ki_X3, kj_X3_init, rfl, by decide +kernel⟩
set_option maxRecDepth 100000 in
theorem mf_X3_coin : mV yX3_coin cX3_coin 1 (some .long) 0 := ⟨kd_X3_coin, ki_X3, kj_X3_coin, kl_X3_coin, by decide +kernel⟩
set_option maxRecDepth 100000 in
theorem mf_X3_loan : mV yX3_loan cX3_loan 1 (some .long) 0 := ⟨kd_X3_loan, ki_X3, kj_X3_loan, kl_X3_loan, by decide +kernel⟩
set_option maxRecDepth 100000 in
theorem mf_X3_matched : mV yX3_matched cX3_matched 1 (some .long) 0 := ⟨kd_X3_matched, ki_X3, kj_X3_matched, kl_X3_matched, by decide +kernel⟩
set_option maxRecDepth 100000 in
theorem mf_X3_tax : mV yX3_tax cX3_tax 1 (some .long) 0 := ⟨kd_X3_tax, ki_X3, kj_X3_tax, kl_X3_tax, by decide +kernel⟩
set_option maxRecDepth 100000 in
theorem mf_X3_paidForStages : mV yX3_paidForStages cX3_paidForStages 1 (some .long) 0 := ⟨kd_X3_paidForStages, ki_X3, kj_X3_paidForStages, kl_X3_paidForStages, by decide +kernel⟩
set_option maxRecDepth 100000 in
theorem mf_X3_grown : mV yX3_grown cX3_grown 1 (some .long) 0 := ⟨kd_X3_grown, ki_X3, kj_X3_grown, kl_X3_grown, by decide +kernel⟩
set_option maxRecDepth 100000 in
theorem mf_X3_takeSum : mV yX3_takeSum cX3_takeSum 10 (some .int) 3 := ⟨kd_X3_takeSum, ki_X3, kj_X3_takeSum, kl_X3_takeSum, by decide +kernel⟩
set_option maxRecDepth 100000 in
theorem mf_X3_takeTax : mV yX3_takeTax cX3_takeTax 2 none 1 := ⟨kd_X3_takeTax, ki_X3, kj_X3_takeTax, kl_X3_takeTax, by decide +kernel⟩
set_option maxRecDepth 100000 in
theorem mf_X3_growLoan : mV yX3_growLoan cX3_growLoan 4 none 1 := ⟨kd_X3_growLoan, ki_X3, kj_X3_growLoan, kl_X3_growLoan, by decide +kernel⟩
set_option maxRecDepth 100000 in
theorem mf_X3_paysPart : mV yX3_paysPart cX3_paysPart 7 (some .boolean) 2 := ⟨kd_X3_paysPart, ki_X3, kj_X3_paysPart, kl_X3_paysPart, by decide +kernel⟩
set_option maxRecDepth 100000 in
theorem mf_X3_payBackLoan : mV yX3_payBackLoan cX3_payBackLoan 3 none 0 := ⟨kd_X3_payBackLoan, ki_X3, kj_X3_payBackLoan, kl_X3_payBackLoan, by decide +kernel⟩
set_option maxRecDepth 100000 in
theorem mf_X3_giveBack : mV yX3_giveBack cX3_giveBack 2 none 1 := ⟨kd_X3_giveBack, ki_X3, kj_X3_giveBack, kl_X3_giveBack, by decide +kernel⟩
set_option maxRecDepth 100000 in
theorem mf_X4_init : mI yX4_init cX4_init 3 2 := ⟨kd_X4_init, ki_X4, kj_X4_init, rfl, by decide +kernel⟩
set_option maxRecDepth 100000 in
theorem mf_X4_cost : mV yX4_cost cX4_cost 1 (some .int) 0 := ⟨kd_X4_cost, ki_X4, kj_X4_cost, kl_X4_cost, by decide +kernel⟩
set_option maxRecDepth 100000 in
theorem mf_X4_parts : mV yX4_parts cX4_parts 1 (some .int) 0 := ⟨kd_X4_parts, ki_X4, kj_X4_parts, kl_X4_parts, by decide +kernel⟩
set_option maxRecDepth 100000 in
theorem mf_X4_progress : mV yX4_progress cX4_progress 1 (some .int) 0 := ⟨kd_X4_progress, ki_X4, kj_X4_progress, kl_X4_progress, by decide +kernel⟩
set_option maxRecDepth 100000 in
theorem mf_X4_paid : mV yX4_paid cX4_paid 1 (some .int) 0 := ⟨kd_X4_paid, ki_X4, kj_X4_paid, kl_X4_paid, by decide +kernel⟩
set_option maxRecDepth 100000 in
theorem mf_X4_paused : mV yX4_paused cX4_paused 1 (some .int) 0 := ⟨kd_X4_paused, ki_X4, kj_X4_paused, kl_X4_paused, by decide +kernel⟩
set_option maxRecDepth 100000 in
theorem mf_X4_runs : mV yX4_runs cX4_runs 1 (some .boolean) 0 := ⟨kd_X4_runs, ki_X4, kj_X4_runs, kl_X4_runs, by decide +kernel⟩
set_option maxRecDepth 100000 in
theorem mf_X4_start : mV yX4_start cX4_start 1 none 0 := ⟨kd_X4_start, ki_X4, kj_X4_start, kl_X4_start, by decide +kernel⟩
set_option maxRecDepth 100000 in
theorem mf_X4_nextPart : mV yX4_nextPart cX4_nextPart 1 (some .int) 0 := ⟨kd_X4_nextPart, ki_X4, kj_X4_nextPart, kl_X4_nextPart, by decide +kernel⟩
set_option maxRecDepth 100000 in
theorem mf_X4_bookPart : mV yX4_bookPart cX4_bookPart 2 none 1 := ⟨kd_X4_bookPart, ki_X4, kj_X4_bookPart, kl_X4_bookPart, by decide +kernel⟩
set_option maxRecDepth 100000 in
theorem mf_X4_bookPause : mV yX4_bookPause cX4_bookPause 1 none 0 := ⟨kd_X4_bookPause, ki_X4, kj_X4_bookPause, kl_X4_bookPause, by decide +kernel⟩
set_option maxRecDepth 100000 in
theorem mf_X5_init : mI yX5_init cX5_init 1 0 := ⟨kd_X5_init, ki_X5, kj_X5_init, rfl, by decide +kernel⟩
set_option maxRecDepth 100000 in
theorem mf_X5_size : mV yX5_size cX5_size 1 (some .int) 0 := ⟨kd_X5_size, ki_X5, kj_X5_size, kl_X5_size, by decide +kernel⟩
set_option maxRecDepth 100000 in
theorem mf_X5_total : mV yX5_total cX5_total 1 (some .long) 0 := ⟨kd_X5_total, ki_X5, kj_X5_total, kl_X5_total, by decide +kernel⟩
set_option maxRecDepth 100000 in
theorem mf_X5_isFull : mV yX5_isFull cX5_isFull 1 (some .boolean) 0 := ⟨kd_X5_isFull, ki_X5, kj_X5_isFull, kl_X5_isFull, by decide +kernel⟩
set_option maxRecDepth 100000 in
theorem mf_X5_add : mV yX5_add cX5_add 4 none 3 := ⟨kd_X5_add, ki_X5, kj_X5_add, kl_X5_add, by decide +kernel⟩
set_option maxRecDepth 100000 in
theorem mf_X5_giverOf : mV yX5_giverOf cX5_giverOf 2 (some .int) 1 := ⟨kd_X5_giverOf, ki_X5, kj_X5_giverOf, kl_X5_giverOf, by decide +kernel⟩
set_option maxRecDepth 100000 in
theorem mf_X5_penceOf : mV yX5_penceOf cX5_penceOf 2 (some .int) 1 := ⟨kd_X5_penceOf, ki_X5, kj_X5_penceOf, kl_X5_penceOf, by decide +kernel⟩
set_option maxRecDepth 100000 in
theorem mf_X5_givenBy : mV yX5_givenBy cX5_givenBy 4 (some .int) 1 := ⟨kd_X5_givenBy, ki_X5, kj_X5_givenBy, kl_X5_givenBy, by decide +kernel⟩
set_option maxRecDepth 100000 in
theorem mf_X5_unclaimedOf : mV yX5_unclaimedOf cX5_unclaimedOf 4 (some .int) 1 := ⟨kd_X5_unclaimedOf, ki_X5, kj_X5_unclaimedOf, kl_X5_unclaimedOf, by decide +kernel⟩
set_option maxRecDepth 100000 in
theorem mf_X5_claimTax : mV yX5_claimTax cX5_claimTax 6 (some .int) 2 := ⟨kd_X5_claimTax, ki_X5, kj_X5_claimTax, kl_X5_claimTax, by decide +kernel⟩
set_option maxRecDepth 100000 in
theorem mf_X6_init : mI yX6_init cX6_init 1 0 := ⟨kd_X6_init, ki_X6, kj_X6_init, rfl, by decide +kernel⟩
set_option maxRecDepth 100000 in
theorem mf_X6_length : mV yX6_length cX6_length 1 (some .int) 0 := ⟨kd_X6_length, ki_X6, kj_X6_length, kl_X6_length, by decide +kernel⟩
set_option maxRecDepth 100000 in
theorem mf_X6_hasRoomForTwenty : mV yX6_hasRoomForTwenty cX6_hasRoomForTwenty 1 (some .boolean) 0 := ⟨kd_X6_hasRoomForTwenty, ki_X6, kj_X6_hasRoomForTwenty, kl_X6_hasRoomForTwenty, by decide +kernel⟩
set_option maxRecDepth 100000 in
theorem mf_X6_putFour : mV yX6_putFour cX6_putFour 3 none 1 := ⟨kd_X6_putFour, ki_X6, kj_X6_putFour, kl_X6_putFour, by decide +kernel⟩
set_option maxRecDepth 100000 in
theorem mf_X6_cutTo : mV yX6_cutTo cX6_cutTo 2 none 1 := ⟨kd_X6_cutTo, ki_X6, kj_X6_cutTo, kl_X6_cutTo, by decide +kernel⟩
set_option maxRecDepth 100000 in
theorem mf_X6_at : mV yX6_at cX6_at 2 (some .int) 1 := ⟨kd_X6_at, ki_X6, kj_X6_at, kl_X6_at, by decide +kernel⟩
set_option maxRecDepth 100000 in
theorem mf_X7_init : mI yX7_init cX7_init 1 0 := ⟨kd_X7_init, ki_X7, kj_X7_init, rfl, by decide +kernel⟩
set_option maxRecDepth 100000 in
theorem mf_X7_size : mV yX7_size cX7_size 1 (some .int) 0 := ⟨kd_X7_size, ki_X7, kj_X7_size, kl_X7_size, by decide +kernel⟩
set_option maxRecDepth 100000 in
theorem mf_X7_isFull : mV yX7_isFull cX7_isFull 1 (some .boolean) 0 := ⟨kd_X7_isFull, ki_X7, kj_X7_isFull, kl_X7_isFull, by decide +kernel⟩
set_option maxRecDepth 100000 in
theorem mf_X7_add : mV yX7_add cX7_add 2 (some .int) 1 := ⟨kd_X7_add, ki_X7, kj_X7_add, kl_X7_add, by decide +kernel⟩
set_option maxRecDepth 100000 in
theorem mf_X7_at : mV yX7_at cX7_at 2 (some (.object "TowerAppeal$Stage")) 1 := ⟨kd_X7_at, ki_X7, kj_X7_at, kl_X7_at, by decide +kernel⟩
set_option maxRecDepth 100000 in
theorem mf_X7_running : mV yX7_running cX7_running 2 (some (.object "TowerAppeal$Stage")) 0 := ⟨kd_X7_running, ki_X7, kj_X7_running, kl_X7_running, by decide +kernel⟩
set_option maxRecDepth 100000 in
theorem mf_X7_mayStartNext : mV yX7_mayStartNext cX7_mayStartNext 1 (some .boolean) 0 := ⟨kd_X7_mayStartNext, ki_X7, kj_X7_mayStartNext, kl_X7_mayStartNext, by decide +kernel⟩
set_option maxRecDepth 100000 in
theorem mf_X7_startNext : mV yX7_startNext cX7_startNext 2 (some .int) 0 := ⟨kd_X7_startNext, ki_X7, kj_X7_startNext, kl_X7_startNext, by decide +kernel⟩
set_option maxRecDepth 100000 in
theorem mf_X7_payPart : mV yX7_payPart cX7_payPart 5 none 2 := ⟨kd_X7_payPart, ki_X7, kj_X7_payPart, kl_X7_payPart, by decide +kernel⟩
set_option maxRecDepth 100000 in
theorem mf_X8_init : mI yX8_init cX8_init 1 0 := ⟨kd_X8_init, ki_X8, kj_X8_init, rfl, by decide +kernel⟩
set_option maxRecDepth 100000 in
theorem mf_X8_forget : mV yX8_forget cX8_forget 1 none 0 := ⟨kd_X8_forget, ki_X8, kj_X8_forget, kl_X8_forget, by decide +kernel⟩
set_option maxRecDepth 100000 in
theorem mf_X8_takeOver : mV yX8_takeOver cX8_takeOver 2 none 1 := ⟨kd_X8_takeOver, ki_X8, kj_X8_takeOver, kl_X8_takeOver, by decide +kernel⟩
set_option maxRecDepth 100000 in
theorem mf_X8_at : mV yX8_at cX8_at 2 (some .int) 1 := ⟨kd_X8_at, ki_X8, kj_X8_at, kl_X8_at, by decide +kernel⟩
set_option maxRecDepth 100000 in
theorem mf_X8_put : mV yX8_put cX8_put 3 none 2 := ⟨kd_X8_put, ki_X8, kj_X8_put, kl_X8_put, by decide +kernel⟩
set_option maxRecDepth 100000 in
theorem mf_X8_matchHundredths : mV yX8_matchHundredths cX8_matchHundredths 1 (some .int) 0 := ⟨kd_X8_matchHundredths, ki_X8, kj_X8_matchHundredths, kl_X8_matchHundredths, by decide +kernel⟩
set_option maxRecDepth 100000 in
theorem mf_X8_matchCapPence : mV yX8_matchCapPence cX8_matchCapPence 1 (some .int) 0 := ⟨kd_X8_matchCapPence, ki_X8, kj_X8_matchCapPence, kl_X8_matchCapPence, by decide +kernel⟩
set_option maxRecDepth 100000 in
theorem mf_X8_matchTill : mV yX8_matchTill cX8_matchTill 1 (some .int) 0 := ⟨kd_X8_matchTill, ki_X8, kj_X8_matchTill, kl_X8_matchTill, by decide +kernel⟩
set_option maxRecDepth 100000 in
theorem mf_X8_taxHundredths : mV yX8_taxHundredths cX8_taxHundredths 1 (some .int) 0 := ⟨kd_X8_taxHundredths, ki_X8, kj_X8_taxHundredths, kl_X8_taxHundredths, by decide +kernel⟩
set_option maxRecDepth 100000 in
theorem mf_X8_lapseDues : mV yX8_lapseDues cX8_lapseDues 1 (some .int) 0 := ⟨kd_X8_lapseDues, ki_X8, kj_X8_lapseDues, kl_X8_lapseDues, by decide +kernel⟩
set_option maxRecDepth 100000 in
theorem mf_X8_loanPence : mV yX8_loanPence cX8_loanPence 1 (some .int) 0 := ⟨kd_X8_loanPence, ki_X8, kj_X8_loanPence, kl_X8_loanPence, by decide +kernel⟩
set_option maxRecDepth 100000 in
theorem mf_X8_loanThousandths : mV yX8_loanThousandths cX8_loanThousandths 1 (some .int) 0 := ⟨kd_X8_loanThousandths, ki_X8, kj_X8_loanThousandths, kl_X8_loanThousandths, by decide +kernel⟩
set_option maxRecDepth 100000 in
theorem mf_X8_stonePence : mV yX8_stonePence cX8_stonePence 1 (some .int) 0 := ⟨kd_X8_stonePence, ki_X8, kj_X8_stonePence, kl_X8_stonePence, by decide +kernel⟩
set_option maxRecDepth 100000 in
theorem mf_X8_givesAllBack : mV yX8_givesAllBack cX8_givesAllBack 1 (some .boolean) 0 := ⟨kd_X8_givesAllBack, ki_X8, kj_X8_givesAllBack, kl_X8_givesAllBack, by decide +kernel⟩
set_option maxRecDepth 100000 in
theorem mf_X9_init : mI yX9_init cX9_init 1 0 := ⟨kd_X9_init, ki_X9, kj_X9_init, rfl, by decide +kernel⟩
set_option maxRecDepth 100000 in
theorem mf_X9_draft : mV yX9_draft cX9_draft 1 (some (.object "TowerAppeal$Trust")) 0 := ⟨kd_X9_draft, ki_X9, kj_X9_draft, kl_X9_draft, by decide +kernel⟩
set_option maxRecDepth 100000 in
theorem mf_X9_faultKind : mV yX9_faultKind cX9_faultKind 1 (some .int) 0 := ⟨kd_X9_faultKind, ki_X9, kj_X9_faultKind, kl_X9_faultKind, by decide +kernel⟩
set_option maxRecDepth 100000 in
theorem mf_X9_faultPlace : mV yX9_faultPlace cX9_faultPlace 1 (some .int) 0 := ⟨kd_X9_faultPlace, ki_X9, kj_X9_faultPlace, kl_X9_faultPlace, by decide +kernel⟩
set_option maxRecDepth 100000 in
theorem mf_X9_read : mV yX9_read cX9_read 4 (some .int) 1 := ⟨kd_X9_read, ki_X9, kj_X9_read, kl_X9_read, by decide +kernel⟩
set_option maxRecDepth 100000 in
theorem mf_X9_startAnew : mV yX9_startAnew cX9_startAnew 2 none 0 := ⟨kd_X9_startAnew, ki_X9, kj_X9_startAnew, kl_X9_startAnew, by decide +kernel⟩
set_option maxRecDepth 100000 in
theorem mf_X9_refuse : mV yX9_refuse cX9_refuse 2 none 1 := ⟨kd_X9_refuse, ki_X9, kj_X9_refuse, kl_X9_refuse, by decide +kernel⟩
set_option maxRecDepth 100000 in
theorem mf_X9_readLine : mV yX9_readLine cX9_readLine 3 none 1 := ⟨kd_X9_readLine, ki_X9, kj_X9_readLine, kl_X9_readLine, by decide +kernel⟩
set_option maxRecDepth 100000 in
theorem mf_X9_readNumbers : mV yX9_readNumbers cX9_readNumbers 6 none 2 := ⟨kd_X9_readNumbers, ki_X9, kj_X9_readNumbers, kl_X9_readNumbers, by decide +kernel⟩
set_option maxRecDepth 100000 in
theorem mf_X9_isInBounds : mS yX9_isInBounds cX9_isInBounds 2 (some .boolean) 2 := ⟨kd_X9_isInBounds, ki_X9, ks_X9_isInBounds, by decide +kernel⟩
set_option maxRecDepth 100000 in
theorem mf_X9_readStop : mV yX9_readStop cX9_readStop 2 none 1 := ⟨kd_X9_readStop, ki_X9, kj_X9_readStop, kl_X9_readStop, by decide +kernel⟩
set_option maxRecDepth 100000 in
theorem mf_X9_lineOfWord : mV yX9_lineOfWord cX9_lineOfWord 2 (some .int) 1 := ⟨kd_X9_lineOfWord, ki_X9, kj_X9_lineOfWord, kl_X9_lineOfWord, by decide +kernel⟩
set_option maxRecDepth 100000 in
theorem mf_X9_isWord : mV yX9_isWord cX9_isWord 4 (some .boolean) 2 := ⟨kd_X9_isWord, ki_X9, kj_X9_isWord, kl_X9_isWord, by decide +kernel⟩
set_option maxRecDepth 100000 in
theorem mf_X9_readToken : mV yX9_readToken cX9_readToken 3 none 1 := ⟨kd_X9_readToken, ki_X9, kj_X9_readToken, kl_X9_readToken, by decide +kernel⟩
set_option maxRecDepth 100000 in
theorem mf_X9_readWord : mV yX9_readWord cX9_readWord 2 none 1 := ⟨kd_X9_readWord, ki_X9, kj_X9_readWord, kl_X9_readWord, by decide +kernel⟩
set_option maxRecDepth 100000 in
theorem mf_X9_readNumber : mV yX9_readNumber cX9_readNumber 2 none 1 := ⟨kd_X9_readNumber, ki_X9, kj_X9_readNumber, kl_X9_readNumber, by decide +kernel⟩
set_option maxRecDepth 100000 in
theorem mf_X9_isBlank : mS yX9_isBlank cX9_isBlank 1 (some .boolean) 1 := ⟨kd_X9_isBlank, ki_X9, ks_X9_isBlank, by decide +kernel⟩
set_option maxRecDepth 100000 in
theorem mf_X9_isLetter : mS yX9_isLetter cX9_isLetter 1 (some .boolean) 1 := ⟨kd_X9_isLetter, ki_X9, ks_X9_isLetter, by decide +kernel⟩
set_option maxRecDepth 100000 in
theorem mf_X9_isDigit : mS yX9_isDigit cX9_isDigit 1 (some .boolean) 1 := ⟨kd_X9_isDigit, ki_X9, ks_X9_isDigit, by decide +kernel⟩
set_option maxRecDepth 100000 in
theorem mf_X10_init : mI yX10_init cX10_init 1 0 := ⟨kd_X10_init, ki_X10, kj_X10_init, rfl, by decide +kernel⟩
set_option maxRecDepth 100000 in
theorem mf_X10_feed : mV yX10_feed cX10_feed 6 (some .int) 5 := ⟨kd_X10_feed, ki_X10, kj_X10_feed, kl_X10_feed, by decide +kernel⟩
set_option maxRecDepth 100000 in
theorem mf_X10_end : mV yX10_end cX10_end 2 (some .int) 1 := ⟨kd_X10_end, ki_X10, kj_X10_end, kl_X10_end, by decide +kernel⟩
set_option maxRecDepth 100000 in
theorem mf_X10_trust : mV yX10_trust cX10_trust 2 (some .int) 0 := ⟨kd_X10_trust, ki_X10, kj_X10_trust, kl_X10_trust, by decide +kernel⟩
set_option maxRecDepth 100000 in
theorem mf_X10_fault : mV yX10_fault cX10_fault 2 (some .int) 1 := ⟨kd_X10_fault, ki_X10, kj_X10_fault, kl_X10_fault, by decide +kernel⟩
set_option maxRecDepth 100000 in
theorem mf_X10_rule : mV yX10_rule cX10_rule 2 (some .int) 1 := ⟨kd_X10_rule, ki_X10, kj_X10_rule, kl_X10_rule, by decide +kernel⟩
set_option maxRecDepth 100000 in
theorem mf_X10_declare : mV yX10_declare cX10_declare 4 (some .int) 3 := ⟨kd_X10_declare, ki_X10, kj_X10_declare, kl_X10_declare, by decide +kernel⟩
set_option maxRecDepth 100000 in
theorem mf_X10_nameless : mV yX10_nameless cX10_nameless 3 (some .int) 2 := ⟨kd_X10_nameless, ki_X10, kj_X10_nameless, kl_X10_nameless, by decide +kernel⟩
set_option maxRecDepth 100000 in
theorem mf_X10_pledge : mV yX10_pledge cX10_pledge 6 (some .int) 5 := ⟨kd_X10_pledge, ki_X10, kj_X10_pledge, kl_X10_pledge, by decide +kernel⟩
set_option maxRecDepth 100000 in
theorem mf_X10_change : mV yX10_change cX10_change 4 (some .int) 2 := ⟨kd_X10_change, ki_X10, kj_X10_change, kl_X10_change, by decide +kernel⟩
set_option maxRecDepth 100000 in
theorem mf_X10_pay : mV yX10_pay cX10_pay 4 (some .int) 2 := ⟨kd_X10_pay, ki_X10, kj_X10_pay, kl_X10_pay, by decide +kernel⟩
set_option maxRecDepth 100000 in
theorem mf_X10_gift : mV yX10_gift cX10_gift 3 (some .int) 2 := ⟨kd_X10_gift, ki_X10, kj_X10_gift, kl_X10_gift, by decide +kernel⟩
set_option maxRecDepth 100000 in
theorem mf_X10_takeUp : mV yX10_takeUp cX10_takeUp 3 (some .int) 1 := ⟨kd_X10_takeUp, ki_X10, kj_X10_takeUp, kl_X10_takeUp, by decide +kernel⟩
set_option maxRecDepth 100000 in
theorem mf_X10_claim : mV yX10_claim cX10_claim 2 (some .int) 0 := ⟨kd_X10_claim, ki_X10, kj_X10_claim, kl_X10_claim, by decide +kernel⟩
set_option maxRecDepth 100000 in
theorem mf_X10_about : mV yX10_about cX10_about 4 (some .int) 2 := ⟨kd_X10_about, ki_X10, kj_X10_about, kl_X10_about, by decide +kernel⟩
set_option maxRecDepth 100000 in
theorem mf_X10_giver : mV yX10_giver cX10_giver 3 (some .int) 2 := ⟨kd_X10_giver, ki_X10, kj_X10_giver, kl_X10_giver, by decide +kernel⟩
set_option maxRecDepth 100000 in
theorem mf_X10_stage : mV yX10_stage cX10_stage 3 (some .int) 2 := ⟨kd_X10_stage, ki_X10, kj_X10_stage, kl_X10_stage, by decide +kernel⟩
set_option maxRecDepth 100000 in
theorem mf_X10_begin : mV yX10_begin cX10_begin 1 (some .int) 0 := ⟨kd_X10_begin, ki_X10, kj_X10_begin, kl_X10_begin, by decide +kernel⟩
set_option maxRecDepth 100000 in
theorem mf_X10_built : mV yX10_built cX10_built 4 (some .int) 2 := ⟨kd_X10_built, ki_X10, kj_X10_built, kl_X10_built, by decide +kernel⟩
set_option maxRecDepth 100000 in
theorem mf_X10_months : mV yX10_months cX10_months 3 (some .int) 1 := ⟨kd_X10_months, ki_X10, kj_X10_months, kl_X10_months, by decide +kernel⟩
set_option maxRecDepth 100000 in
theorem mf_X10_sure : mV yX10_sure cX10_sure 2 (some .int) 1 := ⟨kd_X10_sure, ki_X10, kj_X10_sure, kl_X10_sure, by decide +kernel⟩
set_option maxRecDepth 100000 in
theorem mf_X10_stone : mV yX10_stone cX10_stone 3 (some .int) 1 := ⟨kd_X10_stone, ki_X10, kj_X10_stone, kl_X10_stone, by decide +kernel⟩
set_option maxRecDepth 100000 in
theorem mf_X10_stop : mV yX10_stop cX10_stop 2 (some .int) 0 := ⟨kd_X10_stop, ki_X10, kj_X10_stop, kl_X10_stop, by decide +kernel⟩
set_option maxRecDepth 100000 in
theorem mf_X10_back : mV yX10_back cX10_back 2 (some .int) 1 := ⟨kd_X10_back, ki_X10, kj_X10_back, kl_X10_back, by decide +kernel⟩
set_option maxRecDepth 100000 in
theorem mf_X10_count : mV yX10_count cX10_count 2 (some .int) 1 := ⟨kd_X10_count, ki_X10, kj_X10_count, kl_X10_count, by decide +kernel⟩
set_option maxRecDepth 100000 in
theorem mf_X10_isGiver : mS yX10_isGiver cX10_isGiver 1 (some .boolean) 1 := ⟨kd_X10_isGiver, ki_X10, ks_X10_isGiver, by decide +kernel⟩
set_option maxRecDepth 100000 in
theorem mf_X10_isSum : mS yX10_isSum cX10_isSum 1 (some .boolean) 1 := ⟨kd_X10_isSum, ki_X10, ks_X10_isSum, by decide +kernel⟩
set_option maxRecDepth 100000 in
theorem mf_X10_isWithin : mS yX10_isWithin cX10_isWithin 3 (some .boolean) 3 := ⟨kd_X10_isWithin, ki_X10, ks_X10_isWithin, by decide +kernel⟩
set_option maxRecDepth 100000 in
theorem mf_X10_receive : mV yX10_receive cX10_receive 3 (some .int) 2 := ⟨kd_X10_receive, ki_X10, kj_X10_receive, kl_X10_receive, by decide +kernel⟩
set_option maxRecDepth 100000 in
theorem mf_X10_endMonth : mV yX10_endMonth cX10_endMonth 1 none 0 := ⟨kd_X10_endMonth, ki_X10, kj_X10_endMonth, kl_X10_endMonth, by decide +kernel⟩
set_option maxRecDepth 100000 in
theorem mf_X11_init : mI yX11_init cX11_init 1 0 := ⟨kd_X11_init, ki_X11, kj_X11_init, rfl, by decide +kernel⟩
set_option maxRecDepth 100000 in
theorem mf_X12_in : mS yX12_in cX12_in 6 (some .boolean) 3 := ⟨kd_X12_in, ki_X12, ks_X12_in, by decide +kernel⟩
set_option maxRecDepth 100000 in
theorem mf_X12_wrong : mV yX12_wrong cX12_wrong 2 (some (.object "TowerAppealModel$Stop")) 1 := ⟨kd_X12_wrong, ki_X12, kj_X12_wrong, kl_X12_wrong, by decide +kernel⟩
set_option maxRecDepth 100000 in
theorem mf_X12_byteAt : mV yX12_byteAt cX12_byteAt 2 (some .int) 1 := ⟨kd_X12_byteAt, ki_X12, kj_X12_byteAt, kl_X12_byteAt, by decide +kernel⟩
set_option maxRecDepth 100000 in
theorem mf_X12_isLetter : mS yX12_isLetter cX12_isLetter 1 (some .boolean) 1 := ⟨kd_X12_isLetter, ki_X12, ks_X12_isLetter, by decide +kernel⟩
set_option maxRecDepth 100000 in
theorem mf_X12_isDigit : mS yX12_isDigit cX12_isDigit 1 (some .boolean) 1 := ⟨kd_X12_isDigit, ki_X12, ks_X12_isDigit, by decide +kernel⟩
set_option maxRecDepth 100000 in
theorem mf_X12_scan : mV yX12_scan cX12_scan 2 none 0 := ⟨kd_X12_scan, ki_X12, kj_X12_scan, kl_X12_scan, by decide +kernel⟩
set_option maxRecDepth 100000 in
theorem mf_X12_is : mV yX12_is cX12_is 4 (some .boolean) 1 := ⟨kd_X12_is, ki_X12, kj_X12_is, kl_X12_is, by decide +kernel⟩
set_option maxRecDepth 100000 in
theorem mf_X12_number : mV yX12_number cX12_number 4 (some .int) 2 := ⟨kd_X12_number, ki_X12, kj_X12_number, kl_X12_number, by decide +kernel⟩
set_option maxRecDepth 100000 in
theorem mf_X12_key : mV yX12_key cX12_key 1 (some .int) 0 := ⟨kd_X12_key, ki_X12, kj_X12_key, kl_X12_key, by decide +kernel⟩
set_option maxRecDepth 100000 in
theorem mf_X12_readTrust : mV yX12_readTrust cX12_readTrust 3 (some .int) 0 := ⟨kd_X12_readTrust, ki_X12, kj_X12_readTrust, kl_X12_readTrust, by decide +kernel⟩
set_option maxRecDepth 100000 in
theorem mf_X12_readLine : mV yX12_readLine cX12_readLine 2 none 1 := ⟨kd_X12_readLine, ki_X12, kj_X12_readLine, kl_X12_readLine, by decide +kernel⟩
set_option maxRecDepth 100000 in
theorem mf_X12_init : mI yX12_init cX12_init 2 0 := ⟨kd_X12_init, ki_X12, kj_X12_init, rfl, by decide +kernel⟩
set_option maxRecDepth 100000 in
theorem mf_X12_feed : mV yX12_feed cX12_feed 6 (some .int) 5 := ⟨kd_X12_feed, ki_X12, kj_X12_feed, kl_X12_feed, by decide +kernel⟩
set_option maxRecDepth 100000 in
theorem mf_X12_lay : mV yX12_lay cX12_lay 3 none 1 := ⟨kd_X12_lay, ki_X12, kj_X12_lay, kl_X12_lay, by decide +kernel⟩
set_option maxRecDepth 100000 in
theorem mf_X12_end : mV yX12_end cX12_end 2 (some .int) 1 := ⟨kd_X12_end, ki_X12, kj_X12_end, kl_X12_end, by decide +kernel⟩
set_option maxRecDepth 100000 in
theorem mf_X12_fault : mV yX12_fault cX12_fault 2 (some .int) 1 := ⟨kd_X12_fault, ki_X12, kj_X12_fault, kl_X12_fault, by decide +kernel⟩
set_option maxRecDepth 100000 in
theorem mf_X12_rule : mV yX12_rule cX12_rule 2 (some .int) 1 := ⟨kd_X12_rule, ki_X12, kj_X12_rule, kl_X12_rule, by decide +kernel⟩
set_option maxRecDepth 100000 in
theorem mf_X12_isGiver : mS yX12_isGiver cX12_isGiver 1 (some .boolean) 1 := ⟨kd_X12_isGiver, ki_X12, ks_X12_isGiver, by decide +kernel⟩
set_option maxRecDepth 100000 in
theorem mf_X12_isMonth : mS yX12_isMonth cX12_isMonth 1 (some .boolean) 1 := ⟨kd_X12_isMonth, ki_X12, ks_X12_isMonth, by decide +kernel⟩
set_option maxRecDepth 100000 in
theorem mf_X12_declare : mV yX12_declare cX12_declare 4 (some .int) 3 := ⟨kd_X12_declare, ki_X12, kj_X12_declare, kl_X12_declare, by decide +kernel⟩
set_option maxRecDepth 100000 in
theorem mf_X12_nameless : mV yX12_nameless cX12_nameless 4 (some .int) 2 := ⟨kd_X12_nameless, ki_X12, kj_X12_nameless, kl_X12_nameless, by decide +kernel⟩
set_option maxRecDepth 100000 in
theorem mf_X12_monthOf : mV yX12_monthOf cX12_monthOf 3 (some .int) 2 := ⟨kd_X12_monthOf, ki_X12, kj_X12_monthOf, kl_X12_monthOf, by decide +kernel⟩
set_option maxRecDepth 100000 in
theorem mf_X12_pledge : mV yX12_pledge cX12_pledge 8 (some .int) 5 := ⟨kd_X12_pledge, ki_X12, kj_X12_pledge, kl_X12_pledge, by decide +kernel⟩
set_option maxRecDepth 100000 in
theorem mf_X12_isPledge : mV yX12_isPledge cX12_isPledge 2 (some .boolean) 1 := ⟨kd_X12_isPledge, ki_X12, kj_X12_isPledge, kl_X12_isPledge, by decide +kernel⟩
set_option maxRecDepth 100000 in
theorem mf_X12_change : mV yX12_change cX12_change 4 (some .int) 2 := ⟨kd_X12_change, ki_X12, kj_X12_change, kl_X12_change, by decide +kernel⟩
set_option maxRecDepth 100000 in
theorem mf_X12_unfilled : mV yX12_unfilled cX12_unfilled 4 (some .int) 1 := ⟨kd_X12_unfilled, ki_X12, kj_X12_unfilled, kl_X12_unfilled, by decide +kernel⟩
set_option maxRecDepth 100000 in
theorem mf_X12_come : mV yX12_come cX12_come 4 (some .int) 2 := ⟨kd_X12_come, ki_X12, kj_X12_come, kl_X12_come, by decide +kernel⟩
set_option maxRecDepth 100000 in
theorem mf_X12_pay : mV yX12_pay cX12_pay 6 (some .int) 2 := ⟨kd_X12_pay, ki_X12, kj_X12_pay, kl_X12_pay, by decide +kernel⟩
set_option maxRecDepth 100000 in
theorem mf_X12_gift : mV yX12_gift cX12_gift 3 (some .int) 2 := ⟨kd_X12_gift, ki_X12, kj_X12_gift, kl_X12_gift, by decide +kernel⟩
set_option maxRecDepth 100000 in
theorem mf_X12_toCome : mV yX12_toCome cX12_toCome 4 (some .int) 1 := ⟨kd_X12_toCome, ki_X12, kj_X12_toCome, kl_X12_toCome, by decide +kernel⟩
set_option maxRecDepth 100000 in
theorem mf_X12_takeUp : mV yX12_takeUp cX12_takeUp 3 (some .int) 1 := ⟨kd_X12_takeUp, ki_X12, kj_X12_takeUp, kl_X12_takeUp, by decide +kernel⟩
set_option maxRecDepth 100000 in
theorem mf_X12_claim : mV yX12_claim cX12_claim 4 (some .int) 0 := ⟨kd_X12_claim, ki_X12, kj_X12_claim, kl_X12_claim, by decide +kernel⟩
set_option maxRecDepth 100000 in
theorem mf_X12_overdue : mV yX12_overdue cX12_overdue 4 (some .int) 1 := ⟨kd_X12_overdue, ki_X12, kj_X12_overdue, kl_X12_overdue, by decide +kernel⟩
set_option maxRecDepth 100000 in
theorem mf_X12_about : mV yX12_about cX12_about 5 (some .int) 2 := ⟨kd_X12_about, ki_X12, kj_X12_about, kl_X12_about, by decide +kernel⟩
set_option maxRecDepth 100000 in
theorem mf_X12_giver : mV yX12_giver cX12_giver 5 (some .int) 2 := ⟨kd_X12_giver, ki_X12, kj_X12_giver, kl_X12_giver, by decide +kernel⟩
set_option maxRecDepth 100000 in
theorem mf_X12_stage : mV yX12_stage cX12_stage 3 (some .int) 2 := ⟨kd_X12_stage, ki_X12, kj_X12_stage, kl_X12_stage, by decide +kernel⟩
set_option maxRecDepth 100000 in
theorem mf_X12_runs : mV yX12_runs cX12_runs 1 (some .boolean) 0 := ⟨kd_X12_runs, ki_X12, kj_X12_runs, kl_X12_runs, by decide +kernel⟩
set_option maxRecDepth 100000 in
theorem mf_X12_begin : mV yX12_begin cX12_begin 1 (some .int) 0 := ⟨kd_X12_begin, ki_X12, kj_X12_begin, kl_X12_begin, by decide +kernel⟩
set_option maxRecDepth 100000 in
theorem mf_X12_built : mV yX12_built cX12_built 3 (some .int) 2 := ⟨kd_X12_built, ki_X12, kj_X12_built, kl_X12_built, by decide +kernel⟩
set_option maxRecDepth 100000 in
theorem mf_X12_lapse : mV yX12_lapse cX12_lapse 4 none 1 := ⟨kd_X12_lapse, ki_X12, kj_X12_lapse, kl_X12_lapse, by decide +kernel⟩
set_option maxRecDepth 100000 in
theorem mf_X12_build : mV yX12_build cX12_build 6 none 0 := ⟨kd_X12_build, ki_X12, kj_X12_build, kl_X12_build, by decide +kernel⟩
set_option maxRecDepth 100000 in
theorem mf_X12_endMonth : mV yX12_endMonth cX12_endMonth 3 none 0 := ⟨kd_X12_endMonth, ki_X12, kj_X12_endMonth, kl_X12_endMonth, by decide +kernel⟩
set_option maxRecDepth 100000 in
theorem mf_X12_months : mV yX12_months cX12_months 3 (some .int) 1 := ⟨kd_X12_months, ki_X12, kj_X12_months, kl_X12_months, by decide +kernel⟩
set_option maxRecDepth 100000 in
theorem mf_X12_sure : mV yX12_sure cX12_sure 12 (some .int) 1 := ⟨kd_X12_sure, ki_X12, kj_X12_sure, kl_X12_sure, by decide +kernel⟩
set_option maxRecDepth 100000 in
theorem mf_X12_carve : mV yX12_carve cX12_carve 5 (some .int) 0 := ⟨kd_X12_carve, ki_X12, kj_X12_carve, kl_X12_carve, by decide +kernel⟩
set_option maxRecDepth 100000 in
theorem mf_X12_stone : mV yX12_stone cX12_stone 2 (some .int) 1 := ⟨kd_X12_stone, ki_X12, kj_X12_stone, kl_X12_stone, by decide +kernel⟩
set_option maxRecDepth 100000 in
theorem mf_X12_allGiven : mV yX12_allGiven cX12_allGiven 3 (some .int) 0 := ⟨kd_X12_allGiven, ki_X12, kj_X12_allGiven, kl_X12_allGiven, by decide +kernel⟩
set_option maxRecDepth 100000 in
theorem mf_X12_stop : mV yX12_stop cX12_stop 4 (some .int) 0 := ⟨kd_X12_stop, ki_X12, kj_X12_stop, kl_X12_stop, by decide +kernel⟩
set_option maxRecDepth 100000 in
theorem mf_X12_back : mV yX12_back cX12_back 2 (some .int) 1 := ⟨kd_X12_back, ki_X12, kj_X12_back, kl_X12_back, by decide +kernel⟩
set_option maxRecDepth 100000 in
theorem mf_X12_count : mV yX12_count cX12_count 4 (some .int) 1 := ⟨kd_X12_count, ki_X12, kj_X12_count, kl_X12_count, by decide +kernel⟩
set_option maxRecDepth 100000 in
theorem mf_J9_max_7cf53 : mS yJ9_max_7cf53 cJ9_max_7cf53 2 (some .int) 2 := ⟨kd_J9_max_7cf53, ki_J9, ks_J9_max_7cf53, by decide +kernel⟩
set_option maxRecDepth 100000 in
theorem mf_J9_max_f86c9 : mS yJ9_max_f86c9 cJ9_max_f86c9 4 (some .long) 2 := ⟨kd_J9_max_f86c9, ki_J9, ks_J9_max_f86c9, by decide +kernel⟩
set_option maxRecDepth 100000 in
theorem mf_J9_min_7cf53 : mS yJ9_min_7cf53 cJ9_min_7cf53 2 (some .int) 2 := ⟨kd_J9_min_7cf53, ki_J9, ks_J9_min_7cf53, by decide +kernel⟩
set_option maxRecDepth 100000 in
theorem mf_J9_min_f86c9 : mS yJ9_min_f86c9 cJ9_min_f86c9 4 (some .long) 2 := ⟨kd_J9_min_f86c9, ki_J9, ks_J9_min_f86c9, by decide +kernel⟩
set_option maxRecDepth 100000 in
theorem mf_J0_length_8abf5 : mV yJ0_length_8abf5 cJ0_length_8abf5 1 (some .int) 0 := ⟨kd_J0_length_8abf5, ki_J0, kj_J0_length_8abf5, kl_J0_length_8abf5, by decide +kernel⟩
set_option maxRecDepth 100000 in
theorem mf_J0_charAt_5068e : mV yJ0_charAt_5068e cJ0_charAt_5068e 2 (some .char) 1 := ⟨kd_J0_charAt_5068e, ki_J0, kj_J0_charAt_5068e, kl_J0_charAt_5068e, by decide +kernel⟩
set_option maxRecDepth 100000 in
theorem mf_J0_coder_7d493 : mV yJ0_coder_7d493 cJ0_coder_7d493 1 (some .byte) 0 := ⟨kd_J0_coder_7d493, ki_J0, kj_J0_coder_7d493, kl_J0_coder_7d493, by decide +kernel⟩
set_option maxRecDepth 100000 in
theorem mf_J0_isLatin1_aae02 : mV yJ0_isLatin1_aae02 cJ0_isLatin1_aae02 1 (some .boolean) 0 := ⟨kd_J0_isLatin1_aae02, ki_J0, kj_J0_isLatin1_aae02, kl_J0_isLatin1_aae02, by decide +kernel⟩
set_option maxRecDepth 100000 in
theorem mf_J0_checkIndex_df160 : mS yJ0_checkIndex_df160 cJ0_checkIndex_df160 2 none 2 := ⟨kd_J0_checkIndex_df160, ki_J0, ks_J0_checkIndex_df160, by decide +kernel⟩
set_option maxRecDepth 100000 in
theorem mf_J1_charAt_3b067 : mS yJ1_charAt_3b067 cJ1_charAt_3b067 2 (some .char) 2 := ⟨kd_J1_charAt_3b067, ki_J1, ks_J1_charAt_3b067, by decide +kernel⟩
set_option maxRecDepth 100000 in
theorem mf_J2_getChar_3b067 : mS yJ2_getChar_3b067 cJ2_getChar_3b067 2 (some .char) 2 := ⟨kd_J2_getChar_3b067, ki_J2, ks_J2_getChar_3b067, by decide +kernel⟩
set_option maxRecDepth 100000 in
theorem mf_J2_length_9d52b : mS yJ2_length_9d52b cJ2_length_9d52b 1 (some .int) 1 := ⟨kd_J2_length_9d52b, ki_J2, ks_J2_length_9d52b, by decide +kernel⟩
set_option maxRecDepth 100000 in
theorem mf_J2_charAt_3b067 : mS yJ2_charAt_3b067 cJ2_charAt_3b067 2 (some .char) 2 := ⟨kd_J2_charAt_3b067, ki_J2, ks_J2_charAt_3b067, by decide +kernel⟩
set_option maxRecDepth 100000 in
theorem mf_J2_checkIndex_2214a : mS yJ2_checkIndex_2214a cJ2_checkIndex_2214a 2 none 2 := ⟨kd_J2_checkIndex_2214a, ki_J2, ks_J2_checkIndex_2214a, by decide +kernel⟩
set_option maxRecDepth 100000 in
theorem mf_J3_checkIndex_8e157 : mS yJ3_checkIndex_8e157 cJ3_checkIndex_8e157 3 (some .int) 3 := ⟨kd_J3_checkIndex_8e157, ki_J3, ks_J3_checkIndex_8e157, by decide +kernel⟩
set_option maxRecDepth 100000 in
theorem mf_E_init : mI yE_init cE_init 5 4 := ⟨kd_E_init, ki_E, kj_E_init, rfl, by decide +kernel⟩
set_option maxRecDepth 100000 in
theorem mf_H_init : mI yH_init cH_init 5 4 := ⟨kd_H_init, ki_H, kj_H_init, rfl, by decide +kernel⟩
section CB2
variable {p : Program} {l : Launch} {e : Env} {R : Room} {s : State} {m : MethodId} {args : Array Value} {below : List Frame} {meth : Method} {c : Code} {H : Heap} {locs : List Loc} {cells slots : Nat} {Q : State → Prop}
variable {cc : ByteArray} {pc nL : Nat} {ls : Array Slot} {rest : List Value} {G : va_G} {k : Nat → Nat} {A : Nat → Prop} {a : Nat} {tys tc : List (ClassId × FieldType)} {ws wc wr w' : va_W} {own : String}
theorem cs_newq (F : CallFix p m c cc nL s args tb own) (St : cS G k ws tys A s H locs) {C : String} {index : Nat} (hcl : Cond.classLink own index C ∈ tb) (hover : va_AO C s) {n : Int32} {N' : Nat} (hn : ¬ n < 0) (hN : n.toNatClampNeg = N') (hbytes : N' * 4 ≤ 536870912) (hcells : cells + 1 ≤ R.cells) (hslots : slots + N' ≤ R.slots) (hdg : decode cc pc = .ok (.anewarray index, 3))
    (kk : ∀ (q : Nat) (cA : ClassId) (H1 : Heap), cS G k (ws ++ [(q, .inl (cA, N', .inr (.inr (.inr (.inr (fun _ => none))))))]) (tys ++ [(cA, .object C)]) A s H1 locs → W p l e R s m args below meth c H1 locs (cells + 1) (slots + N') Q (F0 m (pc + 3) ls (.ref q :: rest))) : W p l e R s m args below meth c H locs cells slots Q (F0 m pc ls (.int n :: rest)) :=
  va_newq F.1 F.2.1 F.2.2.2.1 (F.2.2.2.2 _ hcl) hover St.1 St.2.1 St.2.2.1 St.toS St.2.2.2.2.1 hn hN hbytes hcells hslots hdg (fun q cA H1 hK hP hD hS => kk q cA H1 ⟨hK, hP, hD, hS, St.2.2.2.2.1, St.2.2.2.2.2⟩)
/-- nine ints out of a row of the world -/
theorem cs_cp (F : CallFix p m c cc nL s args tb own) {lv : List (Nat × Value)} (hl : lv_has ls nL lv) (St : cS G k ws tys A s H locs) (q0 q1 t0 t1 : Nat) {a0 : Nat} {c0 c1 : ClassId} {f g : Nat → Int32} (ha0 : ws[q0]? = some (a0, .inl (c0, 9, .inl f))) (ha1 : ws[q1]? = some (a, .inl (c1, 9, .inl g))) (ht0 : tys[t0]? = some (c0, .int)) (ht1 : tys[t1]? = some (c1, .int)) {index : Nat} (hlink : Cond.methodLink own index arraycopyName ∈ tb) (hframes : 1 ≤ R.frames) (hlocals : 40 ≤ R.locals) (hrest : (rest.map fun v => v.category).sum ≤ 8) (hw : ws.set q1 (a, .inl (c1, 9, .inl (va_cpy f g 0 0 9))) = w') (hdg : decode cc pc = .ok (.invokestatic index, 3))
    (kk : ∀ (H1 : Heap) (locs1 : List Loc), cS G k w' tys A s H1 locs1 → W p l e R s m args below meth c H1 locs1 cells slots Q (F0 m (pc + 3) ls rest)) : W p l e R s m args below meth c H locs cells slots Q (F0 m pc ls (.int 9 :: .int 0 :: .ref a :: .int 0 :: .ref a0 :: rest)) := by
  subst hw
  have hnw : nativeFrameWords "java/lang/System" "arraycopy" 5 = 7 := by decide
  exact va_copyi F.1 F.2.1 (F.2.2.1.trans hl.1.symm) F.2.2.2.1 (F.2.2.2.2 _ hlink) (F.2.2.2.2 _ kv_arraycopyName) (F.2.2.2.2 _ ks_arraycopyName) (F.2.2.2.2 _ ki_J10) St.1 St.2.1 St.2.2.1 St.toS q0 q1 t0 t1 ha0 ha1 ht0 ht1 rfl (by decide) (by decide) (by decide) (by decide) (by decide) (fun _ _ => rfl) hframes (by omega) hdg (fun H1 locs1 hP hD hS => kk H1 locs1 ⟨St.1, hP, hD, hS, St.2.2.2.2.1, St.2.2.2.2.2⟩)
/-- nine ints out of a static row -/
theorem cs_cpT (F : CallFix p m c cc nL s args tb own) {lv : List (Nat × Value)} (hl : lv_has ls nL lv) (St : cS G k ws tys A s H locs) {b0 : Nat} {f : Nat → Int32} (hX : va_T .int b0 9 (fun j => .int (f j)) A s s.heap) (q1 t1 : Nat) {c1 : ClassId} {g : Nat → Int32} (ha1 : ws[q1]? = some (a, .inl (c1, 9, .inl g))) (ht1 : tys[t1]? = some (c1, .int)) {index : Nat} (hlink : Cond.methodLink own index arraycopyName ∈ tb) (hframes : 1 ≤ R.frames) (hlocals : 40 ≤ R.locals) (hrest : (rest.map fun v => v.category).sum ≤ 8) (hw : ws.set q1 (a, .inl (c1, 9, .inl (va_cpy f g 0 0 9))) = w') (hdg : decode cc pc = .ok (.invokestatic index, 3))
    (kk : ∀ (H1 : Heap) (locs1 : List Loc), cS G k w' tys A s H1 locs1 → W p l e R s m args below meth c H1 locs1 cells slots Q (F0 m (pc + 3) ls rest)) : W p l e R s m args below meth c H locs cells slots Q (F0 m pc ls (.int 9 :: .int 0 :: .ref a :: .int 0 :: .ref b0 :: rest)) := by
  subst hw
  intro T hT X
  have hnw : nativeFrameWords "java/lang/System" "arraycopy" 5 = 7 := by decide
  have z9 : (9 : Int32).toNatClampNeg = 9 := by decide
  have z0 : (0 : Int32).toNatClampNeg = 0 := by decide
  have y9 : (9 : Int32).toInt = 9 := by decide
  have y0 : (0 : Int32).toInt = 0 := by decide
  obtain ⟨hK, hP, hD, hS, hA, hg⟩ := St
  obtain ⟨src, u1, u2, u3, u4, -, u5, u6⟩ := hX
  have hsrc : H[b0]? = some src := (hS.2.1 b0 (Array.getElem?_eq_some_iff.mp u1).1 u6).trans u1
  have hdst : H[a]? = some (vp_cell c1 (9, .inl g)) := hP q1 _ ha1
  obtain ⟨v1, ks, v2, cs, v3⟩ := u2
  obtain ⟨-, kd, x2, cd, x3⟩ := (hK.2 t1 _ ht1).1 9 (fun j => .int (g j))
  have hlt : a < H.size := (Array.getElem?_eq_some_iff.mp hdst).1
  obtain ⟨vm', X', step⟩ := X.arraycopy F.1 F.2.2.2.1 (F.2.2.2.2 _ hlink) (F.2.2.2.2 _ kv_arraycopyName) (F.2.2.2.2 _ ks_arraycopyName) (F.2.2.2.2 _ ki_J10) (src := b0) (dst := a) (srcPos := 0) (destPos := 0) (n := 9) (cs := src) (cd := vp_cell c1 (9, .inl g)) (by rw [hT]; exact hsrc) (by rw [hT]; exact hdst) v1 (fun _ h => by cases h) u3 (fun h => by cases h) v2 x2 v3 x3 (by simp [refKind]) (by decide) (by decide) (by decide)
    (by rw [y0, y9]; omega)
    (by rw [y0, y9]; show ¬ _ > ((arrV c1 9 (fun j => .int (g j))).slots.size : Int); rw [arrV_size]; omega)
    (fun vm1 _ i hi => by
      rw [z9] at hi
      have ev : src.slots.getD ((0 : Int32).toNatClampNeg + i) .null = .int (f i) := by
        rw [z0, Nat.zero_add, Array.getD_eq_getD_getElem?, u5 i hi]
        rfl
      rw [ev]
      exact ⟨rfl, trivial⟩)
    (g := F0 m pc ls (.int 9 :: .int 0 :: .ref a :: .int 0 :: .ref b0 :: rest)) rfl (hl.1.trans F.2.2.1.symm) (rest := rest) rfl (by rw [F.2.1]; exact hdg) hframes (by show 2 * 0 + _ + _ ≤ _; omega)
  have e1 : copied src (vp_cell c1 (9, .inl g)) 0 0 9 = vp_cell c1 (9, .inl (va_cpy f g 0 0 9)) := va_copiedX (fun z => .int z) src c1 f g u5 (by decide)
  rw [e1] at X' step
  have hheap : ((T.setVm vm').setCell a (vp_cell c1 (9, .inl (va_cpy f g 0 0 9)))).heap = H.setIfInBounds a (vp_cell c1 (9, .inl (va_cpy f g 0 0 9))) := by rw [← hT]; rfl
  have other : ∀ q : Nat, q ≠ a → (H.setIfInBounds a (vp_cell c1 (9, .inl (va_cpy f g 0 0 9))))[q]? = H[q]? := fun q hq => by simp [Array.getElem?_setIfInBounds, Ne.symm hq]
  have hself : (H.setIfInBounds a (vp_cell c1 (9, .inl (va_cpy f g 0 0 9))))[a]? = some (vp_cell c1 (9, .inl (va_cpy f g 0 0 9))) := by simp [Array.getElem?_setIfInBounds, hlt]
  have hS1 : va_S A s.heap (H.setIfInBounds a (vp_cell c1 (9, .inl (va_cpy f g 0 0 9)))) (locs ++ (src.stretch (0 : Int32).toNatClampNeg (9 : Int32).toNatClampNeg).zipIdx.map fun q => ⟨a, (0 : Int32).toNatClampNeg + q.2⟩) := by
    refine ⟨by simpa using hS.1, fun q h1 h2 => ?_, fun q hq => ?_⟩
    · rw [other q (fun h => h2 (by rw [h]; exact hD.2 q1 _ ha1))]
      exact hS.2.1 q h1 h2
    · rcases List.mem_append.mp hq with h | h
      · exact hS.2.2 q h
      · obtain ⟨z, -, rfl⟩ := List.mem_map.mp h
        exact hD.2 q1 _ ha1
  obtain ⟨t, a1, b1⟩ := kk _ _ ⟨hK, hP.set hD ha1 hself other, hD.set ha1, hS1, hA, hg⟩ _ hheap X'
  exact ⟨t, step t a1, b1⟩
end CB2
theorem cpy_untold : va_cpy untold (fun _ => 0) 0 0 9 = untold := by
  funext j
  simp only [va_cpy, untold]
  split <;> rename_i h
  · simp
  · have : ¬ j = 4 ∧ ¬ j = 7 := by omega
    simp [this.1, this.2]
theorem cpy_untold2 : va_cpy untold untold 0 0 9 = untold := by
  funext j
  simp only [va_cpy, untold]
  split <;> simp
end
section
def minus (n : Int) : Nat → Int32 := fun j => if (j : Int) < n then -1 else 0
theorem minus_0 : (fun _ => 0) = minus 0 := by
  funext j
  have : ¬ (j : Int) < 0 := by omega
  simp [minus, this]
theorem nc_int {x : Int32} (h : 0 ≤ x.toInt) : (x.toNatClampNeg : Int) = x.toInt := by
  show ((x.toInt.toNat : Nat) : Int) = x.toInt
  omega
theorem minus_up {i y : Int32} (h0 : 0 ≤ i.toInt) (h : y.toInt = i.toInt + 1) : upd (minus i.toInt) i.toNatClampNeg (-1) = minus y.toInt := by
  have hn := nc_int h0
  funext j
  by_cases hj : j = i.toNatClampNeg
  · subst hj
    rw [pk_us]
    have : ((i.toNatClampNeg : Nat) : Int) < y.toInt := by omega
    simp [minus, this]
  · rw [pk_un hj]
    have e : (j : Int) < i.toInt ↔ (j : Int) < y.toInt := by omega
    simp only [minus, e]
theorem minus_at {i : Int32} {n : Int} (h0 : 0 ≤ i.toInt) (h : i.toInt < n) : minus n i.toNatClampNeg = -1 := by
  have hn := nc_int h0
  have : ((i.toNatClampNeg : Nat) : Int) < n := by omega
  simp [minus, this]
theorem cl_lt {x y : Int64} {u v : Int} (hx : x.toInt = u) (hy : y.toInt = v) (h : x < y) : u < v := by rw [← hx, ← hy]; exact Int64.lt_iff_toInt_lt.mp h
theorem cl_nlt {x y : Int64} {u v : Int} (hx : x.toInt = u) (hy : y.toInt = v) (h : ¬ x < y) : ¬ u < v := by rw [← hx, ← hy]; exact fun q => h (Int64.lt_iff_toInt_lt.mpr q)
theorem cl_le {x y : Int64} {u v : Int} (hx : x.toInt = u) (hy : y.toInt = v) (h : x ≤ y) : u ≤ v := by rw [← hx, ← hy]; exact Int64.le_iff_toInt_le.mp h
theorem cl_nle {x y : Int64} {u v : Int} (hx : x.toInt = u) (hy : y.toInt = v) (h : ¬ x ≤ y) : ¬ u ≤ v := by rw [← hx, ← hy]; exact fun q => h (Int64.le_iff_toInt_le.mpr q)
theorem cl_eq {x y : Int64} {u v : Int} (hx : x.toInt = u) (hy : y.toInt = v) (h : x = y) : u = v := by rw [← hx, ← hy, h]
theorem cl_ne {x y : Int64} {u v : Int} (hx : x.toInt = u) (hy : y.toInt = v) (h : ¬ x = y) : ¬ u = v := by rw [← hx, ← hy]; exact fun q => h (Int64.toInt_inj.mp q)
theorem nar_z0 : vp_nar .boolean 0 = 0 := by decide
theorem nar_z1 : vp_nar .boolean 1 = 1 := by decide
theorem eq_add {y n c : Int32} {v : Int} (hc : c.toInt = v) (h : y.toInt = (n.toInt + v + 2147483648) % 4294967296 - 2147483648) : y = n + c := Int32.toInt_inj.mp (by rw [Int32.toInt_add, ci_bm, hc]; exact h)
end
section
set_option maxHeartbeats 4000000 in
set_option maxRecDepth 100000 in
/-- Tape() -/
theorem c6_init (l : Launch) (G : va_G) (k : Nat → Nat) (sz : Nat) (h : Nat) : Met l yX6_init (Cond.code yX6_init cX6_init 1 none :: tb) ({ frames := 1, cells := 1, slots := 400, locals := 20 } : Room) (va_Pc [.ref h] (cP G k [(h, .inr (6, [.null, .int 0]))] [] sz)) (va_Qv (fun (u : Nat × ClassId) => match u with | (b, cb) => True) (cB G (fun u => match u with | (b, cb) => [(h, .inr (6, [.ref b, .int 0])), (b, .inl (cb, 400, .inl (fun _ => 0)))]) (fun u => match u with | (b, cb) => [(cb, .byte)]) (va_A [(h, .inr (6, [.null, .int 0]))] sz)) (va_A [(h, .inr (6, [.null, .int 0]))] sz)) 1 400 (va_A [(h, .inr (6, [.null, .int 0]))] sz) := by
  refine ofC_v (cc := cX6_init) (maxL := 1) (ret := none) (by decide) rfl (Nat.le_of_ble_eq_true rfl) ?_
  intro p e s m args below meth c A ls Q F hr hin hlk St hl hQ
  have hx := F.1
  have hb := F.2.1
  have hl : lv_has ls 1 [(0, .ref h)] := hl
  have St : cS G k [(h, .inr (6, [.null, .int 0]))] [] A s s.heap [] := St
  refine lv_aload_n hx hb dX6_init_0 rfl (lv_at hl 0 rfl) ?_
  refine W.objInit hx hb F.2.2.2.1 (F.2.2.2.2 _ km_X6_3) (F.2.2.2.2 _ kj_objectInit) (F.2.2.2.2 _ kd_objectInit) rfl (by rw [F.2.2.1]; exact hl.1) rfl dX6_init_1 (Nat.le_of_ble_eq_true rfl) (Nat.le_of_ble_eq_true rfl) ?_
  refine W.eq (g2 := F0 m 4 ls []) rfl ?_
  refine lv_aload_n hx hb dX6_init_4 rfl (lv_at hl 0 rfl) ?_
  refine lv_sipush (v := 400) hx hb dX6_init_5 (by decide) ?_
  refine cs_newa F St (atype := .byte) ka_byte rfl (N' := 400) (a0 := (400, .inl (fun _ => 0))) (fun _ => rfl) (by decide) (by decide) (by decide) (Nat.le_of_ble_eq_true rfl) (Nat.le_of_ble_eq_true rfl) dX6_init_8 (fun q_1 d_2 H St => ?_)
  refine W.widen (k := 1) (n := 400) (by decide) (by decide) ?_
  have St : cS G k [(h, .inr (6, [.null, .int 0])), (q_1, .inl (d_2, 400, .inl (fun _ => 0)))] [(d_2, .byte)] A s H _ := St
  refine cs_putF F hin St 0 rfl rfl inX6 tyX6_ok nmX6 0 (by decide) kf_X6_11 rfl rfl rfl rfl (Nat.le_of_ble_eq_true rfl) (w' := [(h, .inr (6, [.ref q_1, .int 0])), (q_1, .inl (d_2, 400, .inl (fun _ => 0)))]) rfl dX6_init_10 (fun H locs St => ?_)
  exact cs_vret F hr hlk hQ St (q_1, d_2) (by trivial) [0, 1] rfl (by decide) [0] rfl (by decide) (by decide) dX6_init_13
set_option maxHeartbeats 4000000 in
set_option maxRecDepth 100000 in
theorem c6_length (l : Launch) (G : va_G) (k : Nat → Nat) (sz : Nat) (h : Nat) (b : Nat) (n : Int32) : Met l yX6_length (Cond.code yX6_length cX6_length 1 (some .int) :: tb) ({ frames := 0, cells := 0, slots := 0, locals := 0 } : Room) (va_Pc [.ref h] (cP G k [(h, .inr (6, [.ref b, .int n]))] [] sz)) (va_Qi (fun (r : Int32) (_ : Unit) => (r = n)) (cB G (fun (_ : Unit) => [(h, .inr (6, [.ref b, .int n]))]) (fun (_ : Unit) => []) (va_A [(h, .inr (6, [.ref b, .int n]))] sz)) (va_A [(h, .inr (6, [.ref b, .int n]))] sz)) 0 0 (va_A [(h, .inr (6, [.ref b, .int n]))] sz) := by
  refine ofC_i (cc := cX6_length) (maxL := 1) (ret := (some .int)) (by decide) rfl (Nat.le_of_ble_eq_true rfl) ?_
  intro p e s m args below meth c A ls Q F hr hin hlk St hl hQ
  have hx := F.1
  have hb := F.2.1
  have hl : lv_has ls 1 [(0, .ref h)] := hl
  have St : cS G k [(h, .inr (6, [.ref b, .int n]))] [] A s s.heap [] := St
  refine lv_aload_n hx hb dX6_length_0 rfl (lv_at hl 0 rfl) ?_
  refine cs_get F St 0 rfl rfl inX6 1 (by decide) kf_X6_15 rfl dX6_length_1 ?_
  exact cs_iret F hr hlk hQ St () (r := n) rfl [0] rfl (by decide) [] rfl (by decide) (by decide) dX6_length_4
set_option maxHeartbeats 4000000 in
set_option maxRecDepth 100000 in
theorem c6_has (l : Launch) (G : va_G) (k : Nat → Nat) (sz : Nat) (h : Nat) (b : Nat) (n : Int32) : Met l yX6_hasRoomForTwenty (Cond.code yX6_hasRoomForTwenty cX6_hasRoomForTwenty 1 (some .boolean) :: tb) ({ frames := 0, cells := 0, slots := 0, locals := 0 } : Room) (va_Pc [.ref h] (cP G k [(h, .inr (6, [.ref b, .int n]))] [] sz)) (va_Qi (fun (r : Int32) (_ : Unit) => ((r = 1) ∧ (n.toInt ≤ 380)) ∨ ((r = 0) ∧ (¬ (n.toInt ≤ 380)))) (cB G (fun (_ : Unit) => [(h, .inr (6, [.ref b, .int n]))]) (fun (_ : Unit) => []) (va_A [(h, .inr (6, [.ref b, .int n]))] sz)) (va_A [(h, .inr (6, [.ref b, .int n]))] sz)) 0 0 (va_A [(h, .inr (6, [.ref b, .int n]))] sz) := by
  refine ofC_i (cc := cX6_hasRoomForTwenty) (maxL := 1) (ret := (some .boolean)) (by decide) rfl (Nat.le_of_ble_eq_true rfl) ?_
  intro p e s m args below meth c A ls Q F hr hin hlk St hl hQ
  have hx := F.1
  have hb := F.2.1
  have hl : lv_has ls 1 [(0, .ref h)] := hl
  have St : cS G k [(h, .inr (6, [.ref b, .int n]))] [] A s s.heap [] := St
  refine lv_aload_n hx hb dX6_hasRoomForTwenty_0 rfl (lv_at hl 0 rfl) ?_
  refine cs_get F St 0 rfl rfl inX6 1 (by decide) kf_X6_15 rfl dX6_hasRoomForTwenty_1 ?_
  refine lv_sipush (v := 380) hx hb dX6_hasRoomForTwenty_4 (by decide) ?_
  refine lv_icmp_gt (tgt := 14) hx hb dX6_hasRoomForTwenty_7 (by decide) (fun c7 => ?_) (fun c7 => ?_)
  ·
    have i7 := ci_lt (x := 380) (y := n) (show (380 : Int32).toInt = 380 by decide) rfl c7
    refine lv_iconst (v := 0) hx hb dX6_hasRoomForTwenty_14 (by decide) ?_
    exact cs_zret F hr hlk hQ St () (r := 0) rfl (Or.inr ⟨rfl, by omega⟩) [0] rfl (by decide) [] rfl (by decide) (by decide) dX6_hasRoomForTwenty_15
  ·
    have i7 := ci_nlt (x := 380) (y := n) (show (380 : Int32).toInt = 380 by decide) rfl c7
    refine lv_iconst (v := 1) hx hb dX6_hasRoomForTwenty_10 (by decide) ?_
    refine lv_goto (tgt := 15) hx hb dX6_hasRoomForTwenty_11 (by decide) ?_
    exact cs_zret F hr hlk hQ St () (r := 1) rfl (Or.inl ⟨rfl, by omega⟩) [0] rfl (by decide) [] rfl (by decide) (by decide) dX6_hasRoomForTwenty_15
set_option maxHeartbeats 4000000 in
set_option maxRecDepth 100000 in
/-- putFour: four bytes more -/
theorem c6_putFour (l : Launch) (G : va_G) (k : Nat → Nat) (sz : Nat) (h : Nat) (b : Nat) (cb : ClassId) (n : Int32) (x : Int32) (f : Nat → Int32) (h0 : 0 ≤ n.toInt) (h1 : n.toInt ≤ 396) : Met l yX6_putFour (Cond.code yX6_putFour cX6_putFour 3 none :: tb) ({ frames := 0, cells := 0, slots := 0, locals := 0 } : Room) (va_Pc [.ref h, .int x] (cP G k [(h, .inr (6, [.ref b, .int n])), (b, .inl (cb, 400, .inl f))] [(cb, .byte)] sz)) (va_Qv (fun (u : Int32 × (Nat → Int32)) => match u with | (n2, f2) => (n2 = n + 4)) (cB G (fun u => match u with | (n2, f2) => [(h, .inr (6, [.ref b, .int n2])), (b, .inl (cb, 400, .inl f2))]) (fun u => match u with | (n2, f2) => []) (va_A [(h, .inr (6, [.ref b, .int n])), (b, .inl (cb, 400, .inl f))] sz)) (va_A [(h, .inr (6, [.ref b, .int n])), (b, .inl (cb, 400, .inl f))] sz)) 0 0 (va_A [(h, .inr (6, [.ref b, .int n])), (b, .inl (cb, 400, .inl f))] sz) := by
  refine ofC_v (cc := cX6_putFour) (maxL := 3) (ret := none) (by decide) rfl (Nat.le_of_ble_eq_true rfl) ?_
  intro p e s m args below meth c A ls Q F hr hin hlk St hl hQ
  have hx := F.1
  have hb := F.2.1
  have hl : lv_has ls 3 [(0, .ref h), (1, .int x)] := hl
  have St : cS G k [(h, .inr (6, [.ref b, .int n])), (b, .inl (cb, 400, .inl f))] [(cb, .byte)] A s s.heap [] := St
  refine lv_bipush (v := 24) hx hb dX6_putFour_0 (by decide) ?_
  refine lv_istore_n (lv' := [(2, .int 24), (0, .ref h), (1, .int x)]) hx hb dX6_putFour_2 rfl hl (by decide) rfl (fun ls hl => ?_)
  refine lv_iload_n hx hb dX6_putFour_3 rfl (lv_at hl 0 rfl) ?_
  refine lv_if_lt (tgt := 53) hx hb dX6_putFour_4 (by decide) (fun c4 => ?_) (fun c4 => ?_)
  · exact absurd c4 (by decide)
  refine lv_aload_n hx hb dX6_putFour_7 rfl (lv_at hl 1 rfl) ?_
  refine cs_get F St 0 rfl rfl inX6 1 (by decide) kf_X6_15 rfl dX6_putFour_8 ?_
  refine lv_if_lt (tgt := 47) hx hb dX6_putFour_11 (by decide) (fun c11 => ?_) (fun c11 => ?_)
  · have i11 := ci_lt (x := n) (y := 0) rfl (show (0 : Int32).toInt = 0 by decide) c11; exact False.elim (by omega)
  have i11 := ci_nlt (x := n) (y := 0) rfl (show (0 : Int32).toInt = 0 by decide) c11
  refine lv_aload_n hx hb dX6_putFour_14 rfl (lv_at hl 1 rfl) ?_
  refine cs_get F St 0 rfl rfl inX6 1 (by decide) kf_X6_15 rfl dX6_putFour_15 ?_
  refine lv_sipush (v := 400) hx hb dX6_putFour_18 (by decide) ?_
  refine lv_icmp_ge (tgt := 47) hx hb dX6_putFour_21 (by decide) (fun c21 => ?_) (fun c21 => ?_)
  · have i21 := ci_le (x := 400) (y := n) (show (400 : Int32).toInt = 400 by decide) rfl c21; exact False.elim (by omega)
  have i21 := ci_nle (x := 400) (y := n) (show (400 : Int32).toInt = 400 by decide) rfl c21
  refine lv_aload_n hx hb dX6_putFour_24 rfl (lv_at hl 1 rfl) ?_
  refine cs_get F St 0 rfl rfl inX6 0 (by decide) kf_X6_11 rfl dX6_putFour_25 ?_
  refine lv_aload_n hx hb dX6_putFour_28 rfl (lv_at hl 1 rfl) ?_
  refine cs_get F St 0 rfl rfl inX6 1 (by decide) kf_X6_15 rfl dX6_putFour_29 ?_
  refine lv_iload_n hx hb dX6_putFour_32 rfl (lv_at hl 2 rfl) ?_
  refine lv_iload_n hx hb dX6_putFour_33 rfl (lv_at hl 0 rfl) ?_
  refine lv_iushr hx hb dX6_putFour_34 rfl ?_
  refine lv_topi (fun y_1 ey_1 => ?_)
  refine lv_i2b (v := y_1.toInt8.toInt32) hx hb dX6_putFour_35 rfl ?_
  refine cs_bst F St 1 0 rfl rfl (vp_in_iff.mpr ⟨by omega, by omega⟩) (w' := [(h, .inr (6, [.ref b, .int n])), (b, .inl (cb, 400, .inl (upd f (n : Int32).toNatClampNeg (vp_nar .byte y_1.toInt8.toInt32))))]) rfl dX6_putFour_36 (fun H locs St => ?_)
  obtain ⟨f_2, ef_2⟩ : ∃ zz : Nat → Int32, zz = upd f (n : Int32).toNatClampNeg (vp_nar .byte y_1.toInt8.toInt32) := ⟨_, rfl⟩
  rw [← ef_2] at St
  refine lv_aload_n hx hb dX6_putFour_37 rfl (lv_at hl 1 rfl) ?_
  refine lv_dup hx hb dX6_putFour_38 rfl ?_
  refine cs_get F St 0 rfl rfl inX6 1 (by decide) kf_X6_15 rfl dX6_putFour_39 ?_
  refine lv_iconst (v := 1) hx hb dX6_putFour_42 (by decide) ?_
  refine lv_iadd hx hb dX6_putFour_43 ?_
  refine lv_topi (fun y_3 ey_3 => ?_)
  have jy_3 := ci_add (x := n) (y := 1) rfl (show (1 : Int32).toInt = 1 by decide) ey_3
  refine cs_put F St 0 rfl rfl inX6 tyX6_ok nmX6 1 (by decide) kf_X6_15 rfl rfl rfl (Nat.le_of_ble_eq_true rfl) (w' := [(h, .inr (6, [.ref b, .int y_3])), (b, .inl (cb, 400, .inl f_2))]) rfl dX6_putFour_44 (fun H locs St => ?_)
  refine lv_iinc (v := 16) (lv' := [(2, .int 16), (0, .ref h), (1, .int x)]) hx hb dX6_putFour_47 hl (k := 0) rfl (by decide) (by decide) rfl (fun ls hl => ?_)
  refine lv_goto (tgt := 3) hx hb dX6_putFour_50 (by decide) ?_
  refine lv_iload_n hx hb dX6_putFour_3 rfl (lv_at hl 0 rfl) ?_
  refine lv_if_lt (tgt := 53) hx hb dX6_putFour_4 (by decide) (fun c4 => ?_) (fun c4 => ?_)
  · exact absurd c4 (by decide)
  refine lv_aload_n hx hb dX6_putFour_7 rfl (lv_at hl 1 rfl) ?_
  refine cs_get F St 0 rfl rfl inX6 1 (by decide) kf_X6_15 rfl dX6_putFour_8 ?_
  refine lv_if_lt (tgt := 47) hx hb dX6_putFour_11 (by decide) (fun c11 => ?_) (fun c11 => ?_)
  · have i11 := ci_lt (x := y_3) (y := 0) rfl (show (0 : Int32).toInt = 0 by decide) c11; exact False.elim (by omega)
  have i11 := ci_nlt (x := y_3) (y := 0) rfl (show (0 : Int32).toInt = 0 by decide) c11
  refine lv_aload_n hx hb dX6_putFour_14 rfl (lv_at hl 1 rfl) ?_
  refine cs_get F St 0 rfl rfl inX6 1 (by decide) kf_X6_15 rfl dX6_putFour_15 ?_
  refine lv_sipush (v := 400) hx hb dX6_putFour_18 (by decide) ?_
  refine lv_icmp_ge (tgt := 47) hx hb dX6_putFour_21 (by decide) (fun c21 => ?_) (fun c21 => ?_)
  · have i21 := ci_le (x := 400) (y := y_3) (show (400 : Int32).toInt = 400 by decide) rfl c21; exact False.elim (by omega)
  have i21 := ci_nle (x := 400) (y := y_3) (show (400 : Int32).toInt = 400 by decide) rfl c21
  refine lv_aload_n hx hb dX6_putFour_24 rfl (lv_at hl 1 rfl) ?_
  refine cs_get F St 0 rfl rfl inX6 0 (by decide) kf_X6_11 rfl dX6_putFour_25 ?_
  refine lv_aload_n hx hb dX6_putFour_28 rfl (lv_at hl 1 rfl) ?_
  refine cs_get F St 0 rfl rfl inX6 1 (by decide) kf_X6_15 rfl dX6_putFour_29 ?_
  refine lv_iload_n hx hb dX6_putFour_32 rfl (lv_at hl 2 rfl) ?_
  refine lv_iload_n hx hb dX6_putFour_33 rfl (lv_at hl 0 rfl) ?_
  refine lv_iushr hx hb dX6_putFour_34 rfl ?_
  refine lv_topi (fun y_4 ey_4 => ?_)
  refine lv_i2b (v := y_4.toInt8.toInt32) hx hb dX6_putFour_35 rfl ?_
  refine cs_bst F St 1 0 rfl rfl (vp_in_iff.mpr ⟨by omega, by omega⟩) (w' := [(h, .inr (6, [.ref b, .int y_3])), (b, .inl (cb, 400, .inl (upd f_2 (y_3 : Int32).toNatClampNeg (vp_nar .byte y_4.toInt8.toInt32))))]) rfl dX6_putFour_36 (fun H locs St => ?_)
  obtain ⟨f_5, ef_5⟩ : ∃ zz : Nat → Int32, zz = upd f_2 (y_3 : Int32).toNatClampNeg (vp_nar .byte y_4.toInt8.toInt32) := ⟨_, rfl⟩
  rw [← ef_5] at St
  refine lv_aload_n hx hb dX6_putFour_37 rfl (lv_at hl 1 rfl) ?_
  refine lv_dup hx hb dX6_putFour_38 rfl ?_
  refine cs_get F St 0 rfl rfl inX6 1 (by decide) kf_X6_15 rfl dX6_putFour_39 ?_
  refine lv_iconst (v := 1) hx hb dX6_putFour_42 (by decide) ?_
  refine lv_iadd hx hb dX6_putFour_43 ?_
  refine lv_topi (fun y_6 ey_6 => ?_)
  have jy_6 := ci_add (x := y_3) (y := 1) rfl (show (1 : Int32).toInt = 1 by decide) ey_6
  refine cs_put F St 0 rfl rfl inX6 tyX6_ok nmX6 1 (by decide) kf_X6_15 rfl rfl rfl (Nat.le_of_ble_eq_true rfl) (w' := [(h, .inr (6, [.ref b, .int y_6])), (b, .inl (cb, 400, .inl f_5))]) rfl dX6_putFour_44 (fun H locs St => ?_)
  refine lv_iinc (v := 8) (lv' := [(2, .int 8), (0, .ref h), (1, .int x)]) hx hb dX6_putFour_47 hl (k := 0) rfl (by decide) (by decide) rfl (fun ls hl => ?_)
  refine lv_goto (tgt := 3) hx hb dX6_putFour_50 (by decide) ?_
  refine lv_iload_n hx hb dX6_putFour_3 rfl (lv_at hl 0 rfl) ?_
  refine lv_if_lt (tgt := 53) hx hb dX6_putFour_4 (by decide) (fun c4 => ?_) (fun c4 => ?_)
  · exact absurd c4 (by decide)
  refine lv_aload_n hx hb dX6_putFour_7 rfl (lv_at hl 1 rfl) ?_
  refine cs_get F St 0 rfl rfl inX6 1 (by decide) kf_X6_15 rfl dX6_putFour_8 ?_
  refine lv_if_lt (tgt := 47) hx hb dX6_putFour_11 (by decide) (fun c11 => ?_) (fun c11 => ?_)
  · have i11 := ci_lt (x := y_6) (y := 0) rfl (show (0 : Int32).toInt = 0 by decide) c11; exact False.elim (by omega)
  have i11 := ci_nlt (x := y_6) (y := 0) rfl (show (0 : Int32).toInt = 0 by decide) c11
  refine lv_aload_n hx hb dX6_putFour_14 rfl (lv_at hl 1 rfl) ?_
  refine cs_get F St 0 rfl rfl inX6 1 (by decide) kf_X6_15 rfl dX6_putFour_15 ?_
  refine lv_sipush (v := 400) hx hb dX6_putFour_18 (by decide) ?_
  refine lv_icmp_ge (tgt := 47) hx hb dX6_putFour_21 (by decide) (fun c21 => ?_) (fun c21 => ?_)
  · have i21 := ci_le (x := 400) (y := y_6) (show (400 : Int32).toInt = 400 by decide) rfl c21; exact False.elim (by omega)
  have i21 := ci_nle (x := 400) (y := y_6) (show (400 : Int32).toInt = 400 by decide) rfl c21
  refine lv_aload_n hx hb dX6_putFour_24 rfl (lv_at hl 1 rfl) ?_
  refine cs_get F St 0 rfl rfl inX6 0 (by decide) kf_X6_11 rfl dX6_putFour_25 ?_
  refine lv_aload_n hx hb dX6_putFour_28 rfl (lv_at hl 1 rfl) ?_
  refine cs_get F St 0 rfl rfl inX6 1 (by decide) kf_X6_15 rfl dX6_putFour_29 ?_
  refine lv_iload_n hx hb dX6_putFour_32 rfl (lv_at hl 2 rfl) ?_
  refine lv_iload_n hx hb dX6_putFour_33 rfl (lv_at hl 0 rfl) ?_
  refine lv_iushr hx hb dX6_putFour_34 rfl ?_
  refine lv_topi (fun y_7 ey_7 => ?_)
  refine lv_i2b (v := y_7.toInt8.toInt32) hx hb dX6_putFour_35 rfl ?_
  refine cs_bst F St 1 0 rfl rfl (vp_in_iff.mpr ⟨by omega, by omega⟩) (w' := [(h, .inr (6, [.ref b, .int y_6])), (b, .inl (cb, 400, .inl (upd f_5 (y_6 : Int32).toNatClampNeg (vp_nar .byte y_7.toInt8.toInt32))))]) rfl dX6_putFour_36 (fun H locs St => ?_)
  obtain ⟨f_8, ef_8⟩ : ∃ zz : Nat → Int32, zz = upd f_5 (y_6 : Int32).toNatClampNeg (vp_nar .byte y_7.toInt8.toInt32) := ⟨_, rfl⟩
  rw [← ef_8] at St
  refine lv_aload_n hx hb dX6_putFour_37 rfl (lv_at hl 1 rfl) ?_
  refine lv_dup hx hb dX6_putFour_38 rfl ?_
  refine cs_get F St 0 rfl rfl inX6 1 (by decide) kf_X6_15 rfl dX6_putFour_39 ?_
  refine lv_iconst (v := 1) hx hb dX6_putFour_42 (by decide) ?_
  refine lv_iadd hx hb dX6_putFour_43 ?_
  refine lv_topi (fun y_9 ey_9 => ?_)
  have jy_9 := ci_add (x := y_6) (y := 1) rfl (show (1 : Int32).toInt = 1 by decide) ey_9
  refine cs_put F St 0 rfl rfl inX6 tyX6_ok nmX6 1 (by decide) kf_X6_15 rfl rfl rfl (Nat.le_of_ble_eq_true rfl) (w' := [(h, .inr (6, [.ref b, .int y_9])), (b, .inl (cb, 400, .inl f_8))]) rfl dX6_putFour_44 (fun H locs St => ?_)
  refine lv_iinc (v := 0) (lv' := [(2, .int 0), (0, .ref h), (1, .int x)]) hx hb dX6_putFour_47 hl (k := 0) rfl (by decide) (by decide) rfl (fun ls hl => ?_)
  refine lv_goto (tgt := 3) hx hb dX6_putFour_50 (by decide) ?_
  refine lv_iload_n hx hb dX6_putFour_3 rfl (lv_at hl 0 rfl) ?_
  refine lv_if_lt (tgt := 53) hx hb dX6_putFour_4 (by decide) (fun c4 => ?_) (fun c4 => ?_)
  · exact absurd c4 (by decide)
  refine lv_aload_n hx hb dX6_putFour_7 rfl (lv_at hl 1 rfl) ?_
  refine cs_get F St 0 rfl rfl inX6 1 (by decide) kf_X6_15 rfl dX6_putFour_8 ?_
  refine lv_if_lt (tgt := 47) hx hb dX6_putFour_11 (by decide) (fun c11 => ?_) (fun c11 => ?_)
  · have i11 := ci_lt (x := y_9) (y := 0) rfl (show (0 : Int32).toInt = 0 by decide) c11; exact False.elim (by omega)
  have i11 := ci_nlt (x := y_9) (y := 0) rfl (show (0 : Int32).toInt = 0 by decide) c11
  refine lv_aload_n hx hb dX6_putFour_14 rfl (lv_at hl 1 rfl) ?_
  refine cs_get F St 0 rfl rfl inX6 1 (by decide) kf_X6_15 rfl dX6_putFour_15 ?_
  refine lv_sipush (v := 400) hx hb dX6_putFour_18 (by decide) ?_
  refine lv_icmp_ge (tgt := 47) hx hb dX6_putFour_21 (by decide) (fun c21 => ?_) (fun c21 => ?_)
  · have i21 := ci_le (x := 400) (y := y_9) (show (400 : Int32).toInt = 400 by decide) rfl c21; exact False.elim (by omega)
  have i21 := ci_nle (x := 400) (y := y_9) (show (400 : Int32).toInt = 400 by decide) rfl c21
  refine lv_aload_n hx hb dX6_putFour_24 rfl (lv_at hl 1 rfl) ?_
  refine cs_get F St 0 rfl rfl inX6 0 (by decide) kf_X6_11 rfl dX6_putFour_25 ?_
  refine lv_aload_n hx hb dX6_putFour_28 rfl (lv_at hl 1 rfl) ?_
  refine cs_get F St 0 rfl rfl inX6 1 (by decide) kf_X6_15 rfl dX6_putFour_29 ?_
  refine lv_iload_n hx hb dX6_putFour_32 rfl (lv_at hl 2 rfl) ?_
  refine lv_iload_n hx hb dX6_putFour_33 rfl (lv_at hl 0 rfl) ?_
  refine lv_iushr hx hb dX6_putFour_34 rfl ?_
  refine lv_topi (fun y_10 ey_10 => ?_)
  refine lv_i2b (v := y_10.toInt8.toInt32) hx hb dX6_putFour_35 rfl ?_
  refine cs_bst F St 1 0 rfl rfl (vp_in_iff.mpr ⟨by omega, by omega⟩) (w' := [(h, .inr (6, [.ref b, .int y_9])), (b, .inl (cb, 400, .inl (upd f_8 (y_9 : Int32).toNatClampNeg (vp_nar .byte y_10.toInt8.toInt32))))]) rfl dX6_putFour_36 (fun H locs St => ?_)
  obtain ⟨f_11, ef_11⟩ : ∃ zz : Nat → Int32, zz = upd f_8 (y_9 : Int32).toNatClampNeg (vp_nar .byte y_10.toInt8.toInt32) := ⟨_, rfl⟩
  rw [← ef_11] at St
  refine lv_aload_n hx hb dX6_putFour_37 rfl (lv_at hl 1 rfl) ?_
  refine lv_dup hx hb dX6_putFour_38 rfl ?_
  refine cs_get F St 0 rfl rfl inX6 1 (by decide) kf_X6_15 rfl dX6_putFour_39 ?_
  refine lv_iconst (v := 1) hx hb dX6_putFour_42 (by decide) ?_
  refine lv_iadd hx hb dX6_putFour_43 ?_
  refine lv_topi (fun y_12 ey_12 => ?_)
  have jy_12 := ci_add (x := y_9) (y := 1) rfl (show (1 : Int32).toInt = 1 by decide) ey_12
  refine cs_put F St 0 rfl rfl inX6 tyX6_ok nmX6 1 (by decide) kf_X6_15 rfl rfl rfl (Nat.le_of_ble_eq_true rfl) (w' := [(h, .inr (6, [.ref b, .int y_12])), (b, .inl (cb, 400, .inl f_11))]) rfl dX6_putFour_44 (fun H locs St => ?_)
  refine lv_iinc (v := (-8)) (lv' := [(2, .int (-8)), (0, .ref h), (1, .int x)]) hx hb dX6_putFour_47 hl (k := 0) rfl (by decide) (by decide) rfl (fun ls hl => ?_)
  refine lv_goto (tgt := 3) hx hb dX6_putFour_50 (by decide) ?_
  refine lv_iload_n hx hb dX6_putFour_3 rfl (lv_at hl 0 rfl) ?_
  refine lv_if_lt (tgt := 53) hx hb dX6_putFour_4 (by decide) (fun c4 => ?_) (fun c4 => ?_)
  rotate_left
  · exact absurd (by decide) c4
  exact cs_vret F hr hlk hQ St (y_12, f_11) (eq_add (show (4 : Int32).toInt = 4 by decide) (by omega)) [0, 1] rfl (by decide) [] rfl (by decide) (by decide) dX6_putFour_53
set_option maxHeartbeats 4000000 in
set_option maxRecDepth 100000 in
theorem c6_cutTo (l : Launch) (G : va_G) (k : Nat → Nat) (sz : Nat) (h : Nat) (b : Nat) (n : Int32) (x : Int32) : Met l yX6_cutTo (Cond.code yX6_cutTo cX6_cutTo 2 none :: tb) ({ frames := 0, cells := 0, slots := 0, locals := 0 } : Room) (va_Pc [.ref h, .int x] (cP G k [(h, .inr (6, [.ref b, .int n]))] [] sz)) (va_Qv (fun (_ : Unit) => True) (cB G (fun (_ : Unit) => [(h, .inr (6, [.ref b, .int x]))]) (fun (_ : Unit) => []) (va_A [(h, .inr (6, [.ref b, .int n]))] sz)) (va_A [(h, .inr (6, [.ref b, .int n]))] sz)) 0 0 (va_A [(h, .inr (6, [.ref b, .int n]))] sz) := by
  refine ofC_v (cc := cX6_cutTo) (maxL := 2) (ret := none) (by decide) rfl (Nat.le_of_ble_eq_true rfl) ?_
  intro p e s m args below meth c A ls Q F hr hin hlk St hl hQ
  have hx := F.1
  have hb := F.2.1
  have hl : lv_has ls 2 [(0, .ref h), (1, .int x)] := hl
  have St : cS G k [(h, .inr (6, [.ref b, .int n]))] [] A s s.heap [] := St
  refine lv_aload_n hx hb dX6_cutTo_0 rfl (lv_at hl 0 rfl) ?_
  refine lv_iload_n hx hb dX6_cutTo_1 rfl (lv_at hl 1 rfl) ?_
  refine cs_put F St 0 rfl rfl inX6 tyX6_ok nmX6 1 (by decide) kf_X6_15 rfl rfl rfl (Nat.le_of_ble_eq_true rfl) (w' := [(h, .inr (6, [.ref b, .int x]))]) rfl dX6_cutTo_2 (fun H locs St => ?_)
  exact cs_vret F hr hlk hQ St () (by trivial) [0] rfl (by decide) [] rfl (by decide) (by decide) dX6_cutTo_5
set_option maxHeartbeats 4000000 in
set_option maxRecDepth 100000 in
/-- at of an empty tape -/
theorem c6_at0 (l : Launch) (G : va_G) (k : Nat → Nat) (sz : Nat) (h : Nat) (b : Nat) (x : Int32) : Met l yX6_at (Cond.code yX6_at cX6_at 2 (some .int) :: tb) ({ frames := 0, cells := 0, slots := 0, locals := 0 } : Room) (va_Pc [.ref h, .int x] (cP G k [(h, .inr (6, [.ref b, .int 0]))] [] sz)) (va_Qi (fun (r : Int32) (_ : Unit) => (r = (-1))) (cB G (fun (_ : Unit) => [(h, .inr (6, [.ref b, .int 0]))]) (fun (_ : Unit) => []) (va_A [(h, .inr (6, [.ref b, .int 0]))] sz)) (va_A [(h, .inr (6, [.ref b, .int 0]))] sz)) 0 0 (va_A [(h, .inr (6, [.ref b, .int 0]))] sz) := by
  refine ofC_i (cc := cX6_at) (maxL := 2) (ret := (some .int)) (by decide) rfl (Nat.le_of_ble_eq_true rfl) ?_
  intro p e s m args below meth c A ls Q F hr hin hlk St hl hQ
  have hx := F.1
  have hb := F.2.1
  have hl : lv_has ls 2 [(0, .ref h), (1, .int x)] := hl
  have St : cS G k [(h, .inr (6, [.ref b, .int 0]))] [] A s s.heap [] := St
  refine lv_iload_n hx hb dX6_at_0 rfl (lv_at hl 1 rfl) ?_
  refine lv_if_lt (tgt := 32) hx hb dX6_at_1 (by decide) (fun c1 => ?_) (fun c1 => ?_)
  ·
    have i1 := ci_lt (x := x) (y := 0) rfl (show (0 : Int32).toInt = 0 by decide) c1
    refine lv_iconst (v := (-1)) hx hb dX6_at_32 (by decide) ?_
    exact cs_iret F hr hlk hQ St () (r := (-1)) rfl [0] rfl (by decide) [] rfl (by decide) (by decide) dX6_at_33
  ·
    have i1 := ci_nlt (x := x) (y := 0) rfl (show (0 : Int32).toInt = 0 by decide) c1
    refine lv_iload_n hx hb dX6_at_4 rfl (lv_at hl 1 rfl) ?_
    refine lv_aload_n hx hb dX6_at_5 rfl (lv_at hl 0 rfl) ?_
    refine cs_get F St 0 rfl rfl inX6 1 (by decide) kf_X6_15 rfl dX6_at_6 ?_
    refine lv_icmp_ge (tgt := 32) hx hb dX6_at_9 (by decide) (fun c9 => ?_) (fun c9 => ?_)
    rotate_left
    · have i9 := ci_nle (x := 0) (y := x) (show (0 : Int32).toInt = 0 by decide) rfl c9; exact False.elim (by omega)
    have i9 := ci_le (x := 0) (y := x) (show (0 : Int32).toInt = 0 by decide) rfl c9
    refine lv_iconst (v := (-1)) hx hb dX6_at_32 (by decide) ?_
    exact cs_iret F hr hlk hQ St () (r := (-1)) rfl [0] rfl (by decide) [] rfl (by decide) (by decide) dX6_at_33
end
section
set_option maxHeartbeats 4000000 in
set_option maxRecDepth 100000 in
/-- Trust() -/
theorem c8_init (l : Launch) (G : va_G) (k : Nat → Nat) (sz : Nat) (h : Nat) : Met l yX8_init (Cond.code yX8_init cX8_init 1 none :: tb) ({ frames := 1, cells := 1, slots := 9, locals := 60 } : Room) (va_Pc [.ref h] (cP G k [(h, .inr (8, [.null]))] [] sz)) (va_Qv (fun (u : Nat × ClassId) => match u with | (b, cb) => True) (cB G (fun u => match u with | (b, cb) => [(h, .inr (8, [.ref b])), (b, .inl (cb, 9, .inl untold))]) (fun u => match u with | (b, cb) => [(cb, .int)]) (va_A [(h, .inr (8, [.null]))] sz)) (va_A [(h, .inr (8, [.null]))] sz)) 1 9 (va_A [(h, .inr (8, [.null]))] sz) := by
  refine ofC_v (cc := cX8_init) (maxL := 1) (ret := none) (by decide) rfl (Nat.le_of_ble_eq_true rfl) ?_
  intro p e s m args below meth c A ls Q F hr hin hlk St hl hQ
  have hx := F.1
  have hb := F.2.1
  have hl : lv_has ls 1 [(0, .ref h)] := hl
  have St : cS G k [(h, .inr (8, [.null]))] [] A s s.heap [] := St
  refine lv_aload_n hx hb dX8_init_0 rfl (lv_at hl 0 rfl) ?_
  refine W.objInit hx hb F.2.2.2.1 (F.2.2.2.2 _ km_X8_3) (F.2.2.2.2 _ kj_objectInit) (F.2.2.2.2 _ kd_objectInit) rfl (by rw [F.2.2.1]; exact hl.1) rfl dX8_init_1 (Nat.le_of_ble_eq_true rfl) (Nat.le_of_ble_eq_true rfl) ?_
  refine W.eq (g2 := F0 m 4 ls []) rfl ?_
  refine lv_aload_n hx hb dX8_init_4 rfl (lv_at hl 0 rfl) ?_
  refine lv_bipush (v := 9) hx hb dX8_init_5 (by decide) ?_
  refine cs_newa F St (atype := .int) ka_int rfl (N' := 9) (a0 := (9, .inl (fun _ => 0))) (fun _ => rfl) (by decide) (by decide) (by decide) (Nat.le_of_ble_eq_true rfl) (Nat.le_of_ble_eq_true rfl) dX8_init_7 (fun q_1 d_2 H St => ?_)
  refine W.widen (k := 1) (n := 9) (by decide) (by decide) ?_
  have St : cS G k [(h, .inr (8, [.null])), (q_1, .inl (d_2, 9, .inl (fun _ => 0)))] [(d_2, .int)] A s H _ := St
  refine cs_putF F hin St 0 rfl rfl inX8 tyX8_ok nmX8 0 (by decide) kf_X8_11 rfl rfl rfl rfl (Nat.le_of_ble_eq_true rfl) (w' := [(h, .inr (8, [.ref q_1])), (q_1, .inl (d_2, 9, .inl (fun _ => 0)))]) rfl dX8_init_9 (fun H locs St => ?_)
  refine va_gets hx hb (St.2.2.2.2.2.2.1) St.toS F.2.2.2.1 (F.2.2.2.2 _ kf_X8_15) (fun _ h => h) dX8_init_12 ?_
  refine lv_iconst (v := 0) hx hb dX8_init_15 (by decide) ?_
  refine lv_aload_n hx hb dX8_init_16 rfl (lv_at hl 0 rfl) ?_
  refine cs_get F St 0 rfl rfl inX8 0 (by decide) kf_X8_11 rfl dX8_init_17 ?_
  refine lv_iconst (v := 0) hx hb dX8_init_20 (by decide) ?_
  refine lv_bipush (v := 9) hx hb dX8_init_21 (by decide) ?_
  refine cs_cpT F hl St (St.2.2.2.2.2.2.2.1) 1 0 rfl rfl km_X8_18 (Nat.le_of_ble_eq_true rfl) (Nat.le_of_ble_eq_true rfl) (Nat.le_of_ble_eq_true rfl) (w' := [(h, .inr (8, [.ref q_1])), (q_1, .inl (d_2, 9, .inl (va_cpy untold (fun _ => 0) 0 0 9)))]) rfl dX8_init_23 (fun H locs St => ?_)
  rw [cpy_untold] at St
  exact cs_vret F hr hlk hQ St (q_1, d_2) (by trivial) [0, 1] rfl (by decide) [0] rfl (by decide) (by decide) dX8_init_26
set_option maxHeartbeats 4000000 in
set_option maxRecDepth 100000 in
theorem c8_forget (l : Launch) (G : va_G) (k : Nat → Nat) (sz : Nat) (h : Nat) (b : Nat) (cb : ClassId) : Met l yX8_forget (Cond.code yX8_forget cX8_forget 1 none :: tb) ({ frames := 1, cells := 0, slots := 0, locals := 60 } : Room) (va_Pc [.ref h] (cP G k [(h, .inr (8, [.ref b])), (b, .inl (cb, 9, .inl untold))] [(cb, .int)] sz)) (va_Qv (fun (_ : Unit) => True) (cB G (fun (_ : Unit) => [(h, .inr (8, [.ref b])), (b, .inl (cb, 9, .inl untold))]) (fun (_ : Unit) => []) (va_A [(h, .inr (8, [.ref b])), (b, .inl (cb, 9, .inl untold))] sz)) (va_A [(h, .inr (8, [.ref b])), (b, .inl (cb, 9, .inl untold))] sz)) 0 0 (va_A [(h, .inr (8, [.ref b])), (b, .inl (cb, 9, .inl untold))] sz) := by
  refine ofC_v (cc := cX8_forget) (maxL := 1) (ret := none) (by decide) rfl (Nat.le_of_ble_eq_true rfl) ?_
  intro p e s m args below meth c A ls Q F hr hin hlk St hl hQ
  have hx := F.1
  have hb := F.2.1
  have hl : lv_has ls 1 [(0, .ref h)] := hl
  have St : cS G k [(h, .inr (8, [.ref b])), (b, .inl (cb, 9, .inl untold))] [(cb, .int)] A s s.heap [] := St
  refine va_gets hx hb (St.2.2.2.2.2.2.1) St.toS F.2.2.2.1 (F.2.2.2.2 _ kf_X8_15) (fun _ h => h) dX8_forget_0 ?_
  refine lv_iconst (v := 0) hx hb dX8_forget_3 (by decide) ?_
  refine lv_aload_n hx hb dX8_forget_4 rfl (lv_at hl 0 rfl) ?_
  refine cs_get F St 0 rfl rfl inX8 0 (by decide) kf_X8_11 rfl dX8_forget_5 ?_
  refine lv_iconst (v := 0) hx hb dX8_forget_8 (by decide) ?_
  refine lv_bipush (v := 9) hx hb dX8_forget_9 (by decide) ?_
  refine cs_cpT F hl St (St.2.2.2.2.2.2.2.1) 1 0 rfl rfl km_X8_18 (Nat.le_of_ble_eq_true rfl) (Nat.le_of_ble_eq_true rfl) (Nat.le_of_ble_eq_true rfl) (w' := [(h, .inr (8, [.ref b])), (b, .inl (cb, 9, .inl (va_cpy untold untold 0 0 9)))]) rfl dX8_forget_11 (fun H locs St => ?_)
  rw [cpy_untold2] at St
  exact cs_vret F hr hlk hQ St () (by trivial) [0, 1] rfl (by decide) [] rfl (by decide) (by decide) dX8_forget_14
set_option maxHeartbeats 4000000 in
set_option maxRecDepth 100000 in
theorem c8_takeOver (l : Launch) (G : va_G) (k : Nat → Nat) (sz : Nat) (h : Nat) (b : Nat) (h2 : Nat) (b2 : Nat) (cb : ClassId) (cb2 : ClassId) : Met l yX8_takeOver (Cond.code yX8_takeOver cX8_takeOver 2 none :: tb) ({ frames := 1, cells := 0, slots := 0, locals := 60 } : Room) (va_Pc [.ref h, .ref h2] (cP G k [(h, .inr (8, [.ref b])), (b, .inl (cb, 9, .inl untold)), (h2, .inr (8, [.ref b2])), (b2, .inl (cb2, 9, .inl untold))] [(cb, .int), (cb2, .int)] sz)) (va_Qv (fun (_ : Unit) => True) (cB G (fun (_ : Unit) => [(h, .inr (8, [.ref b])), (b, .inl (cb, 9, .inl untold)), (h2, .inr (8, [.ref b2])), (b2, .inl (cb2, 9, .inl untold))]) (fun (_ : Unit) => []) (va_A [(h, .inr (8, [.ref b])), (b, .inl (cb, 9, .inl untold)), (h2, .inr (8, [.ref b2])), (b2, .inl (cb2, 9, .inl untold))] sz)) (va_A [(h, .inr (8, [.ref b])), (b, .inl (cb, 9, .inl untold)), (h2, .inr (8, [.ref b2])), (b2, .inl (cb2, 9, .inl untold))] sz)) 0 0 (va_A [(h, .inr (8, [.ref b])), (b, .inl (cb, 9, .inl untold)), (h2, .inr (8, [.ref b2])), (b2, .inl (cb2, 9, .inl untold))] sz) := by
  refine ofC_v (cc := cX8_takeOver) (maxL := 2) (ret := none) (by decide) rfl (Nat.le_of_ble_eq_true rfl) ?_
  intro p e s m args below meth c A ls Q F hr hin hlk St hl hQ
  have hx := F.1
  have hb := F.2.1
  have hl : lv_has ls 2 [(0, .ref h), (1, .ref h2)] := hl
  have St : cS G k [(h, .inr (8, [.ref b])), (b, .inl (cb, 9, .inl untold)), (h2, .inr (8, [.ref b2])), (b2, .inl (cb2, 9, .inl untold))] [(cb, .int), (cb2, .int)] A s s.heap [] := St
  refine lv_aload_n hx hb dX8_takeOver_0 rfl (lv_at hl 1 rfl) ?_
  refine cs_get F St 2 rfl rfl inX8 0 (by decide) kf_X8_11 rfl dX8_takeOver_1 ?_
  refine lv_iconst (v := 0) hx hb dX8_takeOver_4 (by decide) ?_
  refine lv_aload_n hx hb dX8_takeOver_5 rfl (lv_at hl 0 rfl) ?_
  refine cs_get F St 0 rfl rfl inX8 0 (by decide) kf_X8_11 rfl dX8_takeOver_6 ?_
  refine lv_iconst (v := 0) hx hb dX8_takeOver_9 (by decide) ?_
  refine lv_bipush (v := 9) hx hb dX8_takeOver_10 (by decide) ?_
  refine cs_cp F hl St 3 1 1 0 rfl rfl rfl rfl km_X8_18 (Nat.le_of_ble_eq_true rfl) (Nat.le_of_ble_eq_true rfl) (Nat.le_of_ble_eq_true rfl) (w' := [(h, .inr (8, [.ref b])), (b, .inl (cb, 9, .inl (va_cpy untold untold 0 0 9))), (h2, .inr (8, [.ref b2])), (b2, .inl (cb2, 9, .inl untold))]) rfl dX8_takeOver_12 (fun H locs St => ?_)
  rw [cpy_untold2] at St
  exact cs_vret F hr hlk hQ St () (by trivial) [0, 1, 2, 3] rfl (by decide) [] rfl (by decide) (by decide) dX8_takeOver_15
set_option maxHeartbeats 4000000 in
set_option maxRecDepth 100000 in
theorem c8_matchHundredths (l : Launch) (G : va_G) (k : Nat → Nat) (sz : Nat) (h : Nat) (b : Nat) (cb : ClassId) : Met l yX8_matchHundredths (Cond.code yX8_matchHundredths cX8_matchHundredths 1 (some .int) :: tb) ({ frames := 0, cells := 0, slots := 0, locals := 0 } : Room) (va_Pc [.ref h] (cP G k [(h, .inr (8, [.ref b])), (b, .inl (cb, 9, .inl untold))] [(cb, .int)] sz)) (va_Qi (fun (r : Int32) (_ : Unit) => (r = 0)) (cB G (fun (_ : Unit) => [(h, .inr (8, [.ref b])), (b, .inl (cb, 9, .inl untold))]) (fun (_ : Unit) => []) (va_A [(h, .inr (8, [.ref b])), (b, .inl (cb, 9, .inl untold))] sz)) (va_A [(h, .inr (8, [.ref b])), (b, .inl (cb, 9, .inl untold))] sz)) 0 0 (va_A [(h, .inr (8, [.ref b])), (b, .inl (cb, 9, .inl untold))] sz) := by
  refine ofC_i (cc := cX8_matchHundredths) (maxL := 1) (ret := (some .int)) (by decide) rfl (Nat.le_of_ble_eq_true rfl) ?_
  intro p e s m args below meth c A ls Q F hr hin hlk St hl hQ
  have hx := F.1
  have hb := F.2.1
  have hl : lv_has ls 1 [(0, .ref h)] := hl
  have St : cS G k [(h, .inr (8, [.ref b])), (b, .inl (cb, 9, .inl untold))] [(cb, .int)] A s s.heap [] := St
  refine lv_aload_n hx hb dX8_matchHundredths_0 rfl (lv_at hl 0 rfl) ?_
  refine cs_get F St 0 rfl rfl inX8 0 (by decide) kf_X8_11 rfl dX8_matchHundredths_1 ?_
  refine lv_iconst (v := 0) hx hb dX8_matchHundredths_4 (by decide) ?_
  refine cs_ild F St 1 0 rfl rfl (vp_in_iff.mpr (by decide)) dX8_matchHundredths_5 ?_
  refine top_i (y := 0) (by decide) ?_
  exact cs_iret F hr hlk hQ St () (r := 0) rfl [0, 1] rfl (by decide) [] rfl (by decide) (by decide) dX8_matchHundredths_6
set_option maxHeartbeats 4000000 in
set_option maxRecDepth 100000 in
theorem c8_matchCapPence (l : Launch) (G : va_G) (k : Nat → Nat) (sz : Nat) (h : Nat) (b : Nat) (cb : ClassId) : Met l yX8_matchCapPence (Cond.code yX8_matchCapPence cX8_matchCapPence 1 (some .int) :: tb) ({ frames := 0, cells := 0, slots := 0, locals := 0 } : Room) (va_Pc [.ref h] (cP G k [(h, .inr (8, [.ref b])), (b, .inl (cb, 9, .inl untold))] [(cb, .int)] sz)) (va_Qi (fun (r : Int32) (_ : Unit) => (r = 0)) (cB G (fun (_ : Unit) => [(h, .inr (8, [.ref b])), (b, .inl (cb, 9, .inl untold))]) (fun (_ : Unit) => []) (va_A [(h, .inr (8, [.ref b])), (b, .inl (cb, 9, .inl untold))] sz)) (va_A [(h, .inr (8, [.ref b])), (b, .inl (cb, 9, .inl untold))] sz)) 0 0 (va_A [(h, .inr (8, [.ref b])), (b, .inl (cb, 9, .inl untold))] sz) := by
  refine ofC_i (cc := cX8_matchCapPence) (maxL := 1) (ret := (some .int)) (by decide) rfl (Nat.le_of_ble_eq_true rfl) ?_
  intro p e s m args below meth c A ls Q F hr hin hlk St hl hQ
  have hx := F.1
  have hb := F.2.1
  have hl : lv_has ls 1 [(0, .ref h)] := hl
  have St : cS G k [(h, .inr (8, [.ref b])), (b, .inl (cb, 9, .inl untold))] [(cb, .int)] A s s.heap [] := St
  refine lv_aload_n hx hb dX8_matchCapPence_0 rfl (lv_at hl 0 rfl) ?_
  refine cs_get F St 0 rfl rfl inX8 0 (by decide) kf_X8_11 rfl dX8_matchCapPence_1 ?_
  refine lv_iconst (v := 1) hx hb dX8_matchCapPence_4 (by decide) ?_
  refine cs_ild F St 1 0 rfl rfl (vp_in_iff.mpr (by decide)) dX8_matchCapPence_5 ?_
  refine top_i (y := 0) (by decide) ?_
  refine lv_bipush (v := 100) hx hb dX8_matchCapPence_6 (by decide) ?_
  refine lv_imul hx hb dX8_matchCapPence_8 ?_
  refine top_i (y := 0) (by decide) ?_
  exact cs_iret F hr hlk hQ St () (r := 0) rfl [0, 1] rfl (by decide) [] rfl (by decide) (by decide) dX8_matchCapPence_9
set_option maxHeartbeats 4000000 in
set_option maxRecDepth 100000 in
theorem c8_matchTill (l : Launch) (G : va_G) (k : Nat → Nat) (sz : Nat) (h : Nat) (b : Nat) (cb : ClassId) : Met l yX8_matchTill (Cond.code yX8_matchTill cX8_matchTill 1 (some .int) :: tb) ({ frames := 0, cells := 0, slots := 0, locals := 0 } : Room) (va_Pc [.ref h] (cP G k [(h, .inr (8, [.ref b])), (b, .inl (cb, 9, .inl untold))] [(cb, .int)] sz)) (va_Qi (fun (r : Int32) (_ : Unit) => (r = 0)) (cB G (fun (_ : Unit) => [(h, .inr (8, [.ref b])), (b, .inl (cb, 9, .inl untold))]) (fun (_ : Unit) => []) (va_A [(h, .inr (8, [.ref b])), (b, .inl (cb, 9, .inl untold))] sz)) (va_A [(h, .inr (8, [.ref b])), (b, .inl (cb, 9, .inl untold))] sz)) 0 0 (va_A [(h, .inr (8, [.ref b])), (b, .inl (cb, 9, .inl untold))] sz) := by
  refine ofC_i (cc := cX8_matchTill) (maxL := 1) (ret := (some .int)) (by decide) rfl (Nat.le_of_ble_eq_true rfl) ?_
  intro p e s m args below meth c A ls Q F hr hin hlk St hl hQ
  have hx := F.1
  have hb := F.2.1
  have hl : lv_has ls 1 [(0, .ref h)] := hl
  have St : cS G k [(h, .inr (8, [.ref b])), (b, .inl (cb, 9, .inl untold))] [(cb, .int)] A s s.heap [] := St
  refine lv_aload_n hx hb dX8_matchTill_0 rfl (lv_at hl 0 rfl) ?_
  refine cs_get F St 0 rfl rfl inX8 0 (by decide) kf_X8_11 rfl dX8_matchTill_1 ?_
  refine lv_iconst (v := 2) hx hb dX8_matchTill_4 (by decide) ?_
  refine cs_ild F St 1 0 rfl rfl (vp_in_iff.mpr (by decide)) dX8_matchTill_5 ?_
  refine top_i (y := 0) (by decide) ?_
  exact cs_iret F hr hlk hQ St () (r := 0) rfl [0, 1] rfl (by decide) [] rfl (by decide) (by decide) dX8_matchTill_6
set_option maxHeartbeats 4000000 in
set_option maxRecDepth 100000 in
theorem c8_taxHundredths (l : Launch) (G : va_G) (k : Nat → Nat) (sz : Nat) (h : Nat) (b : Nat) (cb : ClassId) : Met l yX8_taxHundredths (Cond.code yX8_taxHundredths cX8_taxHundredths 1 (some .int) :: tb) ({ frames := 0, cells := 0, slots := 0, locals := 0 } : Room) (va_Pc [.ref h] (cP G k [(h, .inr (8, [.ref b])), (b, .inl (cb, 9, .inl untold))] [(cb, .int)] sz)) (va_Qi (fun (r : Int32) (_ : Unit) => (r = 0)) (cB G (fun (_ : Unit) => [(h, .inr (8, [.ref b])), (b, .inl (cb, 9, .inl untold))]) (fun (_ : Unit) => []) (va_A [(h, .inr (8, [.ref b])), (b, .inl (cb, 9, .inl untold))] sz)) (va_A [(h, .inr (8, [.ref b])), (b, .inl (cb, 9, .inl untold))] sz)) 0 0 (va_A [(h, .inr (8, [.ref b])), (b, .inl (cb, 9, .inl untold))] sz) := by
  refine ofC_i (cc := cX8_taxHundredths) (maxL := 1) (ret := (some .int)) (by decide) rfl (Nat.le_of_ble_eq_true rfl) ?_
  intro p e s m args below meth c A ls Q F hr hin hlk St hl hQ
  have hx := F.1
  have hb := F.2.1
  have hl : lv_has ls 1 [(0, .ref h)] := hl
  have St : cS G k [(h, .inr (8, [.ref b])), (b, .inl (cb, 9, .inl untold))] [(cb, .int)] A s s.heap [] := St
  refine lv_aload_n hx hb dX8_taxHundredths_0 rfl (lv_at hl 0 rfl) ?_
  refine cs_get F St 0 rfl rfl inX8 0 (by decide) kf_X8_11 rfl dX8_taxHundredths_1 ?_
  refine lv_iconst (v := 3) hx hb dX8_taxHundredths_4 (by decide) ?_
  refine cs_ild F St 1 0 rfl rfl (vp_in_iff.mpr (by decide)) dX8_taxHundredths_5 ?_
  refine top_i (y := 0) (by decide) ?_
  exact cs_iret F hr hlk hQ St () (r := 0) rfl [0, 1] rfl (by decide) [] rfl (by decide) (by decide) dX8_taxHundredths_6
set_option maxHeartbeats 4000000 in
set_option maxRecDepth 100000 in
theorem c8_lapseDues (l : Launch) (G : va_G) (k : Nat → Nat) (sz : Nat) (h : Nat) (b : Nat) (cb : ClassId) : Met l yX8_lapseDues (Cond.code yX8_lapseDues cX8_lapseDues 1 (some .int) :: tb) ({ frames := 0, cells := 0, slots := 0, locals := 0 } : Room) (va_Pc [.ref h] (cP G k [(h, .inr (8, [.ref b])), (b, .inl (cb, 9, .inl untold))] [(cb, .int)] sz)) (va_Qi (fun (r : Int32) (_ : Unit) => (r = 3)) (cB G (fun (_ : Unit) => [(h, .inr (8, [.ref b])), (b, .inl (cb, 9, .inl untold))]) (fun (_ : Unit) => []) (va_A [(h, .inr (8, [.ref b])), (b, .inl (cb, 9, .inl untold))] sz)) (va_A [(h, .inr (8, [.ref b])), (b, .inl (cb, 9, .inl untold))] sz)) 0 0 (va_A [(h, .inr (8, [.ref b])), (b, .inl (cb, 9, .inl untold))] sz) := by
  refine ofC_i (cc := cX8_lapseDues) (maxL := 1) (ret := (some .int)) (by decide) rfl (Nat.le_of_ble_eq_true rfl) ?_
  intro p e s m args below meth c A ls Q F hr hin hlk St hl hQ
  have hx := F.1
  have hb := F.2.1
  have hl : lv_has ls 1 [(0, .ref h)] := hl
  have St : cS G k [(h, .inr (8, [.ref b])), (b, .inl (cb, 9, .inl untold))] [(cb, .int)] A s s.heap [] := St
  refine lv_aload_n hx hb dX8_lapseDues_0 rfl (lv_at hl 0 rfl) ?_
  refine cs_get F St 0 rfl rfl inX8 0 (by decide) kf_X8_11 rfl dX8_lapseDues_1 ?_
  refine lv_iconst (v := 4) hx hb dX8_lapseDues_4 (by decide) ?_
  refine cs_ild F St 1 0 rfl rfl (vp_in_iff.mpr (by decide)) dX8_lapseDues_5 ?_
  refine top_i (y := 3) (by decide) ?_
  exact cs_iret F hr hlk hQ St () (r := 3) rfl [0, 1] rfl (by decide) [] rfl (by decide) (by decide) dX8_lapseDues_6
set_option maxHeartbeats 4000000 in
set_option maxRecDepth 100000 in
theorem c8_loanPence (l : Launch) (G : va_G) (k : Nat → Nat) (sz : Nat) (h : Nat) (b : Nat) (cb : ClassId) : Met l yX8_loanPence (Cond.code yX8_loanPence cX8_loanPence 1 (some .int) :: tb) ({ frames := 0, cells := 0, slots := 0, locals := 0 } : Room) (va_Pc [.ref h] (cP G k [(h, .inr (8, [.ref b])), (b, .inl (cb, 9, .inl untold))] [(cb, .int)] sz)) (va_Qi (fun (r : Int32) (_ : Unit) => (r = 0)) (cB G (fun (_ : Unit) => [(h, .inr (8, [.ref b])), (b, .inl (cb, 9, .inl untold))]) (fun (_ : Unit) => []) (va_A [(h, .inr (8, [.ref b])), (b, .inl (cb, 9, .inl untold))] sz)) (va_A [(h, .inr (8, [.ref b])), (b, .inl (cb, 9, .inl untold))] sz)) 0 0 (va_A [(h, .inr (8, [.ref b])), (b, .inl (cb, 9, .inl untold))] sz) := by
  refine ofC_i (cc := cX8_loanPence) (maxL := 1) (ret := (some .int)) (by decide) rfl (Nat.le_of_ble_eq_true rfl) ?_
  intro p e s m args below meth c A ls Q F hr hin hlk St hl hQ
  have hx := F.1
  have hb := F.2.1
  have hl : lv_has ls 1 [(0, .ref h)] := hl
  have St : cS G k [(h, .inr (8, [.ref b])), (b, .inl (cb, 9, .inl untold))] [(cb, .int)] A s s.heap [] := St
  refine lv_aload_n hx hb dX8_loanPence_0 rfl (lv_at hl 0 rfl) ?_
  refine cs_get F St 0 rfl rfl inX8 0 (by decide) kf_X8_11 rfl dX8_loanPence_1 ?_
  refine lv_iconst (v := 5) hx hb dX8_loanPence_4 (by decide) ?_
  refine cs_ild F St 1 0 rfl rfl (vp_in_iff.mpr (by decide)) dX8_loanPence_5 ?_
  refine top_i (y := 0) (by decide) ?_
  refine lv_bipush (v := 100) hx hb dX8_loanPence_6 (by decide) ?_
  refine lv_imul hx hb dX8_loanPence_8 ?_
  refine top_i (y := 0) (by decide) ?_
  exact cs_iret F hr hlk hQ St () (r := 0) rfl [0, 1] rfl (by decide) [] rfl (by decide) (by decide) dX8_loanPence_9
set_option maxHeartbeats 4000000 in
set_option maxRecDepth 100000 in
theorem c8_loanThousandths (l : Launch) (G : va_G) (k : Nat → Nat) (sz : Nat) (h : Nat) (b : Nat) (cb : ClassId) : Met l yX8_loanThousandths (Cond.code yX8_loanThousandths cX8_loanThousandths 1 (some .int) :: tb) ({ frames := 0, cells := 0, slots := 0, locals := 0 } : Room) (va_Pc [.ref h] (cP G k [(h, .inr (8, [.ref b])), (b, .inl (cb, 9, .inl untold))] [(cb, .int)] sz)) (va_Qi (fun (r : Int32) (_ : Unit) => (r = 0)) (cB G (fun (_ : Unit) => [(h, .inr (8, [.ref b])), (b, .inl (cb, 9, .inl untold))]) (fun (_ : Unit) => []) (va_A [(h, .inr (8, [.ref b])), (b, .inl (cb, 9, .inl untold))] sz)) (va_A [(h, .inr (8, [.ref b])), (b, .inl (cb, 9, .inl untold))] sz)) 0 0 (va_A [(h, .inr (8, [.ref b])), (b, .inl (cb, 9, .inl untold))] sz) := by
  refine ofC_i (cc := cX8_loanThousandths) (maxL := 1) (ret := (some .int)) (by decide) rfl (Nat.le_of_ble_eq_true rfl) ?_
  intro p e s m args below meth c A ls Q F hr hin hlk St hl hQ
  have hx := F.1
  have hb := F.2.1
  have hl : lv_has ls 1 [(0, .ref h)] := hl
  have St : cS G k [(h, .inr (8, [.ref b])), (b, .inl (cb, 9, .inl untold))] [(cb, .int)] A s s.heap [] := St
  refine lv_aload_n hx hb dX8_loanThousandths_0 rfl (lv_at hl 0 rfl) ?_
  refine cs_get F St 0 rfl rfl inX8 0 (by decide) kf_X8_11 rfl dX8_loanThousandths_1 ?_
  refine lv_bipush (v := 6) hx hb dX8_loanThousandths_4 (by decide) ?_
  refine cs_ild F St 1 0 rfl rfl (vp_in_iff.mpr (by decide)) dX8_loanThousandths_6 ?_
  refine top_i (y := 0) (by decide) ?_
  exact cs_iret F hr hlk hQ St () (r := 0) rfl [0, 1] rfl (by decide) [] rfl (by decide) (by decide) dX8_loanThousandths_7
set_option maxHeartbeats 4000000 in
set_option maxRecDepth 100000 in
theorem c8_stonePence (l : Launch) (G : va_G) (k : Nat → Nat) (sz : Nat) (h : Nat) (b : Nat) (cb : ClassId) : Met l yX8_stonePence (Cond.code yX8_stonePence cX8_stonePence 1 (some .int) :: tb) ({ frames := 0, cells := 0, slots := 0, locals := 0 } : Room) (va_Pc [.ref h] (cP G k [(h, .inr (8, [.ref b])), (b, .inl (cb, 9, .inl untold))] [(cb, .int)] sz)) (va_Qi (fun (r : Int32) (_ : Unit) => (r = 100000)) (cB G (fun (_ : Unit) => [(h, .inr (8, [.ref b])), (b, .inl (cb, 9, .inl untold))]) (fun (_ : Unit) => []) (va_A [(h, .inr (8, [.ref b])), (b, .inl (cb, 9, .inl untold))] sz)) (va_A [(h, .inr (8, [.ref b])), (b, .inl (cb, 9, .inl untold))] sz)) 0 0 (va_A [(h, .inr (8, [.ref b])), (b, .inl (cb, 9, .inl untold))] sz) := by
  refine ofC_i (cc := cX8_stonePence) (maxL := 1) (ret := (some .int)) (by decide) rfl (Nat.le_of_ble_eq_true rfl) ?_
  intro p e s m args below meth c A ls Q F hr hin hlk St hl hQ
  have hx := F.1
  have hb := F.2.1
  have hl : lv_has ls 1 [(0, .ref h)] := hl
  have St : cS G k [(h, .inr (8, [.ref b])), (b, .inl (cb, 9, .inl untold))] [(cb, .int)] A s s.heap [] := St
  refine lv_aload_n hx hb dX8_stonePence_0 rfl (lv_at hl 0 rfl) ?_
  refine cs_get F St 0 rfl rfl inX8 0 (by decide) kf_X8_11 rfl dX8_stonePence_1 ?_
  refine lv_bipush (v := 7) hx hb dX8_stonePence_4 (by decide) ?_
  refine cs_ild F St 1 0 rfl rfl (vp_in_iff.mpr (by decide)) dX8_stonePence_6 ?_
  refine top_i (y := 1000) (by decide) ?_
  refine lv_bipush (v := 100) hx hb dX8_stonePence_7 (by decide) ?_
  refine lv_imul hx hb dX8_stonePence_9 ?_
  refine top_i (y := 100000) (by decide) ?_
  exact cs_iret F hr hlk hQ St () (r := 100000) rfl [0, 1] rfl (by decide) [] rfl (by decide) (by decide) dX8_stonePence_10
set_option maxHeartbeats 4000000 in
set_option maxRecDepth 100000 in
theorem c8_givesAllBack (l : Launch) (G : va_G) (k : Nat → Nat) (sz : Nat) (h : Nat) (b : Nat) (cb : ClassId) : Met l yX8_givesAllBack (Cond.code yX8_givesAllBack cX8_givesAllBack 1 (some .boolean) :: tb) ({ frames := 0, cells := 0, slots := 0, locals := 0 } : Room) (va_Pc [.ref h] (cP G k [(h, .inr (8, [.ref b])), (b, .inl (cb, 9, .inl untold))] [(cb, .int)] sz)) (va_Qi (fun (r : Int32) (_ : Unit) => (r = 0)) (cB G (fun (_ : Unit) => [(h, .inr (8, [.ref b])), (b, .inl (cb, 9, .inl untold))]) (fun (_ : Unit) => []) (va_A [(h, .inr (8, [.ref b])), (b, .inl (cb, 9, .inl untold))] sz)) (va_A [(h, .inr (8, [.ref b])), (b, .inl (cb, 9, .inl untold))] sz)) 0 0 (va_A [(h, .inr (8, [.ref b])), (b, .inl (cb, 9, .inl untold))] sz) := by
  refine ofC_i (cc := cX8_givesAllBack) (maxL := 1) (ret := (some .boolean)) (by decide) rfl (Nat.le_of_ble_eq_true rfl) ?_
  intro p e s m args below meth c A ls Q F hr hin hlk St hl hQ
  have hx := F.1
  have hb := F.2.1
  have hl : lv_has ls 1 [(0, .ref h)] := hl
  have St : cS G k [(h, .inr (8, [.ref b])), (b, .inl (cb, 9, .inl untold))] [(cb, .int)] A s s.heap [] := St
  refine lv_aload_n hx hb dX8_givesAllBack_0 rfl (lv_at hl 0 rfl) ?_
  refine cs_get F St 0 rfl rfl inX8 0 (by decide) kf_X8_11 rfl dX8_givesAllBack_1 ?_
  refine lv_bipush (v := 8) hx hb dX8_givesAllBack_4 (by decide) ?_
  refine cs_ild F St 1 0 rfl rfl (vp_in_iff.mpr (by decide)) dX8_givesAllBack_6 ?_
  refine top_i (y := 0) (by decide) ?_
  refine lv_iconst (v := 1) hx hb dX8_givesAllBack_7 (by decide) ?_
  refine lv_icmp_ne (tgt := 15) hx hb dX8_givesAllBack_8 (by decide) (fun c8 => ?_) (fun c8 => ?_)
  rotate_left
  · exact absurd c8 (by decide)
  refine lv_iconst (v := 0) hx hb dX8_givesAllBack_15 (by decide) ?_
  exact cs_zret F hr hlk hQ St () (r := 0) rfl rfl [0, 1] rfl (by decide) [] rfl (by decide) (by decide) dX8_givesAllBack_16
set_option maxHeartbeats 4000000 in
set_option maxRecDepth 100000 in
theorem c8_at (l : Launch) (G : va_G) (k : Nat → Nat) (sz : Nat) (h : Nat) (b : Nat) (cb : ClassId) (x : Int32) (h0 : 0 ≤ x.toInt) (h1 : x.toInt < 9) : Met l yX8_at (Cond.code yX8_at cX8_at 2 (some .int) :: tb) ({ frames := 0, cells := 0, slots := 0, locals := 0 } : Room) (va_Pc [.ref h, .int x] (cP G k [(h, .inr (8, [.ref b])), (b, .inl (cb, 9, .inl untold))] [(cb, .int)] sz)) (va_Qi (fun (r : Int32) (_ : Unit) => (r = untold (x : Int32).toNatClampNeg)) (cB G (fun (_ : Unit) => [(h, .inr (8, [.ref b])), (b, .inl (cb, 9, .inl untold))]) (fun (_ : Unit) => []) (va_A [(h, .inr (8, [.ref b])), (b, .inl (cb, 9, .inl untold))] sz)) (va_A [(h, .inr (8, [.ref b])), (b, .inl (cb, 9, .inl untold))] sz)) 0 0 (va_A [(h, .inr (8, [.ref b])), (b, .inl (cb, 9, .inl untold))] sz) := by
  refine ofC_i (cc := cX8_at) (maxL := 2) (ret := (some .int)) (by decide) rfl (Nat.le_of_ble_eq_true rfl) ?_
  intro p e s m args below meth c A ls Q F hr hin hlk St hl hQ
  have hx := F.1
  have hb := F.2.1
  have hl : lv_has ls 2 [(0, .ref h), (1, .int x)] := hl
  have St : cS G k [(h, .inr (8, [.ref b])), (b, .inl (cb, 9, .inl untold))] [(cb, .int)] A s s.heap [] := St
  refine lv_iload_n hx hb dX8_at_0 rfl (lv_at hl 1 rfl) ?_
  refine lv_if_lt (tgt := 19) hx hb dX8_at_1 (by decide) (fun c1 => ?_) (fun c1 => ?_)
  · have i1 := ci_lt (x := x) (y := 0) rfl (show (0 : Int32).toInt = 0 by decide) c1; exact False.elim (by omega)
  have i1 := ci_nlt (x := x) (y := 0) rfl (show (0 : Int32).toInt = 0 by decide) c1
  refine lv_iload_n hx hb dX8_at_4 rfl (lv_at hl 1 rfl) ?_
  refine lv_bipush (v := 9) hx hb dX8_at_5 (by decide) ?_
  refine lv_icmp_ge (tgt := 19) hx hb dX8_at_7 (by decide) (fun c7 => ?_) (fun c7 => ?_)
  · have i7 := ci_le (x := 9) (y := x) (show (9 : Int32).toInt = 9 by decide) rfl c7; exact False.elim (by omega)
  have i7 := ci_nle (x := 9) (y := x) (show (9 : Int32).toInt = 9 by decide) rfl c7
  refine lv_aload_n hx hb dX8_at_10 rfl (lv_at hl 0 rfl) ?_
  refine cs_get F St 0 rfl rfl inX8 0 (by decide) kf_X8_11 rfl dX8_at_11 ?_
  refine lv_iload_n hx hb dX8_at_14 rfl (lv_at hl 1 rfl) ?_
  refine cs_ild F St 1 0 rfl rfl (vp_in_iff.mpr ⟨by omega, by omega⟩) dX8_at_15 ?_
  refine lv_topi (fun y_1 ey_1 => ?_)
  refine lv_goto (tgt := 20) hx hb dX8_at_16 (by decide) ?_
  exact cs_iret F hr hlk hQ St () (r := y_1) ey_1 [0, 1] rfl (by decide) [] rfl (by decide) (by decide) dX8_at_20
end
section
set_option maxHeartbeats 4000000 in
set_option maxRecDepth 100000 in
/-- TrustReader() -/
theorem c9_init (l : Launch) (G : va_G) (k : Nat → Nat) (sz : Nat) (h : Nat) : Met l yX9_init (Cond.code yX9_init cX9_init 1 none :: tb) ({ frames := 2, cells := 3, slots := 16, locals := 80 } : Room) (va_Pc [.ref h] (cP G k [(h, .inr (9, [.null, .null, .int 0, .int 0, .int 0, .int 0, .int 0, .int 0]))] [] sz)) (va_Qv (fun (u : Nat × Nat × ClassId × Nat × ClassId) => match u with | (d, dr, cd, t, ct) => True) (cB G (fun u => match u with | (d, dr, cd, t, ct) => [(h, .inr (9, [.ref d, .ref t, .int 0, .int 0, .int 0, .int 0, .int 0, .int (-1)])), (d, .inr (8, [.ref dr])), (dr, .inl (cd, 9, .inl untold)), (t, .inl (ct, 6, .inl (fun _ => 0)))]) (fun u => match u with | (d, dr, cd, t, ct) => [(cd, .int), (ct, .boolean)]) (va_A [(h, .inr (9, [.null, .null, .int 0, .int 0, .int 0, .int 0, .int 0, .int 0]))] sz)) (va_A [(h, .inr (9, [.null, .null, .int 0, .int 0, .int 0, .int 0, .int 0, .int 0]))] sz)) 3 16 (va_A [(h, .inr (9, [.null, .null, .int 0, .int 0, .int 0, .int 0, .int 0, .int 0]))] sz) := by
  refine ofC_v (cc := cX9_init) (maxL := 1) (ret := none) (by decide) rfl (Nat.le_of_ble_eq_true rfl) ?_
  intro p e s m args below meth c A ls Q F hr hin hlk St hl hQ
  have hx := F.1
  have hb := F.2.1
  have hl : lv_has ls 1 [(0, .ref h)] := hl
  have St : cS G k [(h, .inr (9, [.null, .null, .int 0, .int 0, .int 0, .int 0, .int 0, .int 0]))] [] A s s.heap [] := St
  refine lv_aload_n hx hb dX9_init_0 rfl (lv_at hl 0 rfl) ?_
  refine W.objInit hx hb F.2.2.2.1 (F.2.2.2.2 _ km_X9_3) (F.2.2.2.2 _ kj_objectInit) (F.2.2.2.2 _ kd_objectInit) rfl (by rw [F.2.2.1]; exact hl.1) rfl dX9_init_1 (Nat.le_of_ble_eq_true rfl) (Nat.le_of_ble_eq_true rfl) ?_
  refine W.eq (g2 := F0 m 4 ls []) rfl ?_
  refine lv_aload_n hx hb dX9_init_4 rfl (lv_at hl 0 rfl) ?_
  refine cs_new F St (ci := 8) rfl inX8 tyX8_ok kc_X9_9 kn_X8 ki_X8 (fs := [.null]) (by decide +kernel) (Nat.le_of_ble_eq_true rfl) (Nat.le_of_ble_eq_true rfl) dX9_init_5 (fun q_1 H St => ?_)
  refine W.widen (k := 1) (n := 1) (by decide) (by decide) ?_
  have St : cS G k [(h, .inr (9, [.null, .null, .int 0, .int 0, .int 0, .int 0, .int 0, .int 0])), (q_1, .inr (8, [.null]))] [] A s H _ := St
  refine lv_dup hx hb dX9_init_8 rfl ?_
  refine cs_v St [1] [0] (wc := [(q_1, .inr (8, [.null]))]) (wr := [(h, .inr (9, [.null, .null, .int 0, .int 0, .int 0, .int 0, .int 0, .int 0]))]) rfl rfl (by decide) (by decide) (va_runI (As := []) (rest := [.ref q_1, .ref h]) F (c8_init l G k _ q_1) (cwIt F mf_X8_init km_X9_11 rfl rfl ⟨Nat.le_of_ble_eq_true rfl, Nat.le_of_ble_eq_true rfl⟩) (cs_pre St [1] rfl (by decide) [] rfl) rfl rfl hl.1 rfl (lv_room (Nat.le_of_ble_eq_true rfl)) dX9_init_9 ⟨Nat.le_of_ble_eq_true rfl, Nat.le_of_ble_eq_true rfl⟩) (fun u_3 H locs hw St => ?_)
  obtain ⟨b_4, cb_5⟩ := u_3
  try dsimp only at hw
  refine W.widen (k := 2) (n := 10) (by decide) (by decide) ?_
  have St : cS G k [(h, .inr (9, [.null, .null, .int 0, .int 0, .int 0, .int 0, .int 0, .int 0])), (q_1, .inr (8, [.ref b_4])), (b_4, .inl (cb_5, 9, .inl untold))] [(cb_5, .int)] A s H locs := St
  refine cs_putF F hin St 0 rfl rfl inX9 tyX9_ok nmX9 0 (by decide) kf_X9_12 rfl rfl rfl rfl (Nat.le_of_ble_eq_true rfl) (w' := [(h, .inr (9, [.ref q_1, .null, .int 0, .int 0, .int 0, .int 0, .int 0, .int 0])), (q_1, .inr (8, [.ref b_4])), (b_4, .inl (cb_5, 9, .inl untold))]) rfl dX9_init_12 (fun H locs St => ?_)
  refine lv_aload_n hx hb dX9_init_15 rfl (lv_at hl 0 rfl) ?_
  refine lv_bipush (v := 6) hx hb dX9_init_16 (by decide) ?_
  refine cs_newa F St (atype := .boolean) ka_boolean rfl (N' := 6) (a0 := (6, .inl (fun _ => 0))) (fun _ => rfl) (by decide) (by decide) (by decide) (Nat.le_of_ble_eq_true rfl) (Nat.le_of_ble_eq_true rfl) dX9_init_18 (fun q_6 d_7 H St => ?_)
  refine W.widen (k := 3) (n := 16) (by decide) (by decide) ?_
  have St : cS G k [(h, .inr (9, [.ref q_1, .null, .int 0, .int 0, .int 0, .int 0, .int 0, .int 0])), (q_1, .inr (8, [.ref b_4])), (b_4, .inl (cb_5, 9, .inl untold)), (q_6, .inl (d_7, 6, .inl (fun _ => 0)))] [(cb_5, .int), (d_7, .boolean)] A s H _ := St
  refine cs_putF F hin St 0 rfl rfl inX9 tyX9_ok nmX9 1 (by decide) kf_X9_18 rfl rfl rfl rfl (Nat.le_of_ble_eq_true rfl) (w' := [(h, .inr (9, [.ref q_1, .ref q_6, .int 0, .int 0, .int 0, .int 0, .int 0, .int 0])), (q_1, .inr (8, [.ref b_4])), (b_4, .inl (cb_5, 9, .inl untold)), (q_6, .inl (d_7, 6, .inl (fun _ => 0)))]) rfl dX9_init_20 (fun H locs St => ?_)
  refine lv_aload_n hx hb dX9_init_23 rfl (lv_at hl 0 rfl) ?_
  refine lv_iconst (v := (-1)) hx hb dX9_init_24 (by decide) ?_
  refine cs_put F St 0 rfl rfl inX9 tyX9_ok nmX9 7 (by decide) kf_X9_22 rfl rfl rfl (Nat.le_of_ble_eq_true rfl) (w' := [(h, .inr (9, [.ref q_1, .ref q_6, .int 0, .int 0, .int 0, .int 0, .int 0, .int (-1)])), (q_1, .inr (8, [.ref b_4])), (b_4, .inl (cb_5, 9, .inl untold)), (q_6, .inl (d_7, 6, .inl (fun _ => 0)))]) rfl dX9_init_25 (fun H locs St => ?_)
  exact cs_vret F hr hlk hQ St (q_1, b_4, cb_5, q_6, d_7) (by trivial) [0, 1, 2, 3] rfl (by decide) [0, 1] rfl (by decide) (by decide) dX9_init_28
set_option maxHeartbeats 4000000 in
set_option maxRecDepth 100000 in
theorem c9_startAnew (l : Launch) (G : va_G) (k : Nat → Nat) (sz : Nat) (h : Nat) (d : Nat) (dr : Nat) (t : Nat) (cd : ClassId) (ct : ClassId) (ft : Nat → Int32) : Met l yX9_startAnew (Cond.code yX9_startAnew cX9_startAnew 2 none :: tb) ({ frames := 2, cells := 0, slots := 0, locals := 80 } : Room) (va_Pc [.ref h] (cP G k [(h, .inr (9, [.ref d, .ref t, .int 0, .int 0, .int 0, .int 0, .int 0, .int (-1)])), (d, .inr (8, [.ref dr])), (dr, .inl (cd, 9, .inl untold)), (t, .inl (ct, 6, .inl ft))] [(cd, .int), (ct, .boolean)] sz)) (va_Qv (fun (f2 : (Nat → Int32)) => True) (cB G (fun (f2 : (Nat → Int32)) => [(h, .inr (9, [.ref d, .ref t, .int 0, .int 0, .int 0, .int 0, .int 0, .int (-1)])), (d, .inr (8, [.ref dr])), (dr, .inl (cd, 9, .inl untold)), (t, .inl (ct, 6, .inl f2))]) (fun (f2 : (Nat → Int32)) => []) (va_A [(h, .inr (9, [.ref d, .ref t, .int 0, .int 0, .int 0, .int 0, .int 0, .int (-1)])), (d, .inr (8, [.ref dr])), (dr, .inl (cd, 9, .inl untold)), (t, .inl (ct, 6, .inl ft))] sz)) (va_A [(h, .inr (9, [.ref d, .ref t, .int 0, .int 0, .int 0, .int 0, .int 0, .int (-1)])), (d, .inr (8, [.ref dr])), (dr, .inl (cd, 9, .inl untold)), (t, .inl (ct, 6, .inl ft))] sz)) 0 0 (va_A [(h, .inr (9, [.ref d, .ref t, .int 0, .int 0, .int 0, .int 0, .int 0, .int (-1)])), (d, .inr (8, [.ref dr])), (dr, .inl (cd, 9, .inl untold)), (t, .inl (ct, 6, .inl ft))] sz) := by
  refine ofC_v (cc := cX9_startAnew) (maxL := 2) (ret := none) (by decide) rfl (Nat.le_of_ble_eq_true rfl) ?_
  intro p e s m args below meth c A ls Q F hr hin hlk St hl hQ
  have hx := F.1
  have hb := F.2.1
  have hl : lv_has ls 2 [(0, .ref h)] := hl
  have St : cS G k [(h, .inr (9, [.ref d, .ref t, .int 0, .int 0, .int 0, .int 0, .int 0, .int (-1)])), (d, .inr (8, [.ref dr])), (dr, .inl (cd, 9, .inl untold)), (t, .inl (ct, 6, .inl ft))] [(cd, .int), (ct, .boolean)] A s s.heap [] := St
  refine lv_aload_n hx hb dX9_startAnew_0 rfl (lv_at hl 0 rfl) ?_
  refine cs_get F St 0 rfl rfl inX9 0 (by decide) kf_X9_12 rfl dX9_startAnew_1 ?_
  refine cs_v St [1, 2] [0, 3] (wc := [(d, .inr (8, [.ref dr])), (dr, .inl (cd, 9, .inl untold))]) (wr := [(h, .inr (9, [.ref d, .ref t, .int 0, .int 0, .int 0, .int 0, .int 0, .int (-1)])), (t, .inl (ct, 6, .inl ft))]) rfl rfl (by decide) (by decide) (va_runV (As := []) (rest := []) F (c8_forget l G k _ d dr cd) (cwVt F mf_X8_forget km_X9_42 rfl rfl ⟨Nat.le_of_ble_eq_true rfl, Nat.le_of_ble_eq_true rfl⟩) (cs_preV St [1, 2] rfl (by decide) [0] rfl (ci := 8) (q0 := 1) rfl rfl) rfl rfl hl.1 rfl (lv_room (Nat.le_of_ble_eq_true rfl)) dX9_startAnew_4 ⟨Nat.le_of_ble_eq_true rfl, Nat.le_of_ble_eq_true rfl⟩) (fun u_2 H locs hw St => ?_)
  try dsimp only at hw
  have St : cS G k [(h, .inr (9, [.ref d, .ref t, .int 0, .int 0, .int 0, .int 0, .int 0, .int (-1)])), (t, .inl (ct, 6, .inl ft)), (d, .inr (8, [.ref dr])), (dr, .inl (cd, 9, .inl untold))] [(cd, .int), (ct, .boolean)] A s H locs := St
  refine lv_iconst (v := 0) hx hb dX9_startAnew_7 (by decide) ?_
  refine lv_istore_n (lv' := [(1, .int 0), (0, .ref h)]) hx hb dX9_startAnew_8 rfl hl (by decide) rfl (fun ls hl => ?_)
  have lp9 : ∀ (n : Nat) (i : Int32) (f9 : Nat → Int32) (H : Heap) (locs : List Loc) (ls : Array Slot), (0 ≤ i.toInt ∧ i.toInt ≤ 6) → ((6 - i.toInt).toNat) < n → cS G k [(h, .inr (9, [.ref d, .ref t, .int 0, .int 0, .int 0, .int 0, .int 0, .int (-1)])), (t, .inl (ct, 6, .inl f9)), (d, .inr (8, [.ref dr])), (dr, .inl (cd, 9, .inl untold))] [(cd, .int), (ct, .boolean)] A s H locs → lv_has ls 2 [(1, .int i), (0, .ref h)] → W p l e ({ frames := 2, cells := 0, slots := 0, locals := 80 } : Room) s m args below meth c H locs 0 0 Q (F0 m 9 ls []) := by
    intro n
    induction n with
    | zero => intro i f9 H locs ls hI hn; exact absurd hn (Nat.not_lt_zero _)
    | succ n ih =>
      intro i f9 H locs ls hI hn St hl
      obtain ⟨hI0, hI1⟩ := hI
      refine lv_iload_n hx hb dX9_startAnew_9 rfl (lv_at hl 0 rfl) ?_
      refine lv_bipush (v := 6) hx hb dX9_startAnew_10 (by decide) ?_
      refine lv_icmp_ge (tgt := 28) hx hb dX9_startAnew_12 (by decide) (fun c12 => ?_) (fun c12 => ?_)
      ·
        have i12 := ci_le (x := 6) (y := i) (show (6 : Int32).toInt = 6 by decide) rfl c12
        refine lv_aload_n hx hb dX9_startAnew_28 rfl (lv_at hl 1 rfl) ?_
        refine lv_iconst (v := 0) hx hb dX9_startAnew_29 (by decide) ?_
        refine cs_put F St 0 rfl rfl inX9 tyX9_ok nmX9 2 (by decide) kf_X9_45 rfl rfl rfl (Nat.le_of_ble_eq_true rfl) (w' := [(h, .inr (9, [.ref d, .ref t, .int 0, .int 0, .int 0, .int 0, .int 0, .int (-1)])), (t, .inl (ct, 6, .inl f9)), (d, .inr (8, [.ref dr])), (dr, .inl (cd, 9, .inl untold))]) rfl dX9_startAnew_30 (fun H locs St => ?_)
        refine lv_aload_n hx hb dX9_startAnew_33 rfl (lv_at hl 1 rfl) ?_
        refine lv_iconst (v := 0) hx hb dX9_startAnew_34 (by decide) ?_
        refine cs_put F St 0 rfl rfl inX9 tyX9_ok nmX9 6 (by decide) kf_X9_26 rfl rfl rfl (Nat.le_of_ble_eq_true rfl) (w' := [(h, .inr (9, [.ref d, .ref t, .int 0, .int 0, .int 0, .int 0, .int 0, .int (-1)])), (t, .inl (ct, 6, .inl f9)), (d, .inr (8, [.ref dr])), (dr, .inl (cd, 9, .inl untold))]) rfl dX9_startAnew_35 (fun H locs St => ?_)
        refine lv_aload_n hx hb dX9_startAnew_38 rfl (lv_at hl 1 rfl) ?_
        refine lv_iconst (v := (-1)) hx hb dX9_startAnew_39 (by decide) ?_
        refine cs_put F St 0 rfl rfl inX9 tyX9_ok nmX9 7 (by decide) kf_X9_22 rfl rfl rfl (Nat.le_of_ble_eq_true rfl) (w' := [(h, .inr (9, [.ref d, .ref t, .int 0, .int 0, .int 0, .int 0, .int 0, .int (-1)])), (t, .inl (ct, 6, .inl f9)), (d, .inr (8, [.ref dr])), (dr, .inl (cd, 9, .inl untold))]) rfl dX9_startAnew_40 (fun H locs St => ?_)
        exact cs_vret F hr hlk hQ St f9 (by trivial) [0, 2, 3, 1] rfl (by decide) [] rfl (by decide) (by decide) dX9_startAnew_43
      ·
        have i12 := ci_nle (x := 6) (y := i) (show (6 : Int32).toInt = 6 by decide) rfl c12
        refine lv_aload_n hx hb dX9_startAnew_15 rfl (lv_at hl 1 rfl) ?_
        refine cs_get F St 0 rfl rfl inX9 1 (by decide) kf_X9_18 rfl dX9_startAnew_16 ?_
        refine lv_iload_n hx hb dX9_startAnew_19 rfl (lv_at hl 0 rfl) ?_
        refine lv_iconst (v := 0) hx hb dX9_startAnew_20 (by decide) ?_
        refine cs_zst F St 1 1 rfl rfl (vp_in_iff.mpr ⟨by omega, by omega⟩) (w' := [(h, .inr (9, [.ref d, .ref t, .int 0, .int 0, .int 0, .int 0, .int 0, .int (-1)])), (t, .inl (ct, 6, .inl (upd f9 (i : Int32).toNatClampNeg (vp_nar .boolean 0)))), (d, .inr (8, [.ref dr])), (dr, .inl (cd, 9, .inl untold))]) rfl dX9_startAnew_21 (fun H locs St => ?_)
        obtain ⟨f_3, ef_3⟩ : ∃ zz : Nat → Int32, zz = upd f9 (i : Int32).toNatClampNeg (vp_nar .boolean 0) := ⟨_, rfl⟩
        rw [← ef_3] at St
        obtain ⟨y_4, ey_4⟩ : ∃ zz : Int32, zz = i + 1 := ⟨_, rfl⟩
        have jy_4 := ci_add (x := i) rfl (show (1 : Int32).toInt = 1 by decide) ey_4
        refine lv_iinc (v := y_4) (lv' := [(1, .int y_4), (0, .ref h)]) hx hb dX9_startAnew_22 hl (k := 0) rfl (by rw [ey_4]; rfl) (by decide) rfl (fun ls hl => ?_)
        refine lv_goto (tgt := 9) hx hb dX9_startAnew_25 (by decide) ?_
        exact ih y_4 f_3 _ _ _ ⟨by omega, by omega⟩ (by omega) St (lv_sub hl [0, 1] rfl)
  exact lp9 7 0 ft _ _ _ ⟨by decide, by decide⟩ (by decide) St (lv_sub hl [0, 1] rfl)
set_option maxHeartbeats 4000000 in
set_option maxRecDepth 100000 in
/-- readToken of an empty tape: the end -/
theorem c9_readToken0 (l : Launch) (G : va_G) (k : Nat → Nat) (sz : Nat) (h : Nat) (d : Nat) (t : Nat) (h2 : Nat) (b2 : Nat) : Met l yX9_readToken (Cond.code yX9_readToken cX9_readToken 3 none :: tb) ({ frames := 1, cells := 0, slots := 0, locals := 21 } : Room) (va_Pc [.ref h, .ref h2] (cP G k [(h, .inr (9, [.ref d, .ref t, .int 0, .int 0, .int 0, .int 0, .int 0, .int (-1)])), (h2, .inr (6, [.ref b2, .int 0]))] [] sz)) (va_Qv (fun (_ : Unit) => True) (cB G (fun (_ : Unit) => [(h, .inr (9, [.ref d, .ref t, .int 0, .int 0, .int 0, .int 0, .int 0, .int (-1)])), (h2, .inr (6, [.ref b2, .int 0]))]) (fun (_ : Unit) => []) (va_A [(h, .inr (9, [.ref d, .ref t, .int 0, .int 0, .int 0, .int 0, .int 0, .int (-1)])), (h2, .inr (6, [.ref b2, .int 0]))] sz)) (va_A [(h, .inr (9, [.ref d, .ref t, .int 0, .int 0, .int 0, .int 0, .int 0, .int (-1)])), (h2, .inr (6, [.ref b2, .int 0]))] sz)) 0 0 (va_A [(h, .inr (9, [.ref d, .ref t, .int 0, .int 0, .int 0, .int 0, .int 0, .int (-1)])), (h2, .inr (6, [.ref b2, .int 0]))] sz) := by
  refine ofC_v (cc := cX9_readToken) (maxL := 3) (ret := none) (by decide) rfl (Nat.le_of_ble_eq_true rfl) ?_
  intro p e s m args below meth c A ls Q F hr hin hlk St hl hQ
  have hx := F.1
  have hb := F.2.1
  have hl : lv_has ls 3 [(0, .ref h), (1, .ref h2)] := hl
  have St : cS G k [(h, .inr (9, [.ref d, .ref t, .int 0, .int 0, .int 0, .int 0, .int 0, .int (-1)])), (h2, .inr (6, [.ref b2, .int 0]))] [] A s s.heap [] := St
  refine lv_aload_n hx hb dX9_readToken_0 rfl (lv_at hl 0 rfl) ?_
  refine cs_get F St 0 rfl rfl inX9 2 (by decide) kf_X9_45 rfl dX9_readToken_1 ?_
  refine lv_aload_n hx hb dX9_readToken_4 rfl (lv_at hl 1 rfl) ?_
  refine cs_i St [1] [0] (wc := [(h2, .inr (6, [.ref b2, .int 0]))]) (wr := [(h, .inr (9, [.ref d, .ref t, .int 0, .int 0, .int 0, .int 0, .int 0, .int (-1)]))]) rfl rfl (by decide) (by decide) (va_runV (As := []) (rest := [.int 0]) F (c6_length l G k _ h2 b2 0) (cwVt F mf_X6_length km_X9_126 rfl rfl ⟨Nat.le_of_ble_eq_true rfl, Nat.le_of_ble_eq_true rfl⟩) (cs_preV St [1] rfl (by decide) [] rfl (ci := 6) (q0 := 1) rfl rfl) rfl rfl hl.1 rfl (lv_room (Nat.le_of_ble_eq_true rfl)) dX9_readToken_5 ⟨Nat.le_of_ble_eq_true rfl, Nat.le_of_ble_eq_true rfl⟩) (fun r_1 u_2 H locs hw St => ?_)
  try dsimp only at hw
  have z_3 := hw
  subst r_1
  have St : cS G k [(h, .inr (9, [.ref d, .ref t, .int 0, .int 0, .int 0, .int 0, .int 0, .int (-1)])), (h2, .inr (6, [.ref b2, .int 0]))] [] A s H locs := St
  refine lv_icmp_ge (tgt := 38) hx hb dX9_readToken_8 (by decide) (fun c8 => ?_) (fun c8 => ?_)
  rotate_left
  · exact absurd (by decide) c8
  refine lv_aload_n hx hb dX9_readToken_38 rfl (lv_at hl 0 rfl) ?_
  refine lv_aload_n hx hb dX9_readToken_39 rfl (lv_at hl 0 rfl) ?_
  refine cs_get F St 0 rfl rfl inX9 2 (by decide) kf_X9_45 rfl dX9_readToken_40 ?_
  refine cs_put F St 0 rfl rfl inX9 tyX9_ok nmX9 4 (by decide) kf_X9_48 rfl rfl rfl (Nat.le_of_ble_eq_true rfl) (w' := [(h, .inr (9, [.ref d, .ref t, .int 0, .int 0, .int 0, .int 0, .int 0, .int (-1)])), (h2, .inr (6, [.ref b2, .int 0]))]) rfl dX9_readToken_43 (fun H locs St => ?_)
  refine lv_aload_n hx hb dX9_readToken_46 rfl (lv_at hl 1 rfl) ?_
  refine lv_aload_n hx hb dX9_readToken_47 rfl (lv_at hl 0 rfl) ?_
  refine cs_get F St 0 rfl rfl inX9 2 (by decide) kf_X9_45 rfl dX9_readToken_48 ?_
  refine cs_i St [1] [0] (wc := [(h2, .inr (6, [.ref b2, .int 0]))]) (wr := [(h, .inr (9, [.ref d, .ref t, .int 0, .int 0, .int 0, .int 0, .int 0, .int (-1)]))]) rfl rfl (by decide) (by decide) (va_runV (As := [.int 0]) (rest := []) F (c6_at0 l G k _ h2 b2 0) (cwVt F mf_X6_at km_X9_116 rfl rfl ⟨Nat.le_of_ble_eq_true rfl, Nat.le_of_ble_eq_true rfl⟩) (cs_preV St [1] rfl (by decide) [] rfl (ci := 6) (q0 := 1) rfl rfl) rfl rfl hl.1 rfl (lv_room (Nat.le_of_ble_eq_true rfl)) dX9_readToken_51 ⟨Nat.le_of_ble_eq_true rfl, Nat.le_of_ble_eq_true rfl⟩) (fun r_4 u_5 H locs hw St => ?_)
  try dsimp only at hw
  have z_6 := hw
  subst r_4
  have St : cS G k [(h, .inr (9, [.ref d, .ref t, .int 0, .int 0, .int 0, .int 0, .int 0, .int (-1)])), (h2, .inr (6, [.ref b2, .int 0]))] [] A s H locs := St
  refine lv_istore_n (lv' := [(2, .int (-1)), (0, .ref h), (1, .ref h2)]) hx hb dX9_readToken_54 rfl hl (by decide) rfl (fun ls hl => ?_)
  refine lv_iload_n hx hb dX9_readToken_55 rfl (lv_at hl 0 rfl) ?_
  refine lv_iconst (v := (-1)) hx hb dX9_readToken_56 (by decide) ?_
  refine lv_icmp_ne (tgt := 68) hx hb dX9_readToken_57 (by decide) (fun c57 => ?_) (fun c57 => ?_)
  · exact absurd c57 (by decide)
  refine lv_aload_n hx hb dX9_readToken_60 rfl (lv_at hl 1 rfl) ?_
  refine lv_iconst (v := 0) hx hb dX9_readToken_61 (by decide) ?_
  refine cs_put F St 0 rfl rfl inX9 tyX9_ok nmX9 3 (by decide) kf_X9_36 rfl rfl rfl (Nat.le_of_ble_eq_true rfl) (w' := [(h, .inr (9, [.ref d, .ref t, .int 0, .int 0, .int 0, .int 0, .int 0, .int (-1)])), (h2, .inr (6, [.ref b2, .int 0]))]) rfl dX9_readToken_62 (fun H locs St => ?_)
  refine lv_goto (tgt := 123) hx hb dX9_readToken_65 (by decide) ?_
  exact cs_vret F hr hlk hQ St () (by trivial) [0, 1] rfl (by decide) [] rfl (by decide) (by decide) dX9_readToken_123
set_option maxHeartbeats 4000000 in
set_option maxRecDepth 100000 in
theorem c9_read0 (l : Launch) (G : va_G) (k : Nat → Nat) (sz : Nat) (h : Nat) (d : Nat) (dr : Nat) (t : Nat) (cd : ClassId) (ct : ClassId) (ft : Nat → Int32) (h2 : Nat) (b2 : Nat) : Met l yX9_read (Cond.code yX9_read cX9_read 4 (some .int) :: tb) ({ frames := 3, cells := 0, slots := 0, locals := 101 } : Room) (va_Pc [.ref h, .ref h2] (cP G k [(h, .inr (9, [.ref d, .ref t, .int 0, .int 0, .int 0, .int 0, .int 0, .int (-1)])), (d, .inr (8, [.ref dr])), (dr, .inl (cd, 9, .inl untold)), (t, .inl (ct, 6, .inl ft)), (h2, .inr (6, [.ref b2, .int 0]))] [(cd, .int), (ct, .boolean)] sz)) (va_Qi (fun (r : Int32) (f2 : (Nat → Int32)) => (r = 0)) (cB G (fun (f2 : (Nat → Int32)) => [(h, .inr (9, [.ref d, .ref t, .int 0, .int 0, .int 0, .int 0, .int 0, .int (-1)])), (d, .inr (8, [.ref dr])), (dr, .inl (cd, 9, .inl untold)), (t, .inl (ct, 6, .inl f2)), (h2, .inr (6, [.ref b2, .int 0]))]) (fun (f2 : (Nat → Int32)) => []) (va_A [(h, .inr (9, [.ref d, .ref t, .int 0, .int 0, .int 0, .int 0, .int 0, .int (-1)])), (d, .inr (8, [.ref dr])), (dr, .inl (cd, 9, .inl untold)), (t, .inl (ct, 6, .inl ft)), (h2, .inr (6, [.ref b2, .int 0]))] sz)) (va_A [(h, .inr (9, [.ref d, .ref t, .int 0, .int 0, .int 0, .int 0, .int 0, .int (-1)])), (d, .inr (8, [.ref dr])), (dr, .inl (cd, 9, .inl untold)), (t, .inl (ct, 6, .inl ft)), (h2, .inr (6, [.ref b2, .int 0]))] sz)) 0 0 (va_A [(h, .inr (9, [.ref d, .ref t, .int 0, .int 0, .int 0, .int 0, .int 0, .int (-1)])), (d, .inr (8, [.ref dr])), (dr, .inl (cd, 9, .inl untold)), (t, .inl (ct, 6, .inl ft)), (h2, .inr (6, [.ref b2, .int 0]))] sz) := by
  refine ofC_i (cc := cX9_read) (maxL := 4) (ret := (some .int)) (by decide) rfl (Nat.le_of_ble_eq_true rfl) ?_
  intro p e s m args below meth c A ls Q F hr hin hlk St hl hQ
  have hx := F.1
  have hb := F.2.1
  have hl : lv_has ls 4 [(0, .ref h), (1, .ref h2)] := hl
  have St : cS G k [(h, .inr (9, [.ref d, .ref t, .int 0, .int 0, .int 0, .int 0, .int 0, .int (-1)])), (d, .inr (8, [.ref dr])), (dr, .inl (cd, 9, .inl untold)), (t, .inl (ct, 6, .inl ft)), (h2, .inr (6, [.ref b2, .int 0]))] [(cd, .int), (ct, .boolean)] A s s.heap [] := St
  refine lv_aload_n hx hb dX9_read_0 rfl (lv_at hl 0 rfl) ?_
  refine cs_v St [0, 1, 2, 3] [4] (wc := [(h, .inr (9, [.ref d, .ref t, .int 0, .int 0, .int 0, .int 0, .int 0, .int (-1)])), (d, .inr (8, [.ref dr])), (dr, .inl (cd, 9, .inl untold)), (t, .inl (ct, 6, .inl ft))]) (wr := [(h2, .inr (6, [.ref b2, .int 0]))]) rfl rfl (by decide) (by decide) (va_runV (As := []) (rest := []) F (c9_startAnew l G k _ h d dr t cd ct ft) (cwVt F mf_X9_startAnew km_X9_29 rfl rfl ⟨Nat.le_of_ble_eq_true rfl, Nat.le_of_ble_eq_true rfl⟩) (cs_preV St [0, 1, 2, 3] rfl (by decide) [0, 1] rfl (ci := 9) (q0 := 0) rfl rfl) rfl rfl hl.1 rfl (lv_room (Nat.le_of_ble_eq_true rfl)) dX9_read_1 ⟨Nat.le_of_ble_eq_true rfl, Nat.le_of_ble_eq_true rfl⟩) (fun u_2 H locs hw St => ?_)
  obtain ⟨f2_3, rfl⟩ : ∃ z, z = u_2 := ⟨_, rfl⟩
  try dsimp only at hw
  have St : cS G k [(h2, .inr (6, [.ref b2, .int 0])), (h, .inr (9, [.ref d, .ref t, .int 0, .int 0, .int 0, .int 0, .int 0, .int (-1)])), (d, .inr (8, [.ref dr])), (dr, .inl (cd, 9, .inl untold)), (t, .inl (ct, 6, .inl f2_3))] [(cd, .int), (ct, .boolean)] A s H locs := St
  refine lv_iconst (v := 0) hx hb dX9_read_4 (by decide) ?_
  refine lv_istore_n (lv' := [(2, .int 0), (0, .ref h), (1, .ref h2)]) hx hb dX9_read_5 rfl hl (by decide) rfl (fun ls hl => ?_)
  refine lv_iconst (v := 0) hx hb dX9_read_6 (by decide) ?_
  refine lv_istore_n (lv' := [(3, .int 0), (2, .int 0), (0, .ref h), (1, .ref h2)]) hx hb dX9_read_7 rfl hl (by decide) rfl (fun ls hl => ?_)
  refine lv_iload_n hx hb dX9_read_8 rfl (lv_at hl 0 rfl) ?_
  refine lv_bipush (v := 6) hx hb dX9_read_9 (by decide) ?_
  refine lv_icmp_gt (tgt := 51) hx hb dX9_read_11 (by decide) (fun c11 => ?_) (fun c11 => ?_)
  · exact absurd c11 (by decide)
  refine lv_aload_n hx hb dX9_read_14 rfl (lv_at hl 2 rfl) ?_
  refine lv_aload_n hx hb dX9_read_15 rfl (lv_at hl 3 rfl) ?_
  refine cs_v St [1, 0] [2, 3, 4] (wc := [(h, .inr (9, [.ref d, .ref t, .int 0, .int 0, .int 0, .int 0, .int 0, .int (-1)])), (h2, .inr (6, [.ref b2, .int 0]))]) (wr := [(d, .inr (8, [.ref dr])), (dr, .inl (cd, 9, .inl untold)), (t, .inl (ct, 6, .inl f2_3))]) rfl rfl (by decide) (by decide) (va_runV (As := [.ref h2]) (rest := []) F (c9_readToken0 l G k _ h d t h2 b2) (cwVt F mf_X9_readToken km_X9_32 rfl rfl ⟨Nat.le_of_ble_eq_true rfl, Nat.le_of_ble_eq_true rfl⟩) (cs_preV St [1, 0] rfl (by decide) [] rfl (ci := 9) (q0 := 1) rfl rfl) rfl rfl hl.1 rfl (lv_room (Nat.le_of_ble_eq_true rfl)) dX9_read_16 ⟨Nat.le_of_ble_eq_true rfl, Nat.le_of_ble_eq_true rfl⟩) (fun u_5 H locs hw St => ?_)
  try dsimp only at hw
  have St : cS G k [(d, .inr (8, [.ref dr])), (dr, .inl (cd, 9, .inl untold)), (t, .inl (ct, 6, .inl f2_3)), (h, .inr (9, [.ref d, .ref t, .int 0, .int 0, .int 0, .int 0, .int 0, .int (-1)])), (h2, .inr (6, [.ref b2, .int 0]))] [(cd, .int), (ct, .boolean)] A s H locs := St
  refine lv_aload_n hx hb dX9_read_19 rfl (lv_at hl 2 rfl) ?_
  refine cs_get F St 3 rfl rfl inX9 3 (by decide) kf_X9_36 rfl dX9_read_20 ?_
  refine lv_if_ne (tgt := 28) hx hb dX9_read_23 (by decide) (fun c23 => ?_) (fun c23 => ?_)
  · exact absurd c23 (by decide)
  refine lv_iload_n hx hb dX9_read_26 rfl (lv_at hl 1 rfl) ?_
  exact cs_iret F hr hlk hQ St f2_3 (r := 0) rfl [3, 0, 1, 2, 4] rfl (by decide) [] rfl (by decide) (by decide) dX9_read_27
set_option maxHeartbeats 4000000 in
set_option maxRecDepth 100000 in
theorem c9_draft (l : Launch) (G : va_G) (k : Nat → Nat) (sz : Nat) (h : Nat) (d : Nat) (t : Nat) : Met l yX9_draft (Cond.code yX9_draft cX9_draft 1 (some (.object "TowerAppeal$Trust")) :: tb) ({ frames := 0, cells := 0, slots := 0, locals := 0 } : Room) (va_Pc [.ref h] (cP G k [(h, .inr (9, [.ref d, .ref t, .int 0, .int 0, .int 0, .int 0, .int 0, .int (-1)]))] [] sz)) (va_Qq (fun (r : Option Nat) (_ : Unit) => (r = some d)) (cB G (fun (_ : Unit) => [(h, .inr (9, [.ref d, .ref t, .int 0, .int 0, .int 0, .int 0, .int 0, .int (-1)]))]) (fun (_ : Unit) => []) (va_A [(h, .inr (9, [.ref d, .ref t, .int 0, .int 0, .int 0, .int 0, .int 0, .int (-1)]))] sz)) (va_A [(h, .inr (9, [.ref d, .ref t, .int 0, .int 0, .int 0, .int 0, .int 0, .int (-1)]))] sz)) 0 0 (va_A [(h, .inr (9, [.ref d, .ref t, .int 0, .int 0, .int 0, .int 0, .int 0, .int (-1)]))] sz) := by
  refine ofC_q (cc := cX9_draft) (maxL := 1) (ret := (some (.object "TowerAppeal$Trust"))) (by decide) rfl (Nat.le_of_ble_eq_true rfl) ?_
  intro p e s m args below meth c A ls Q F hr hin hlk St hl hQ
  have hx := F.1
  have hb := F.2.1
  have hl : lv_has ls 1 [(0, .ref h)] := hl
  have St : cS G k [(h, .inr (9, [.ref d, .ref t, .int 0, .int 0, .int 0, .int 0, .int 0, .int (-1)]))] [] A s s.heap [] := St
  refine lv_aload_n hx hb dX9_draft_0 rfl (lv_at hl 0 rfl) ?_
  refine cs_get F St 0 rfl rfl inX9 0 (by decide) kf_X9_12 rfl dX9_draft_1 ?_
  exact cs_qret F hr (Or.inl ⟨_, rfl⟩) hlk hQ St () (some d) rfl rfl [0] rfl (by decide) [] rfl (by decide) (by decide) dX9_draft_4
set_option maxHeartbeats 4000000 in
set_option maxRecDepth 100000 in
theorem c9_faultKind (l : Launch) (G : va_G) (k : Nat → Nat) (sz : Nat) (h : Nat) (d : Nat) (t : Nat) : Met l yX9_faultKind (Cond.code yX9_faultKind cX9_faultKind 1 (some .int) :: tb) ({ frames := 0, cells := 0, slots := 0, locals := 0 } : Room) (va_Pc [.ref h] (cP G k [(h, .inr (9, [.ref d, .ref t, .int 0, .int 0, .int 0, .int 0, .int 0, .int (-1)]))] [] sz)) (va_Qi (fun (r : Int32) (_ : Unit) => (r = 0)) (cB G (fun (_ : Unit) => [(h, .inr (9, [.ref d, .ref t, .int 0, .int 0, .int 0, .int 0, .int 0, .int (-1)]))]) (fun (_ : Unit) => []) (va_A [(h, .inr (9, [.ref d, .ref t, .int 0, .int 0, .int 0, .int 0, .int 0, .int (-1)]))] sz)) (va_A [(h, .inr (9, [.ref d, .ref t, .int 0, .int 0, .int 0, .int 0, .int 0, .int (-1)]))] sz)) 0 0 (va_A [(h, .inr (9, [.ref d, .ref t, .int 0, .int 0, .int 0, .int 0, .int 0, .int (-1)]))] sz) := by
  refine ofC_i (cc := cX9_faultKind) (maxL := 1) (ret := (some .int)) (by decide) rfl (Nat.le_of_ble_eq_true rfl) ?_
  intro p e s m args below meth c A ls Q F hr hin hlk St hl hQ
  have hx := F.1
  have hb := F.2.1
  have hl : lv_has ls 1 [(0, .ref h)] := hl
  have St : cS G k [(h, .inr (9, [.ref d, .ref t, .int 0, .int 0, .int 0, .int 0, .int 0, .int (-1)]))] [] A s s.heap [] := St
  refine lv_aload_n hx hb dX9_faultKind_0 rfl (lv_at hl 0 rfl) ?_
  refine cs_get F St 0 rfl rfl inX9 6 (by decide) kf_X9_26 rfl dX9_faultKind_1 ?_
  exact cs_iret F hr hlk hQ St () (r := 0) rfl [0] rfl (by decide) [] rfl (by decide) (by decide) dX9_faultKind_4
set_option maxHeartbeats 4000000 in
set_option maxRecDepth 100000 in
theorem c9_faultPlace (l : Launch) (G : va_G) (k : Nat → Nat) (sz : Nat) (h : Nat) (d : Nat) (t : Nat) : Met l yX9_faultPlace (Cond.code yX9_faultPlace cX9_faultPlace 1 (some .int) :: tb) ({ frames := 0, cells := 0, slots := 0, locals := 0 } : Room) (va_Pc [.ref h] (cP G k [(h, .inr (9, [.ref d, .ref t, .int 0, .int 0, .int 0, .int 0, .int 0, .int (-1)]))] [] sz)) (va_Qi (fun (r : Int32) (_ : Unit) => (r = (-1))) (cB G (fun (_ : Unit) => [(h, .inr (9, [.ref d, .ref t, .int 0, .int 0, .int 0, .int 0, .int 0, .int (-1)]))]) (fun (_ : Unit) => []) (va_A [(h, .inr (9, [.ref d, .ref t, .int 0, .int 0, .int 0, .int 0, .int 0, .int (-1)]))] sz)) (va_A [(h, .inr (9, [.ref d, .ref t, .int 0, .int 0, .int 0, .int 0, .int 0, .int (-1)]))] sz)) 0 0 (va_A [(h, .inr (9, [.ref d, .ref t, .int 0, .int 0, .int 0, .int 0, .int 0, .int (-1)]))] sz) := by
  refine ofC_i (cc := cX9_faultPlace) (maxL := 1) (ret := (some .int)) (by decide) rfl (Nat.le_of_ble_eq_true rfl) ?_
  intro p e s m args below meth c A ls Q F hr hin hlk St hl hQ
  have hx := F.1
  have hb := F.2.1
  have hl : lv_has ls 1 [(0, .ref h)] := hl
  have St : cS G k [(h, .inr (9, [.ref d, .ref t, .int 0, .int 0, .int 0, .int 0, .int 0, .int (-1)]))] [] A s s.heap [] := St
  refine lv_aload_n hx hb dX9_faultPlace_0 rfl (lv_at hl 0 rfl) ?_
  refine cs_get F St 0 rfl rfl inX9 7 (by decide) kf_X9_22 rfl dX9_faultPlace_1 ?_
  exact cs_iret F hr hlk hQ St () (r := (-1)) rfl [0] rfl (by decide) [] rfl (by decide) (by decide) dX9_faultPlace_4
end
