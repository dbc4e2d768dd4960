section
-- ===== PART A: goes FIRST, ahead of the names: the tables' words, and 'selects' of the private methods out of them =====
/-- a private method of a class that the tables say can be made, by its rows of tables_1 -/
def lw_okq (q : MethodName × Nat) : Prop := (q.1.cls ≠ "java/lang/invoke/MethodHandle" ∧ q.1.cls ≠ "java/lang/invoke/VarHandle") ∧ Cond.instantiable q.1.cls q.2 ∈ tables_1 ∧ Cond.privateMethod q.1 ∈ tables_1 ∧ Cond.instanceMethod q.1 ∈ tables_1
theorem lw_p0 : lw_okq (⟨"RobotFaults", "openFaultCount", "()I"⟩, 11) := ⟨⟨by decide +kernel, by decide +kernel⟩, List.mem_of_getElem? (i := 19) (by decide +kernel), List.mem_of_getElem? (i := 123) (by decide +kernel), List.mem_of_getElem? (i := 124) (by decide +kernel)⟩
theorem lw_p1 : lw_okq (⟨"RobotFaults", "unheardAlarmCount", "()I"⟩, 11) := ⟨⟨by decide +kernel, by decide +kernel⟩, List.mem_of_getElem? (i := 19) (by decide +kernel), List.mem_of_getElem? (i := 131) (by decide +kernel), List.mem_of_getElem? (i := 132) (by decide +kernel)⟩
theorem lw_p2 : lw_okq (⟨"RobotFaults", "openSeconds", "()I"⟩, 11) := ⟨⟨by decide +kernel, by decide +kernel⟩, List.mem_of_getElem? (i := 19) (by decide +kernel), List.mem_of_getElem? (i := 135) (by decide +kernel), List.mem_of_getElem? (i := 136) (by decide +kernel)⟩
theorem lw_p3 : lw_okq (⟨"java/lang/Throwable", "fillInStackTrace", "(I)Ljava/lang/Throwable;"⟩, 6) := ⟨⟨by decide +kernel, by decide +kernel⟩, List.mem_of_getElem? (i := 195) (by decide +kernel), List.mem_of_getElem? (i := 193) (by decide +kernel), List.mem_of_getElem? (i := 194) (by decide +kernel)⟩
theorem lw_p4 : lw_okq (⟨"RobotFaults", "needPiece", "(I)V"⟩, 11) := ⟨⟨by decide +kernel, by decide +kernel⟩, List.mem_of_getElem? (i := 19) (by decide +kernel), List.mem_of_getElem? (i := 238) (by decide +kernel), List.mem_of_getElem? (i := 239) (by decide +kernel)⟩
theorem lw_p5 : lw_okq (⟨"RobotFaults", "robotAt", "(I)LRobotFaults$Robot;"⟩, 11) := ⟨⟨by decide +kernel, by decide +kernel⟩, List.mem_of_getElem? (i := 19) (by decide +kernel), List.mem_of_getElem? (i := 347) (by decide +kernel), List.mem_of_getElem? (i := 348) (by decide +kernel)⟩
theorem lw_p6 : lw_okq (⟨"RobotFaults", "hasRoomForFault", "()Z"⟩, 11) := ⟨⟨by decide +kernel, by decide +kernel⟩, List.mem_of_getElem? (i := 19) (by decide +kernel), List.mem_of_getElem? (i := 396) (by decide +kernel), List.mem_of_getElem? (i := 397) (by decide +kernel)⟩
theorem lw_p7 : lw_okq (⟨"RobotFaults", "openOrNewFault", "(LRobotFaults$Robot;IZ)I"⟩, 11) := ⟨⟨by decide +kernel, by decide +kernel⟩, List.mem_of_getElem? (i := 19) (by decide +kernel), List.mem_of_getElem? (i := 401) (by decide +kernel), List.mem_of_getElem? (i := 402) (by decide +kernel)⟩
theorem lw_p8 : lw_okq (⟨"RobotFaults", "openFault", "(LRobotFaults$Robot;I)LRobotFaults$Fault;"⟩, 11) := ⟨⟨by decide +kernel, by decide +kernel⟩, List.mem_of_getElem? (i := 19) (by decide +kernel), List.mem_of_getElem? (i := 405) (by decide +kernel), List.mem_of_getElem? (i := 406) (by decide +kernel)⟩
theorem lw_p9 : lw_okq (⟨"RobotFaults", "newFault", "(LRobotFaults$Robot;IZ)I"⟩, 11) := ⟨⟨by decide +kernel, by decide +kernel⟩, List.mem_of_getElem? (i := 19) (by decide +kernel), List.mem_of_getElem? (i := 409) (by decide +kernel), List.mem_of_getElem? (i := 410) (by decide +kernel)⟩
theorem lw_p10 : lw_okq (⟨"RobotFaults", "alarmFor", "(LRobotFaults$Fault;I)I"⟩, 11) := ⟨⟨by decide +kernel, by decide +kernel⟩, List.mem_of_getElem? (i := 19) (by decide +kernel), List.mem_of_getElem? (i := 465) (by decide +kernel), List.mem_of_getElem? (i := 466) (by decide +kernel)⟩
theorem lw_p11 : lw_okq (⟨"RobotFaults", "latestAlarm", "(LRobotFaults$Robot;I)LRobotFaults$Alarm;"⟩, 11) := ⟨⟨by decide +kernel, by decide +kernel⟩, List.mem_of_getElem? (i := 19) (by decide +kernel), List.mem_of_getElem? (i := 469) (by decide +kernel), List.mem_of_getElem? (i := 470) (by decide +kernel)⟩
theorem lw_p12 : lw_okq (⟨"RobotFaults", "faultAt", "(I)LRobotFaults$Fault;"⟩, 11) := ⟨⟨by decide +kernel, by decide +kernel⟩, List.mem_of_getElem? (i := 19) (by decide +kernel), List.mem_of_getElem? (i := 526) (by decide +kernel), List.mem_of_getElem? (i := 527) (by decide +kernel)⟩
theorem lw_p13 : lw_okq (⟨"RobotFaults", "openKinds", "(LRobotFaults$Robot;)I"⟩, 11) := ⟨⟨by decide +kernel, by decide +kernel⟩, List.mem_of_getElem? (i := 19) (by decide +kernel), List.mem_of_getElem? (i := 555) (by decide +kernel), List.mem_of_getElem? (i := 556) (by decide +kernel)⟩
theorem lw_p14 : lw_okq (⟨"RobotFaults", "piecesOfLost", "(LRobotFaults$Robot;)I"⟩, 11) := ⟨⟨by decide +kernel, by decide +kernel⟩, List.mem_of_getElem? (i := 19) (by decide +kernel), List.mem_of_getElem? (i := 580) (by decide +kernel), List.mem_of_getElem? (i := 581) (by decide +kernel)⟩
theorem lw_p15 : lw_okq (⟨"RobotFaults$Track", "around", "(I)I"⟩, 2) := ⟨⟨by decide +kernel, by decide +kernel⟩, List.mem_of_getElem? (i := 27) (by decide +kernel), List.mem_of_getElem? (i := 588) (by decide +kernel), List.mem_of_getElem? (i := 589) (by decide +kernel)⟩
def lw_privs_1 : List (MethodName × Nat) := [(⟨"RobotFaults", "openFaultCount", "()I"⟩, 11), (⟨"RobotFaults", "unheardAlarmCount", "()I"⟩, 11), (⟨"RobotFaults", "openSeconds", "()I"⟩, 11), (⟨"java/lang/Throwable", "fillInStackTrace", "(I)Ljava/lang/Throwable;"⟩, 6), (⟨"RobotFaults", "needPiece", "(I)V"⟩, 11), (⟨"RobotFaults", "robotAt", "(I)LRobotFaults$Robot;"⟩, 11), (⟨"RobotFaults", "hasRoomForFault", "()Z"⟩, 11), (⟨"RobotFaults", "openOrNewFault", "(LRobotFaults$Robot;IZ)I"⟩, 11), (⟨"RobotFaults", "openFault", "(LRobotFaults$Robot;I)LRobotFaults$Fault;"⟩, 11), (⟨"RobotFaults", "newFault", "(LRobotFaults$Robot;IZ)I"⟩, 11), (⟨"RobotFaults", "alarmFor", "(LRobotFaults$Fault;I)I"⟩, 11), (⟨"RobotFaults", "latestAlarm", "(LRobotFaults$Robot;I)LRobotFaults$Alarm;"⟩, 11), (⟨"RobotFaults", "faultAt", "(I)LRobotFaults$Fault;"⟩, 11), (⟨"RobotFaults", "openKinds", "(LRobotFaults$Robot;)I"⟩, 11), (⟨"RobotFaults", "piecesOfLost", "(LRobotFaults$Robot;)I"⟩, 11), (⟨"RobotFaults$Track", "around", "(I)I"⟩, 2)]
theorem lw_r1 : ∀ q ∈ lw_privs_1, lw_okq q := List.forall_mem_cons.mpr ⟨lw_p0, List.forall_mem_cons.mpr ⟨lw_p1, List.forall_mem_cons.mpr ⟨lw_p2, List.forall_mem_cons.mpr ⟨lw_p3, List.forall_mem_cons.mpr ⟨lw_p4, List.forall_mem_cons.mpr ⟨lw_p5, List.forall_mem_cons.mpr ⟨lw_p6, List.forall_mem_cons.mpr ⟨lw_p7, List.forall_mem_cons.mpr ⟨lw_p8, List.forall_mem_cons.mpr ⟨lw_p9, List.forall_mem_cons.mpr ⟨lw_p10, List.forall_mem_cons.mpr ⟨lw_p11, List.forall_mem_cons.mpr ⟨lw_p12, List.forall_mem_cons.mpr ⟨lw_p13, List.forall_mem_cons.mpr ⟨lw_p14, List.forall_mem_cons.mpr ⟨lw_p15, fun _ h => absurd h List.not_mem_nil⟩⟩⟩⟩⟩⟩⟩⟩⟩⟩⟩⟩⟩⟩⟩⟩
theorem lw_p16 : lw_okq (⟨"RobotFaults", "nextBusySecond", "(I)I"⟩, 11) := ⟨⟨by decide +kernel, by decide +kernel⟩, List.mem_of_getElem? (i := 19) (by decide +kernel), List.mem_of_getElem? (i := 650) (by decide +kernel), List.mem_of_getElem? (i := 651) (by decide +kernel)⟩
theorem lw_p17 : lw_okq (⟨"RobotFaults", "letPlantedCome", "()V"⟩, 11) := ⟨⟨by decide +kernel, by decide +kernel⟩, List.mem_of_getElem? (i := 19) (by decide +kernel), List.mem_of_getElem? (i := 667) (by decide +kernel), List.mem_of_getElem? (i := 668) (by decide +kernel)⟩
theorem lw_p18 : lw_okq (⟨"RobotFaults", "bring", "(LRobotFaults$Planted;)V"⟩, 11) := ⟨⟨by decide +kernel, by decide +kernel⟩, List.mem_of_getElem? (i := 19) (by decide +kernel), List.mem_of_getElem? (i := 671) (by decide +kernel), List.mem_of_getElem? (i := 672) (by decide +kernel)⟩
theorem lw_p19 : lw_okq (⟨"RobotFaults", "raiseAlarms", "()I"⟩, 11) := ⟨⟨by decide +kernel, by decide +kernel⟩, List.mem_of_getElem? (i := 19) (by decide +kernel), List.mem_of_getElem? (i := 675) (by decide +kernel), List.mem_of_getElem? (i := 676) (by decide +kernel)⟩
theorem lw_p20 : lw_okq (⟨"RobotFaults", "alarmAt", "(I)LRobotFaults$Alarm;"⟩, 11) := ⟨⟨by decide +kernel, by decide +kernel⟩, List.mem_of_getElem? (i := 19) (by decide +kernel), List.mem_of_getElem? (i := 690) (by decide +kernel), List.mem_of_getElem? (i := 691) (by decide +kernel)⟩
theorem lw_p21 : lw_okq (⟨"RobotFaultsModel", "isPiece", "(I)Z"⟩, 38) := ⟨⟨by decide +kernel, by decide +kernel⟩, List.mem_of_getElem? (i := 720) (by decide +kernel), List.mem_of_getElem? (i := 854) (by decide +kernel), List.mem_of_getElem? (i := 855) (by decide +kernel)⟩
theorem lw_p22 : lw_okq (⟨"RobotFaultsModel", "isRobot", "(I)Z"⟩, 38) := ⟨⟨by decide +kernel, by decide +kernel⟩, List.mem_of_getElem? (i := 720) (by decide +kernel), List.mem_of_getElem? (i := 876) (by decide +kernel), List.mem_of_getElem? (i := 877) (by decide +kernel)⟩
theorem lw_p23 : lw_okq (⟨"RobotFaultsModel", "bars", "(II)I"⟩, 38) := ⟨⟨by decide +kernel, by decide +kernel⟩, List.mem_of_getElem? (i := 720) (by decide +kernel), List.mem_of_getElem? (i := 888) (by decide +kernel), List.mem_of_getElem? (i := 889) (by decide +kernel)⟩
theorem lw_p24 : lw_okq (⟨"RobotFaultsModel", "come", "(IIZ)I"⟩, 38) := ⟨⟨by decide +kernel, by decide +kernel⟩, List.mem_of_getElem? (i := 720) (by decide +kernel), List.mem_of_getElem? (i := 892) (by decide +kernel), List.mem_of_getElem? (i := 893) (by decide +kernel)⟩
theorem lw_p25 : lw_okq (⟨"RobotFaultsModel", "openOf", "(II)I"⟩, 38) := ⟨⟨by decide +kernel, by decide +kernel⟩, List.mem_of_getElem? (i := 720) (by decide +kernel), List.mem_of_getElem? (i := 896) (by decide +kernel), List.mem_of_getElem? (i := 897) (by decide +kernel)⟩
theorem lw_p26 : lw_okq (⟨"RobotFaultsModel", "alarmFor", "(II)I"⟩, 38) := ⟨⟨by decide +kernel, by decide +kernel⟩, List.mem_of_getElem? (i := 720) (by decide +kernel), List.mem_of_getElem? (i := 900) (by decide +kernel), List.mem_of_getElem? (i := 901) (by decide +kernel)⟩
theorem lw_p27 : lw_okq (⟨"RobotFaultsModel", "isFault", "(I)Z"⟩, 38) := ⟨⟨by decide +kernel, by decide +kernel⟩, List.mem_of_getElem? (i := 720) (by decide +kernel), List.mem_of_getElem? (i := 908) (by decide +kernel), List.mem_of_getElem? (i := 909) (by decide +kernel)⟩
theorem lw_p28 : lw_okq (⟨"RobotFaultsModel", "openKinds", "(I)I"⟩, 38) := ⟨⟨by decide +kernel, by decide +kernel⟩, List.mem_of_getElem? (i := 720) (by decide +kernel), List.mem_of_getElem? (i := 919) (by decide +kernel), List.mem_of_getElem? (i := 920) (by decide +kernel)⟩
theorem lw_p29 : lw_okq (⟨"RobotFaultsModel", "mayBe", "(II)Z"⟩, 38) := ⟨⟨by decide +kernel, by decide +kernel⟩, List.mem_of_getElem? (i := 720) (by decide +kernel), List.mem_of_getElem? (i := 931) (by decide +kernel), List.mem_of_getElem? (i := 932) (by decide +kernel)⟩
theorem lw_p30 : lw_okq (⟨"RobotFaultsModel", "reach", "(I)V"⟩, 38) := ⟨⟨by decide +kernel, by decide +kernel⟩, List.mem_of_getElem? (i := 720) (by decide +kernel), List.mem_of_getElem? (i := 935) (by decide +kernel), List.mem_of_getElem? (i := 936) (by decide +kernel)⟩
theorem lw_p31 : lw_okq (⟨"RobotFaultsModel", "comePlanted", "()V"⟩, 38) := ⟨⟨by decide +kernel, by decide +kernel⟩, List.mem_of_getElem? (i := 720) (by decide +kernel), List.mem_of_getElem? (i := 956) (by decide +kernel), List.mem_of_getElem? (i := 957) (by decide +kernel)⟩
def lw_privs_2 : List (MethodName × Nat) := [(⟨"RobotFaults", "nextBusySecond", "(I)I"⟩, 11), (⟨"RobotFaults", "letPlantedCome", "()V"⟩, 11), (⟨"RobotFaults", "bring", "(LRobotFaults$Planted;)V"⟩, 11), (⟨"RobotFaults", "raiseAlarms", "()I"⟩, 11), (⟨"RobotFaults", "alarmAt", "(I)LRobotFaults$Alarm;"⟩, 11), (⟨"RobotFaultsModel", "isPiece", "(I)Z"⟩, 38), (⟨"RobotFaultsModel", "isRobot", "(I)Z"⟩, 38), (⟨"RobotFaultsModel", "bars", "(II)I"⟩, 38), (⟨"RobotFaultsModel", "come", "(IIZ)I"⟩, 38), (⟨"RobotFaultsModel", "openOf", "(II)I"⟩, 38), (⟨"RobotFaultsModel", "alarmFor", "(II)I"⟩, 38), (⟨"RobotFaultsModel", "isFault", "(I)Z"⟩, 38), (⟨"RobotFaultsModel", "openKinds", "(I)I"⟩, 38), (⟨"RobotFaultsModel", "mayBe", "(II)Z"⟩, 38), (⟨"RobotFaultsModel", "reach", "(I)V"⟩, 38), (⟨"RobotFaultsModel", "comePlanted", "()V"⟩, 38)]
theorem lw_r2 : ∀ q ∈ lw_privs_2, lw_okq q := List.forall_mem_cons.mpr ⟨lw_p16, List.forall_mem_cons.mpr ⟨lw_p17, List.forall_mem_cons.mpr ⟨lw_p18, List.forall_mem_cons.mpr ⟨lw_p19, List.forall_mem_cons.mpr ⟨lw_p20, List.forall_mem_cons.mpr ⟨lw_p21, List.forall_mem_cons.mpr ⟨lw_p22, List.forall_mem_cons.mpr ⟨lw_p23, List.forall_mem_cons.mpr ⟨lw_p24, List.forall_mem_cons.mpr ⟨lw_p25, List.forall_mem_cons.mpr ⟨lw_p26, List.forall_mem_cons.mpr ⟨lw_p27, List.forall_mem_cons.mpr ⟨lw_p28, List.forall_mem_cons.mpr ⟨lw_p29, List.forall_mem_cons.mpr ⟨lw_p30, List.forall_mem_cons.mpr ⟨lw_p31, fun _ h => absurd h List.not_mem_nil⟩⟩⟩⟩⟩⟩⟩⟩⟩⟩⟩⟩⟩⟩⟩⟩
theorem lw_p32 : lw_okq (⟨"RobotFaultsModel", "isAlarm", "(I)Z"⟩, 38) := ⟨⟨by decide +kernel, by decide +kernel⟩, List.mem_of_getElem? (i := 720) (by decide +kernel), List.mem_of_getElem? (i := 964) (by decide +kernel), List.mem_of_getElem? (i := 965) (by decide +kernel)⟩
def lw_privs_3 : List (MethodName × Nat) := [(⟨"RobotFaultsModel", "isAlarm", "(I)Z"⟩, 38)]
theorem lw_r3 : ∀ q ∈ lw_privs_3, lw_okq q := List.forall_mem_cons.mpr ⟨lw_p32, fun _ h => absurd h List.not_mem_nil⟩
def lw_privs : List (MethodName × Nat) := lw_privs_1 ++ (lw_privs_2 ++ (lw_privs_3))
def lw_tbl : List Cond := k2_sels lw_privs ++ tables_1
theorem lw_privs_ok : ∀ q ∈ lw_privs, lw_okq q := by
  show ∀ q ∈ lw_privs_1 ++ (lw_privs_2 ++ (lw_privs_3)), lw_okq q
  exact List.forall_mem_append.mpr ⟨lw_r1, List.forall_mem_append.mpr ⟨lw_r2, lw_r3⟩⟩
-- ===== end of PART A; then your names; then what follows =====
/-- a word that stays true as the tables get warmer -/
def os_ok (w : Cond) : Bool := (goodWord w && w.onTables) || (match w with
  | .fieldLinkNest .. => true
  | .methodLinkNest .. => true
  | .castable .. => true
  | .declares .. => true
  | _ => false)
def os_tb : List Cond := lw_tbl.filter os_ok
theorem os_tb_ok (w : Cond) (h : w ∈ os_tb) : os_ok w = true := (List.mem_filter.mp h).2
theorem os_in {w : Cond} {i : Nat} (h : lw_tbl[i]? = some w) (ho : os_ok w = true) : w ∈ os_tb := List.mem_filter.mpr ⟨List.mem_of_getElem? h, ho⟩
theorem os_sub {L : List Cond} (h1 : ∀ w ∈ L, w ∈ lw_tbl) (h2 : L.all os_ok = true) : ∀ w ∈ L, w ∈ os_tb := fun w h => List.mem_filter.mpr ⟨h1 w h, List.all_eq_true.mp h2 w h⟩
end
section
/-! NAMES AND THE SCHEMA: printed by wip/gen/names.py -/
def F_RF : u_T := fun k => match k with
  | 0 => ("RobotFaults", "track", "LRobotFaults$Track;", true)
  | 1 => ("RobotFaults", "rules", "[LRobotFaults$Rule;", true)
  | 2 => ("RobotFaults", "robots", "[LRobotFaults$Robot;", true)
  | 3 => ("RobotFaults", "faults", "[LRobotFaults$Fault;", true)
  | 4 => ("RobotFaults", "alarms", "[LRobotFaults$Alarm;", true)
  | 5 => ("RobotFaults", "plants", "[LRobotFaults$Planted;", true)
  | 6 => ("RobotFaults", "robotCount", "I", false)
  | 7 => ("RobotFaults", "faultCount", "I", false)
  | 8 => ("RobotFaults", "alarmCount", "I", false)
  | 9 => ("RobotFaults", "plantCount", "I", false)
  | _ => ("RobotFaults", "time", "I", false)
def t_RF : Nat → FieldType := fun k => match k with
  | 0 => .object "RobotFaults$Track"
  | 1 => .array (.object "RobotFaults$Rule")
  | 2 => .array (.object "RobotFaults$Robot")
  | 3 => .array (.object "RobotFaults$Fault")
  | 4 => .array (.object "RobotFaults$Alarm")
  | 5 => .array (.object "RobotFaults$Planted")
  | 6 => .int
  | 7 => .int
  | 8 => .int
  | 9 => .int
  | _ => .int
theorem n_RF : ∀ a, a < 11 → ∀ b, b < 11 → a ≠ b → (F_RF a).2.1 ≠ (F_RF b).2.1 := by decide +kernel
theorem t_RF_ok : ∀ k, k < 11 → parseFieldDescriptor (F_RF k).2.2.1 = some (t_RF k) := by decide +kernel
theorem i_RF : ∀ w ∈ u_ws "RobotFaults" F_RF 11, w ∈ os_tb := os_sub (by decide +kernel) (by decide +kernel)
def F_Track : u_T := fun k => match k with
  | 0 => ("RobotFaults$Track", "neighbours", "[I", true)
  | _ => ("RobotFaults$Track", "size", "I", false)
def t_Track : Nat → FieldType := fun k => match k with
  | 0 => .array .int
  | _ => .int
theorem n_Track : ∀ a, a < 2 → ∀ b, b < 2 → a ≠ b → (F_Track a).2.1 ≠ (F_Track b).2.1 := by decide +kernel
theorem t_Track_ok : ∀ k, k < 2 → parseFieldDescriptor (F_Track k).2.2.1 = some (t_Track k) := by decide +kernel
theorem i_Track : ∀ w ∈ u_ws "RobotFaults$Track" F_Track 2, w ∈ os_tb := os_sub (by decide +kernel) (by decide +kernel)
def F_Rule : u_T := fun k => match k with
  | 0 => ("RobotFaults$Rule", "persons", "I", false)
  | 1 => ("RobotFaults$Rule", "test", "Z", false)
  | _ => ("RobotFaults$Rule", "rank", "I", false)
def t_Rule : Nat → FieldType := fun k => match k with
  | 0 => .int
  | 1 => .boolean
  | _ => .int
theorem n_Rule : ∀ a, a < 3 → ∀ b, b < 3 → a ≠ b → (F_Rule a).2.1 ≠ (F_Rule b).2.1 := by decide +kernel
theorem t_Rule_ok : ∀ k, k < 3 → parseFieldDescriptor (F_Rule k).2.2.1 = some (t_Rule k) := by decide +kernel
theorem i_Rule : ∀ w ∈ u_ws "RobotFaults$Rule" F_Rule 3, w ∈ os_tb := os_sub (by decide +kernel) (by decide +kernel)
def F_Robot : u_T := fun k => match k with
  | 0 => ("RobotFaults$Robot", "number", "I", true)
  | 1 => ("RobotFaults$Robot", "piece", "I", false)
  | 2 => ("RobotFaults$Robot", "state", "I", false)
  | 3 => ("RobotFaults$Robot", "unit", "I", false)
  | 4 => ("RobotFaults$Robot", "wantsTest", "Z", false)
  | _ => ("RobotFaults$Robot", "lostSecond", "I", false)
def t_Robot : Nat → FieldType := fun k => match k with
  | 0 => .int
  | 1 => .int
  | 2 => .int
  | 3 => .int
  | 4 => .boolean
  | _ => .int
theorem n_Robot : ∀ a, a < 6 → ∀ b, b < 6 → a ≠ b → (F_Robot a).2.1 ≠ (F_Robot b).2.1 := by decide +kernel
theorem t_Robot_ok : ∀ k, k < 6 → parseFieldDescriptor (F_Robot k).2.2.1 = some (t_Robot k) := by decide +kernel
theorem i_Robot : ∀ w ∈ u_ws "RobotFaults$Robot" F_Robot 6, w ∈ os_tb := os_sub (by decide +kernel) (by decide +kernel)
def F_Fault : u_T := fun k => match k with
  | 0 => ("RobotFaults$Fault", "number", "I", true)
  | 1 => ("RobotFaults$Fault", "robot", "LRobotFaults$Robot;", true)
  | 2 => ("RobotFaults$Fault", "kind", "I", true)
  | 3 => ("RobotFaults$Fault", "second", "I", true)
  | 4 => ("RobotFaults$Fault", "persons", "I", true)
  | 5 => ("RobotFaults$Fault", "planted", "Z", true)
  | 6 => ("RobotFaults$Fault", "piece", "I", true)
  | 7 => ("RobotFaults$Fault", "lostUnit", "I", true)
  | 8 => ("RobotFaults$Fault", "alarm", "I", false)
  | 9 => ("RobotFaults$Fault", "steps", "I", false)
  | _ => ("RobotFaults$Fault", "resetSecond", "I", false)
def t_Fault : Nat → FieldType := fun k => match k with
  | 0 => .int
  | 1 => .object "RobotFaults$Robot"
  | 2 => .int
  | 3 => .int
  | 4 => .int
  | 5 => .boolean
  | 6 => .int
  | 7 => .int
  | 8 => .int
  | 9 => .int
  | _ => .int
theorem n_Fault : ∀ a, a < 11 → ∀ b, b < 11 → a ≠ b → (F_Fault a).2.1 ≠ (F_Fault b).2.1 := by decide +kernel
theorem t_Fault_ok : ∀ k, k < 11 → parseFieldDescriptor (F_Fault k).2.2.1 = some (t_Fault k) := by decide +kernel
theorem i_Fault : ∀ w ∈ u_ws "RobotFaults$Fault" F_Fault 11, w ∈ os_tb := os_sub (by decide +kernel) (by decide +kernel)
def F_Alarm : u_T := fun k => match k with
  | 0 => ("RobotFaults$Alarm", "number", "I", true)
  | 1 => ("RobotFaults$Alarm", "robot", "LRobotFaults$Robot;", true)
  | 2 => ("RobotFaults$Alarm", "kind", "I", true)
  | 3 => ("RobotFaults$Alarm", "rank", "I", true)
  | 4 => ("RobotFaults$Alarm", "level", "I", false)
  | 5 => ("RobotFaults$Alarm", "joined", "I", false)
  | 6 => ("RobotFaults$Alarm", "person", "I", false)
  | _ => ("RobotFaults$Alarm", "last", "LRobotFaults$Fault;", false)
def t_Alarm : Nat → FieldType := fun k => match k with
  | 0 => .int
  | 1 => .object "RobotFaults$Robot"
  | 2 => .int
  | 3 => .int
  | 4 => .int
  | 5 => .int
  | 6 => .int
  | _ => .object "RobotFaults$Fault"
theorem n_Alarm : ∀ a, a < 8 → ∀ b, b < 8 → a ≠ b → (F_Alarm a).2.1 ≠ (F_Alarm b).2.1 := by decide +kernel
theorem t_Alarm_ok : ∀ k, k < 8 → parseFieldDescriptor (F_Alarm k).2.2.1 = some (t_Alarm k) := by decide +kernel
theorem i_Alarm : ∀ w ∈ u_ws "RobotFaults$Alarm" F_Alarm 8, w ∈ os_tb := os_sub (by decide +kernel) (by decide +kernel)
def F_Planted : u_T := fun k => match k with
  | 0 => ("RobotFaults$Planted", "robot", "LRobotFaults$Robot;", true)
  | 1 => ("RobotFaults$Planted", "kind", "I", true)
  | _ => ("RobotFaults$Planted", "second", "I", true)
def t_Planted : Nat → FieldType := fun k => match k with
  | 0 => .object "RobotFaults$Robot"
  | 1 => .int
  | _ => .int
theorem n_Planted : ∀ a, a < 3 → ∀ b, b < 3 → a ≠ b → (F_Planted a).2.1 ≠ (F_Planted b).2.1 := by decide +kernel
theorem t_Planted_ok : ∀ k, k < 3 → parseFieldDescriptor (F_Planted k).2.2.1 = some (t_Planted k) := by decide +kernel
theorem i_Planted : ∀ w ∈ u_ws "RobotFaults$Planted" F_Planted 3, w ∈ os_tb := os_sub (by decide +kernel) (by decide +kernel)
def F_Model : u_T := fun k => match k with
  | 0 => ("RobotFaultsModel", "code", "I", false)
  | 1 => ("RobotFaultsModel", "time", "I", false)
  | 2 => ("RobotFaultsModel", "pieces", "I", false)
  | 3 => ("RobotFaultsModel", "linked", "[Z", true)
  | 4 => ("RobotFaultsModel", "robots", "I", false)
  | 5 => ("RobotFaultsModel", "at", "[I", true)
  | 6 => ("RobotFaultsModel", "unit", "[I", true)
  | 7 => ("RobotFaultsModel", "state", "[I", true)
  | 8 => ("RobotFaultsModel", "wantsTest", "[Z", true)
  | 9 => ("RobotFaultsModel", "lostSince", "[I", true)
  | 10 => ("RobotFaultsModel", "persons", "[I", true)
  | 11 => ("RobotFaultsModel", "tests", "[Z", true)
  | 12 => ("RobotFaultsModel", "ranks", "[I", true)
  | 13 => ("RobotFaultsModel", "faults", "I", false)
  | 14 => ("RobotFaultsModel", "robotOf", "[I", true)
  | 15 => ("RobotFaultsModel", "kindOf", "[I", true)
  | 16 => ("RobotFaultsModel", "since", "[I", true)
  | 17 => ("RobotFaultsModel", "until", "[I", true)
  | 18 => ("RobotFaultsModel", "alarmOf", "[I", true)
  | 19 => ("RobotFaultsModel", "steps", "[I", true)
  | 20 => ("RobotFaultsModel", "wants", "[I", true)
  | 21 => ("RobotFaultsModel", "planted", "[Z", true)
  | 22 => ("RobotFaultsModel", "where", "[I", true)
  | 23 => ("RobotFaultsModel", "lostUnit", "[I", true)
  | 24 => ("RobotFaultsModel", "alarms", "I", false)
  | 25 => ("RobotFaultsModel", "alarmRobot", "[I", true)
  | 26 => ("RobotFaultsModel", "alarmKind", "[I", true)
  | 27 => ("RobotFaultsModel", "alarmRank", "[I", true)
  | 28 => ("RobotFaultsModel", "level", "[I", true)
  | 29 => ("RobotFaultsModel", "joined", "[I", true)
  | 30 => ("RobotFaultsModel", "person", "[I", true)
  | 31 => ("RobotFaultsModel", "lastSecond", "[I", true)
  | 32 => ("RobotFaultsModel", "lastFault", "[I", true)
  | 33 => ("RobotFaultsModel", "plants", "I", false)
  | 34 => ("RobotFaultsModel", "plantRobot", "[I", true)
  | 35 => ("RobotFaultsModel", "plantKind", "[I", true)
  | 36 => ("RobotFaultsModel", "plantTime", "[I", true)
  | _ => ("RobotFaultsModel", "far", "[I", true)
def t_Model : Nat → FieldType := fun k => match k with
  | 0 => .int
  | 1 => .int
  | 2 => .int
  | 3 => .array .boolean
  | 4 => .int
  | 5 => .array .int
  | 6 => .array .int
  | 7 => .array .int
  | 8 => .array .boolean
  | 9 => .array .int
  | 10 => .array .int
  | 11 => .array .boolean
  | 12 => .array .int
  | 13 => .int
  | 14 => .array .int
  | 15 => .array .int
  | 16 => .array .int
  | 17 => .array .int
  | 18 => .array .int
  | 19 => .array .int
  | 20 => .array .int
  | 21 => .array .boolean
  | 22 => .array .int
  | 23 => .array .int
  | 24 => .int
  | 25 => .array .int
  | 26 => .array .int
  | 27 => .array .int
  | 28 => .array .int
  | 29 => .array .int
  | 30 => .array .int
  | 31 => .array .int
  | 32 => .array .int
  | 33 => .int
  | 34 => .array .int
  | 35 => .array .int
  | 36 => .array .int
  | _ => .array .int
theorem n_Model : ∀ a, a < 38 → ∀ b, b < 38 → a ≠ b → (F_Model a).2.1 ≠ (F_Model b).2.1 := by decide +kernel
theorem t_Model_ok : ∀ k, k < 38 → parseFieldDescriptor (F_Model k).2.2.1 = some (t_Model k) := by decide +kernel
theorem i_Model : ∀ w ∈ u_ws "RobotFaultsModel" F_Model 38, w ∈ os_tb := os_sub (by decide +kernel) (by decide +kernel)
abbrev os_cl : List vw_C := [("RobotFaults", F_RF, 11), ("RobotFaults$Track", F_Track, 2), ("RobotFaults$Rule", F_Rule, 3), ("RobotFaults$Robot", F_Robot, 6), ("RobotFaults$Fault", F_Fault, 11), ("RobotFaults$Alarm", F_Alarm, 8), ("RobotFaults$Planted", F_Planted, 3), ("RobotFaultsModel", F_Model, 38)]
/-- a kind's layout: an object of the k-th class of os_cl, its fields ints (none) or references to a kind; or an array -/
def os_sc (K : Nat) : (Nat × List (Option Nat)) ⊕ (Nat × Option Nat) := match K with
  | 0 => .inl (0, [some 1, some 3, some 4, some 5, some 6, some 7, none, none, none, none, none]) -- RF
  | 1 => .inl (1, [some 2, none]) -- Track
  | 2 => .inr (0, none) -- nb
  | 3 => .inr (3, some 8) -- rules
  | 4 => .inr (4, some 9) -- robots
  | 5 => .inr (5, some 10) -- faults
  | 6 => .inr (6, some 11) -- alarms
  | 7 => .inr (7, some 12) -- plants
  | 8 => .inl (2, [none, none, none]) -- Rule
  | 9 => .inl (3, [none, none, none, none, none, none]) -- Robot
  | 10 => .inl (4, [none, some 9, none, none, none, none, none, none, none, none, none]) -- Fault
  | 11 => .inl (5, [none, some 9, none, none, none, none, none, some 10]) -- Alarm
  | 12 => .inl (6, [some 9, none, none]) -- Planted
  | 13 => .inl (7, [none, none, none, some 14, none, some 15, some 16, some 17, some 18, some 19, some 20, some 21, some 22, none, some 23, some 24, some 25, some 26, some 27, some 28, some 29, some 30, some 31, some 32, none, some 33, some 34, some 35, some 36, some 37, some 38, some 39, some 40, none, some 41, some 42, some 43, some 44]) -- Model
  | 14 => .inr (1, none) -- m_linked
  | 15 => .inr (0, none) -- m_at
  | 16 => .inr (0, none) -- m_unit
  | 17 => .inr (0, none) -- m_state
  | 18 => .inr (1, none) -- m_wantsTest
  | 19 => .inr (0, none) -- m_lostSince
  | 20 => .inr (0, none) -- m_persons
  | 21 => .inr (1, none) -- m_tests
  | 22 => .inr (0, none) -- m_ranks
  | 23 => .inr (0, none) -- m_robotOf
  | 24 => .inr (0, none) -- m_kindOf
  | 25 => .inr (0, none) -- m_since
  | 26 => .inr (0, none) -- m_until
  | 27 => .inr (0, none) -- m_alarmOf
  | 28 => .inr (0, none) -- m_steps
  | 29 => .inr (0, none) -- m_wants
  | 30 => .inr (1, none) -- m_planted
  | 31 => .inr (0, none) -- m_where
  | 32 => .inr (0, none) -- m_lostUnit
  | 33 => .inr (0, none) -- m_alarmRobot
  | 34 => .inr (0, none) -- m_alarmKind
  | 35 => .inr (0, none) -- m_alarmRank
  | 36 => .inr (0, none) -- m_level
  | 37 => .inr (0, none) -- m_joined
  | 38 => .inr (0, none) -- m_person
  | 39 => .inr (0, none) -- m_lastSecond
  | 40 => .inr (0, none) -- m_lastFault
  | 41 => .inr (0, none) -- m_plantRobot
  | 42 => .inr (0, none) -- m_plantKind
  | 43 => .inr (0, none) -- m_plantTime
  | 44 => .inr (0, none) -- m_far
  | 45 => .inr (2, none) -- out
  | _ => .inr (0, none)
/-- the kind whose ints stand as longs -/
def os_lg (K : Nat) : Bool := K == 45
def os_tys (cA : Nat → ClassId) : List (ClassId × FieldType) := [(cA 0, .int), (cA 1, .boolean), (cA 2, .long), (cA 3, .object "RobotFaults$Rule"), (cA 4, .object "RobotFaults$Robot"), (cA 5, .object "RobotFaults$Fault"), (cA 6, .object "RobotFaults$Alarm"), (cA 7, .object "RobotFaults$Planted")]
def os_str : List (String × Nat × String) := [("RobotFaults", 53, "no room for another piece"), ("RobotFaults", 304, "there is no such piece"), ("RobotFaults", 68, "a piece is not linked with itself"), ("RobotFaults", 79, "no room for another robot"), ("RobotFaults", 313, "a kind is 0 to 7"), ("RobotFaults", 89, "one person resets, or two do"), ("RobotFaults", 91, "a rank is 1 to 5"), ("RobotFaults", 307, "there is no such robot"), ("RobotFaults", 106, "the robot is not going"), ("RobotFaults", 116, "the pieces are not linked"), ("RobotFaults", 118, "a unit is 0 to 99, or -1 for none"), ("RobotFaults", 120, "the robot is lost"), ("RobotFaults", 129, "the robot carries nothing that it could lose"), ("RobotFaults", 134, "no room for another fault"), ("RobotFaults", 309, "there is no such fault"), ("RobotFaults", 315, "a person is 0 to 7"), ("RobotFaults", 150, "the fault is reset"), ("RobotFaults", 164, "a robot that is going or lost is not tested"), ("RobotFaults", 170, "the robot has an open fault"), ("RobotFaults", 176, "the robot is going"), ("RobotFaults", 178, "places are counted from 0"), ("RobotFaults", 317, "the robot is not lost"), ("RobotFaults", 187, "the robot may not be on this piece"), ("RobotFaults", 193, "only a stopped or towed robot is towed"), ("RobotFaults", 195, "a fault is planted 1 to 1000 seconds ahead"), ("RobotFaults", 200, "no room for another planted fault"), ("RobotFaults", 205, "0 to 1000 seconds go by"), ("RobotFaults", 208, "time ends at 100000"), ("RobotFaults", 311, "there is no such alarm"), ("RobotFaults", 227, "somebody acknowledged the alarm"), ("RobotFaults", 255, "of an alarm 0 to 6 is asked"), ("RobotFaults", 272, "of a fault 0 to 8 is asked"), ("RobotFaults", 274, "of a robot 0 to 4 is asked")]
def y_RF_init : MethodName := .mk "RobotFaults" "<init>" "()V"
def y_Track_init : MethodName := .mk "RobotFaults$Track" "<init>" "()V"
def y_Rule_init : MethodName := .mk "RobotFaults$Rule" "<init>" "()V"
def y_RF_first : MethodName := .mk "RobotFaults" "first" "()I"
def y_Alarm_isAcknowledged : MethodName := .mk "RobotFaults$Alarm" "isAcknowledged" "()Z"
def y_Alarm_comesBefore : MethodName := .mk "RobotFaults$Alarm" "comesBefore" "(LRobotFaults$Alarm;)Z"
def y_RF_count : MethodName := .mk "RobotFaults" "count" "(I)I"
def y_Track_size : MethodName := .mk "RobotFaults$Track" "size" "()I"
def y_RF_openFaultCount : MethodName := .mk "RobotFaults" "openFaultCount" "()I"
def y_Fault_isOpen : MethodName := .mk "RobotFaults$Fault" "isOpen" "()Z"
def y_RF_unheardAlarmCount : MethodName := .mk "RobotFaults" "unheardAlarmCount" "()I"
def y_RF_openSeconds : MethodName := .mk "RobotFaults" "openSeconds" "()I"
def y_Fault_openSecondsUntil : MethodName := .mk "RobotFaults$Fault" "openSecondsUntil" "(I)I"
def y_Law_piece : MethodName := .mk "RobotFaultsLaw" "piece" "(LRobotFaults;[J)I"
def y_RF_piece : MethodName := .mk "RobotFaults" "piece" "()I"
def y_Track_isFull : MethodName := .mk "RobotFaults$Track" "isFull" "()Z"
def y_Track_add : MethodName := .mk "RobotFaults$Track" "add" "()I"
def y_Law_link : MethodName := .mk "RobotFaultsLaw" "link" "(LRobotFaults;II)I"
def y_RF_link : MethodName := .mk "RobotFaults" "link" "(II)V"
def y_RF_needPiece : MethodName := .mk "RobotFaults" "needPiece" "(I)V"
def y_Track_has : MethodName := .mk "RobotFaults$Track" "has" "(I)Z"
def y_Track_connect : MethodName := .mk "RobotFaults$Track" "connect" "(II)V"
def y_Law_robot : MethodName := .mk "RobotFaultsLaw" "robot" "(LRobotFaults;I[J)I"
def y_RF_robot : MethodName := .mk "RobotFaults" "robot" "(I)I"
def y_Robot_init : MethodName := .mk "RobotFaults$Robot" "<init>" "(II)V"
def y_Law_rule : MethodName := .mk "RobotFaultsLaw" "rule" "(LRobotFaults;IIZI)I"
def y_RF_rule : MethodName := .mk "RobotFaults" "rule" "(IIZI)V"
def y_RF_needKind : MethodName := .mk "RobotFaults" "needKind" "(I)V"
def y_Rule_set : MethodName := .mk "RobotFaults$Rule" "set" "(IZI)V"
def y_Law_move : MethodName := .mk "RobotFaultsLaw" "move" "(LRobotFaults;II)I"
def y_RF_move : MethodName := .mk "RobotFaults" "move" "(II)V"
def y_RF_robotAt : MethodName := .mk "RobotFaults" "robotAt" "(I)LRobotFaults$Robot;"
def y_Track_areConnected : MethodName := .mk "RobotFaults$Track" "areConnected" "(II)Z"
def y_RF_holds : MethodName := .mk "RobotFaults" "holds" "(II)Z"
def y_Law_load : MethodName := .mk "RobotFaultsLaw" "load" "(LRobotFaults;II)I"
def y_RF_load : MethodName := .mk "RobotFaults" "load" "(II)V"
def y_Law_fault : MethodName := .mk "RobotFaultsLaw" "fault" "(LRobotFaults;II[J)I"
def y_RF_fault : MethodName := .mk "RobotFaults" "fault" "(II)I"
def y_RF_hasNoLoadToLose : MethodName := .mk "RobotFaults" "hasNoLoadToLose" "(LRobotFaults$Robot;I)Z"
def y_RF_hasRoomForFault : MethodName := .mk "RobotFaults" "hasRoomForFault" "()Z"
def y_RF_openOrNewFault : MethodName := .mk "RobotFaults" "openOrNewFault" "(LRobotFaults$Robot;IZ)I"
def y_RF_openFault : MethodName := .mk "RobotFaults" "openFault" "(LRobotFaults$Robot;I)LRobotFaults$Fault;"
def y_RF_newFault : MethodName := .mk "RobotFaults" "newFault" "(LRobotFaults$Robot;IZ)I"
def y_Fault_init : MethodName := .mk "RobotFaults$Fault" "<init>" "(ILRobotFaults$Robot;IIIZ)V"
def y_RF_alarmFor : MethodName := .mk "RobotFaults" "alarmFor" "(LRobotFaults$Fault;I)I"
def y_RF_latestAlarm : MethodName := .mk "RobotFaults" "latestAlarm" "(LRobotFaults$Robot;I)LRobotFaults$Alarm;"
def y_Alarm_join : MethodName := .mk "RobotFaults$Alarm" "join" "(LRobotFaults$Fault;)V"
def y_Alarm_init : MethodName := .mk "RobotFaults$Alarm" "<init>" "(ILRobotFaults$Fault;I)V"
def y_Robot_suffer : MethodName := .mk "RobotFaults$Robot" "suffer" "(IIZ)V"
def y_Law_step : MethodName := .mk "RobotFaultsLaw" "step" "(LRobotFaults;II[J)I"
def y_RF_step : MethodName := .mk "RobotFaults" "step" "(II)I"
def y_RF_faultAt : MethodName := .mk "RobotFaults" "faultAt" "(I)LRobotFaults$Fault;"
def y_RF_needPerson : MethodName := .mk "RobotFaults" "needPerson" "(I)V"
def y_Fault_addStep : MethodName := .mk "RobotFaults$Fault" "addStep" "(II)V"
def y_Integer_bitCount : MethodName := .mk "java/lang/Integer" "bitCount" "(I)I"
def y_Law_test : MethodName := .mk "RobotFaultsLaw" "test" "(LRobotFaults;IZ[J)I"
def y_RF_test : MethodName := .mk "RobotFaults" "test" "(IZ)Z"
def y_RF_openKinds : MethodName := .mk "RobotFaults" "openKinds" "(LRobotFaults$Robot;)I"
def y_Law_resume : MethodName := .mk "RobotFaultsLaw" "resume" "(LRobotFaults;I[J)I"
def y_RF_resume : MethodName := .mk "RobotFaults" "resume" "(I)I"
def y_Law_zone : MethodName := .mk "RobotFaultsLaw" "zone" "(LRobotFaults;II[J)I"
def y_RF_zone : MethodName := .mk "RobotFaults" "zone" "(II)I"
def y_RF_needLost : MethodName := .mk "RobotFaults" "needLost" "(LRobotFaults$Robot;)V"
def y_RF_piecesOfLost : MethodName := .mk "RobotFaults" "piecesOfLost" "(LRobotFaults$Robot;)I"
def y_Track_reach : MethodName := .mk "RobotFaults$Track" "reach" "(II)I"
def y_Track_around : MethodName := .mk "RobotFaults$Track" "around" "(I)I"
def y_Law_found : MethodName := .mk "RobotFaultsLaw" "found" "(LRobotFaults;II[J)I"
def y_RF_found : MethodName := .mk "RobotFaults" "found" "(II)I"
def y_Track_fewestLinks : MethodName := .mk "RobotFaults$Track" "fewestLinks" "(II)I"
def y_Law_tow : MethodName := .mk "RobotFaultsLaw" "tow" "(LRobotFaults;II)I"
def y_RF_tow : MethodName := .mk "RobotFaults" "tow" "(II)V"
def y_Law_plant : MethodName := .mk "RobotFaultsLaw" "plant" "(LRobotFaults;III)I"
def y_RF_plant : MethodName := .mk "RobotFaults" "plant" "(III)V"
def y_Planted_init : MethodName := .mk "RobotFaults$Planted" "<init>" "(LRobotFaults$Robot;II)V"
def y_Law_pass : MethodName := .mk "RobotFaultsLaw" "pass" "(LRobotFaults;I[J)I"
def y_RF_pass : MethodName := .mk "RobotFaults" "pass" "(I)I"
def y_RF_nextBusySecond : MethodName := .mk "RobotFaults" "nextBusySecond" "(I)I"
def y_Math_min : MethodName := .mk "java/lang/Math" "min" "(II)I"
def y_Alarm_canRise : MethodName := .mk "RobotFaults$Alarm" "canRise" "()Z"
def y_Alarm_nextRise : MethodName := .mk "RobotFaults$Alarm" "nextRise" "(I)I"
def y_RF_letPlantedCome : MethodName := .mk "RobotFaults" "letPlantedCome" "()V"
def y_RF_bring : MethodName := .mk "RobotFaults" "bring" "(LRobotFaults$Planted;)V"
def y_RF_raiseAlarms : MethodName := .mk "RobotFaults" "raiseAlarms" "()I"
def y_Alarm_isRiseSecond : MethodName := .mk "RobotFaults$Alarm" "isRiseSecond" "(I)Z"
def y_Law_acknowledge : MethodName := .mk "RobotFaultsLaw" "acknowledge" "(LRobotFaults;II[J)I"
def y_RF_acknowledge : MethodName := .mk "RobotFaults" "acknowledge" "(II)I"
def y_RF_alarmAt : MethodName := .mk "RobotFaults" "alarmAt" "(I)LRobotFaults$Alarm;"
def y_Law_alarm : MethodName := .mk "RobotFaultsLaw" "alarm" "(LRobotFaults;II[J)I"
def y_RF_alarm : MethodName := .mk "RobotFaults" "alarm" "(II)I"
def y_Law_known : MethodName := .mk "RobotFaultsLaw" "known" "(LRobotFaults;II[J)I"
def y_RF_known : MethodName := .mk "RobotFaults" "known" "(II)I"
def y_Law_told : MethodName := .mk "RobotFaultsLaw" "told" "(LRobotFaults;II[J)I"
def y_RF_told : MethodName := .mk "RobotFaults" "told" "(II)I"
def y_Model_init : MethodName := .mk "RobotFaultsModel" "<init>" "()V"
def y_Model_thrown : MethodName := .mk "RobotFaultsModel" "thrown" "()I"
def y_Model_piece : MethodName := .mk "RobotFaultsModel" "piece" "()I"
def y_Model_link : MethodName := .mk "RobotFaultsModel" "link" "(II)V"
def y_Model_isPiece : MethodName := .mk "RobotFaultsModel" "isPiece" "(I)Z"
def y_Model_in : MethodName := .mk "RobotFaultsModel" "in" "(III)Z"
def y_Model_robot : MethodName := .mk "RobotFaultsModel" "robot" "(I)I"
def y_Model_rule : MethodName := .mk "RobotFaultsModel" "rule" "(IIZI)V"
def y_Model_isKind : MethodName := .mk "RobotFaultsModel" "isKind" "(I)Z"
def y_Model_move : MethodName := .mk "RobotFaultsModel" "move" "(II)V"
def y_Model_isRobot : MethodName := .mk "RobotFaultsModel" "isRobot" "(I)Z"
def y_Model_load : MethodName := .mk "RobotFaultsModel" "load" "(II)V"
def y_Model_fault : MethodName := .mk "RobotFaultsModel" "fault" "(II)I"
def y_Model_bars : MethodName := .mk "RobotFaultsModel" "bars" "(II)I"
def y_Model_come : MethodName := .mk "RobotFaultsModel" "come" "(IIZ)I"
def y_Model_openOf : MethodName := .mk "RobotFaultsModel" "openOf" "(II)I"
def y_Model_alarmFor : MethodName := .mk "RobotFaultsModel" "alarmFor" "(II)I"
def y_Model_step : MethodName := .mk "RobotFaultsModel" "step" "(II)I"
def y_Model_isFault : MethodName := .mk "RobotFaultsModel" "isFault" "(I)Z"
def y_Model_bits : MethodName := .mk "RobotFaultsModel" "bits" "(I)I"
def y_Model_test : MethodName := .mk "RobotFaultsModel" "test" "(IZ)Z"
def y_Model_openKinds : MethodName := .mk "RobotFaultsModel" "openKinds" "(I)I"
def y_Model_resume : MethodName := .mk "RobotFaultsModel" "resume" "(I)I"
def y_Model_zone : MethodName := .mk "RobotFaultsModel" "zone" "(II)I"
def y_Model_mayBe : MethodName := .mk "RobotFaultsModel" "mayBe" "(II)Z"
def y_Model_reach : MethodName := .mk "RobotFaultsModel" "reach" "(I)V"
def y_Model_found : MethodName := .mk "RobotFaultsModel" "found" "(II)I"
def y_Model_tow : MethodName := .mk "RobotFaultsModel" "tow" "(II)V"
def y_Model_plant : MethodName := .mk "RobotFaultsModel" "plant" "(III)V"
def y_Model_pass : MethodName := .mk "RobotFaultsModel" "pass" "(I)I"
def y_Model_comePlanted : MethodName := .mk "RobotFaultsModel" "comePlanted" "()V"
def y_Model_acknowledge : MethodName := .mk "RobotFaultsModel" "acknowledge" "(II)I"
def y_Model_isAlarm : MethodName := .mk "RobotFaultsModel" "isAlarm" "(I)Z"
def y_Model_alarm : MethodName := .mk "RobotFaultsModel" "alarm" "(II)I"
def y_Model_first : MethodName := .mk "RobotFaultsModel" "first" "()I"
def y_Model_known : MethodName := .mk "RobotFaultsModel" "known" "(II)I"
def y_Model_told : MethodName := .mk "RobotFaultsModel" "told" "(II)I"
def y_Model_count : MethodName := .mk "RobotFaultsModel" "count" "(I)I"
end
section
/-! THE STORE: all objects that class, reference and law make, by kind and number; a kind's layout stands in os_sc. -/
abbrev os_S : Type := (Nat → Nat) × (Nat → Nat → Nat) × (Nat → Nat → Nat → Int32) × (Nat → Nat → Nat → Option Nat)
def os_n (σ : os_S) : Nat → Nat := σ.1
def os_l (σ : os_S) : Nat → Nat → Nat := σ.2.1
def os_g (σ : os_S) : Nat → Nat → Nat → Int32 := σ.2.2.1
def os_r (σ : os_S) : Nat → Nat → Nat → Option Nat := σ.2.2.2
def os_sg (σ : os_S) (K j i : Nat) (v : Int32) : os_S := (σ.1, σ.2.1, fun K' j' i' => if K' = K ∧ j' = j ∧ i' = i then v else σ.2.2.1 K' j' i', σ.2.2.2)
def os_sr (σ : os_S) (K j i : Nat) (v : Option Nat) : os_S := (σ.1, σ.2.1, σ.2.2.1, fun K' j' i' => if K' = K ∧ j' = j ∧ i' = i then v else σ.2.2.2 K' j' i')
def os_nw (σ : os_S) (K L : Nat) : os_S := (fun K' => if K' = K then σ.1 K + 1 else σ.1 K', fun K' i' => if K' = K ∧ i' = σ.1 K then L else σ.2.1 K' i', fun K' j' i' => if K' = K ∧ i' = σ.1 K then 0 else σ.2.2.1 K' j' i', fun K' j' i' => if K' = K ∧ i' = σ.1 K then none else σ.2.2.2 K' j' i')
theorem os_n_sg (σ : os_S) (K j i : Nat) (v : Int32) (K' : Nat) : os_n (os_sg σ K j i v) K' = os_n σ K' := rfl
theorem os_l_sg (σ : os_S) (K j i : Nat) (v : Int32) (K' i' : Nat) : os_l (os_sg σ K j i v) K' i' = os_l σ K' i' := rfl
theorem os_r_sg (σ : os_S) (K j i : Nat) (v : Int32) (K' j' i' : Nat) : os_r (os_sg σ K j i v) K' j' i' = os_r σ K' j' i' := rfl
theorem os_g_sg (σ : os_S) (K j i : Nat) (v : Int32) (K' j' i' : Nat) : os_g (os_sg σ K j i v) K' j' i' = if K' = K ∧ j' = j ∧ i' = i then v else os_g σ K' j' i' := rfl
theorem os_n_sr (σ : os_S) (K j i : Nat) (v : Option Nat) (K' : Nat) : os_n (os_sr σ K j i v) K' = os_n σ K' := rfl
theorem os_l_sr (σ : os_S) (K j i : Nat) (v : Option Nat) (K' i' : Nat) : os_l (os_sr σ K j i v) K' i' = os_l σ K' i' := rfl
theorem os_g_sr (σ : os_S) (K j i : Nat) (v : Option Nat) (K' j' i' : Nat) : os_g (os_sr σ K j i v) K' j' i' = os_g σ K' j' i' := rfl
theorem os_r_sr (σ : os_S) (K j i : Nat) (v : Option Nat) (K' j' i' : Nat) : os_r (os_sr σ K j i v) K' j' i' = if K' = K ∧ j' = j ∧ i' = i then v else os_r σ K' j' i' := rfl
theorem os_n_nw (σ : os_S) (K L : Nat) (K' : Nat) : os_n (os_nw σ K L) K' = if K' = K then os_n σ K + 1 else os_n σ K' := rfl
theorem os_l_nw (σ : os_S) (K L : Nat) (K' i' : Nat) : os_l (os_nw σ K L) K' i' = if K' = K ∧ i' = os_n σ K then L else os_l σ K' i' := rfl
theorem os_g_nw (σ : os_S) (K L : Nat) (K' j' i' : Nat) : os_g (os_nw σ K L) K' j' i' = if K' = K ∧ i' = os_n σ K then 0 else os_g σ K' j' i' := rfl
theorem os_r_nw (σ : os_S) (K L : Nat) (K' j' i' : Nat) : os_r (os_nw σ K L) K' j' i' = if K' = K ∧ i' = os_n σ K then none else os_r σ K' j' i' := rfl
def os_ad (ad : Nat → Nat → Nat) (K i a : Nat) : Nat → Nat → Nat := fun K' i' => if K' = K ∧ i' = i then a else ad K' i'
theorem os_ad_eq (ad : Nat → Nat → Nat) (K i a K' i' : Nat) : os_ad ad K i a K' i' = if K' = K ∧ i' = i then a else ad K' i' := rfl
/-- where a slot of a kind points to -/
def os_tg (K j : Nat) : Option Nat := match os_sc K with
  | .inl (_, fds) => fds.getD j none
  | .inr (_, x) => x
def os_fv (σ : os_S) (ad : Nat → Nat → Nat) (K i j : Nat) : Value := match os_tg K j with
  | none => if os_lg K = true then .long (os_g σ K j i).toInt64 else .int (os_g σ K j i)
  | some k => va_rf ((os_r σ K j i).map (ad k))
def os_at (D : va_G) (cA : Nat → ClassId) (σ : os_S) (ad : Nat → Nat → Nat) (H : Heap) (K i : Nat) : Prop := match os_sc K with
  | .inl (ci, _) => ∃ r : vw_C, os_cl[ci]? = some r ∧ t_OB (ad K i) (D.1 ci) r.2.2 (D.2 ci) H (os_fv σ ad K i)
  | .inr (t, _) => H[ad K i]? = some (arrV (cA t) (os_l σ K i) (os_fv σ ad K i))
/-- the heap holds the store -/
def os_W (D : va_G) (cA : Nat → ClassId) (bs : Nat) (σ : os_S) (ad : Nat → Nat → Nat) (H : Heap) : Prop :=
  (∀ K i, i < os_n σ K → os_at D cA σ ad H K i) ∧
  (∀ K i K' i', i < os_n σ K → i' < os_n σ K' → ad K i = ad K' i' → K = K' ∧ i = i') ∧
  (∀ K i, i < os_n σ K → ∀ j k t, os_tg K j = some k → os_r σ K j i = some t → t < os_n σ k) ∧
  (∀ K i, i < os_n σ K → bs ≤ ad K i)
theorem os_at.lt {D : va_G} {cA : Nat → ClassId} {σ : os_S} {ad : Nat → Nat → Nat} {H : Heap} {K i : Nat} (h : os_at D cA σ ad H K i) : ad K i < H.size := by
  unfold os_at at h
  split at h
  · obtain ⟨r, -, cell, h1, -⟩ := h
    exact (Array.getElem?_eq_some_iff.mp h1).1
  · exact (Array.getElem?_eq_some_iff.mp h).1
/-- a cell as it was, its slots' values as they were -/
theorem os_at.to {D : va_G} {cA : Nat → ClassId} {σ σ' : os_S} {ad ad' : Nat → Nat → Nat} {H H1 : Heap} {K i : Nat} (h : os_at D cA σ ad H K i) (ha : ad' K i = ad K i) (hH : H1[ad K i]? = H[ad K i]?) (hl : os_l σ' K i = os_l σ K i)
    (hv : ∀ j, os_fv σ' ad' K i j = os_fv σ ad K i j) : os_at D cA σ' ad' H1 K i := by
  have hf : os_fv σ' ad' K i = os_fv σ ad K i := funext hv
  unfold os_at at h ⊢
  cases hs : os_sc K with
  | inl x =>
    obtain ⟨ci, fds⟩ := x
    rw [hs] at h
    obtain ⟨r, h1, h2⟩ := h
    refine ⟨r, h1, ?_⟩
    rw [ha, hf]
    exact h2.kept hH
  | inr x =>
    obtain ⟨t, y⟩ := x
    rw [hs] at h
    show H1[ad' K i]? = some (arrV (cA t) (os_l σ' K i) (os_fv σ' ad' K i))
    rw [ha, hf, hl, hH]
    exact h
/-- which cells a method may change: the store's, and those that it makes -/
def os_A (σ : os_S) (ad : Nat → Nat → Nat) (sz : Nat) (q : Nat) : Prop := (∃ K i, i < os_n σ K ∧ q = ad K i) ∨ sz ≤ q
def os_ext (σ : os_S) (ad : Nat → Nat → Nat) (σ' : os_S) (ad' : Nat → Nat → Nat) (sz : Nat) : Prop :=
  (∀ K, os_n σ K ≤ os_n σ' K) ∧ (∀ K i, i < os_n σ K → ad' K i = ad K i) ∧ ∀ K i, os_n σ K ≤ i → i < os_n σ' K → sz ≤ ad' K i
theorem os_ext.rf {σ : os_S} {ad : Nat → Nat → Nat} {sz : Nat} : os_ext σ ad σ ad sz := ⟨fun _ => Nat.le_refl _, fun _ _ _ => rfl, fun _ _ h1 h2 => absurd h2 (Nat.not_lt.mpr h1)⟩
theorem os_ext.trans {σ σ1 σ2 : os_S} {ad ad1 ad2 : Nat → Nat → Nat} {sz sz1 : Nat} (h1 : os_ext σ ad σ1 ad1 sz) (h2 : os_ext σ1 ad1 σ2 ad2 sz1) (hz : sz ≤ sz1) : os_ext σ ad σ2 ad2 sz := by
  refine ⟨fun K => Nat.le_trans (h1.1 K) (h2.1 K), fun K i hi => ?_, fun K i ha hb => ?_⟩
  · rw [h2.2.1 K i (Nat.lt_of_lt_of_le hi (h1.1 K)), h1.2.1 K i hi]
  · by_cases hc : i < os_n σ1 K
    · rw [h2.2.1 K i hc]
      exact h1.2.2 K i ha hc
    · exact Nat.le_trans hz (h2.2.2 K i (Nat.not_lt.mp hc) hb)
theorem os_ext.A {σ σ1 : os_S} {ad ad1 : Nat → Nat → Nat} {sz sz1 : Nat} (h : os_ext σ ad σ1 ad1 sz) (hz : sz ≤ sz1) {q : Nat} (hq : os_A σ1 ad1 sz1 q) : os_A σ ad sz q := by
  rcases hq with ⟨K, i, hi, rfl⟩ | hq
  · by_cases hc : i < os_n σ K
    · exact Or.inl ⟨K, i, hc, h.2.1 K i hc⟩
    · exact Or.inr (h.2.2 K i (Nat.not_lt.mp hc) hi)
  · exact Or.inr (Nat.le_trans hz hq)
/-- an int slot is written -/
theorem os_W.sg {D : va_G} {cA : Nat → ClassId} {bs : Nat} {σ : os_S} {ad : Nat → Nat → Nat} {H H1 : Heap} {K j i : Nat} {v : Int32} (h : os_W D cA bs σ ad H) (hi : i < os_n σ K) (hc : os_at D cA (os_sg σ K j i v) ad H1 K i) (oq : ∀ q : Nat, q ≠ ad K i → H1[q]? = H[q]?) : os_W D cA bs (os_sg σ K j i v) ad H1 := by
  obtain ⟨h1, h2, h3, h4⟩ := h
  refine ⟨fun K' i' hi' => ?_, h2, h3, h4⟩
  by_cases he : ad K' i' = ad K i
  · obtain ⟨rfl, rfl⟩ := h2 K' i' K i hi' hi he
    exact hc
  · refine (h1 K' i' hi').to rfl (oq _ he) rfl (fun j' => ?_)
    unfold os_fv
    cases os_tg K' j' with
    | none =>
      have hg : os_g (os_sg σ K j i v) K' j' i' = os_g σ K' j' i' := by rw [os_g_sg, if_neg (fun z => he (by rw [z.1, z.2.2]))]
      show (if os_lg K' = true then Value.long (os_g (os_sg σ K j i v) K' j' i').toInt64 else .int (os_g (os_sg σ K j i v) K' j' i')) = _
      rw [hg]
    | some k => rfl
/-- a slot for a reference is written -/
theorem os_W.sr {D : va_G} {cA : Nat → ClassId} {bs : Nat} {σ : os_S} {ad : Nat → Nat → Nat} {H H1 : Heap} {K j i : Nat} {v : Option Nat} (h : os_W D cA bs σ ad H) (hi : i < os_n σ K) (hv : ∀ k t, os_tg K j = some k → v = some t → t < os_n σ k) (hc : os_at D cA (os_sr σ K j i v) ad H1 K i) (oq : ∀ q : Nat, q ≠ ad K i → H1[q]? = H[q]?) : os_W D cA bs (os_sr σ K j i v) ad H1 := by
  obtain ⟨h1, h2, h3, h4⟩ := h
  refine ⟨fun K' i' hi' => ?_, h2, fun K' i' hi' j' k t ht hr => ?_, h4⟩
  · by_cases he : ad K' i' = ad K i
    · obtain ⟨rfl, rfl⟩ := h2 K' i' K i hi' hi he
      exact hc
    · refine (h1 K' i' hi').to rfl (oq _ he) rfl (fun j' => ?_)
      unfold os_fv
      cases os_tg K' j' with
      | none => rfl
      | some k =>
        show va_rf ((os_r (os_sr σ K j i v) K' j' i').map (ad k)) = _
        rw [os_r_sr, if_neg (fun z => he (by rw [z.1, z.2.2]))]
  · rw [os_r_sr] at hr
    split at hr
    · rename_i z
      obtain ⟨rfl, rfl, rfl⟩ := z
      exact hv k t ht hr
    · exact h3 K' i' hi' j' k t ht hr
/-- a new object -/
theorem os_W.nw {D : va_G} {cA : Nat → ClassId} {bs : Nat} {σ : os_S} {ad : Nat → Nat → Nat} {H H1 : Heap} {K L : Nat} (h : os_W D cA bs σ ad H) (hb : bs ≤ H.size) (hc : os_at D cA (os_nw σ K L) (os_ad ad K (os_n σ K) H.size) H1 K (os_n σ K)) (oq : ∀ q : Nat, q < H.size → H1[q]? = H[q]?) :
    os_W D cA bs (os_nw σ K L) (os_ad ad K (os_n σ K) H.size) H1 := by
  obtain ⟨h1, h2, h3, h4⟩ := h
  have hold : ∀ K' i', i' < os_n (os_nw σ K L) K' → (K' = K ∧ i' = os_n σ K) ∨ (¬ (K' = K ∧ i' = os_n σ K) ∧ i' < os_n σ K') := by
    intro K' i' hi'
    rw [os_n_nw] at hi'
    by_cases z : K' = K
    · subst z
      rw [if_pos rfl] at hi'
      by_cases w : i' = os_n σ K'
      · exact Or.inl ⟨rfl, w⟩
      · exact Or.inr ⟨fun q => w q.2, by omega⟩
    · rw [if_neg z] at hi'
      exact Or.inr ⟨fun q => z q.1, hi'⟩
  have hup : ∀ k t, t < os_n σ k → t < os_n (os_nw σ K L) k := by
    intro k t ht
    rw [os_n_nw]
    split
    · rename_i z
      subst z
      omega
    · exact ht
  refine ⟨fun K' i' hi' => ?_, fun K' i' K2 i2 hi' hi2 he => ?_, fun K' i' hi' j k t ht hr => ?_, fun K' i' hi' => ?_⟩
  · rcases hold K' i' hi' with ⟨rfl, rfl⟩ | ⟨hne, hi'⟩
    · exact hc
    · refine (h1 K' i' hi').to (by rw [os_ad_eq, if_neg hne]) (oq _ (h1 K' i' hi').lt) (by rw [os_l_nw, if_neg hne]) (fun j => ?_)
      unfold os_fv
      cases htg : os_tg K' j with
      | none =>
        have hg : os_g (os_nw σ K L) K' j i' = os_g σ K' j i' := by rw [os_g_nw, if_neg hne]
        show (if os_lg K' = true then Value.long (os_g (os_nw σ K L) K' j i').toInt64 else .int (os_g (os_nw σ K L) K' j i')) = _
        rw [hg]
      | some k =>
        show va_rf ((os_r (os_nw σ K L) K' j i').map (os_ad ad K (os_n σ K) H.size k)) = _
        rw [os_r_nw, if_neg hne]
        cases hr : os_r σ K' j i' with
        | none => rfl
        | some t =>
          show va_rf (some (os_ad ad K (os_n σ K) H.size k t)) = va_rf (some (ad k t))
          have ht := h3 K' i' hi' j k t htg hr
          rw [os_ad_eq, if_neg (fun z => by obtain ⟨rfl, rfl⟩ := z; exact absurd ht (Nat.lt_irrefl _))]
  · rcases hold K' i' hi' with ⟨d1, d2⟩ | ⟨hne, g1⟩ <;> rcases hold K2 i2 hi2 with ⟨e1, e2⟩ | ⟨hne2, g2⟩
    · exact ⟨d1.trans e1.symm, d2.trans e2.symm⟩
    · rw [os_ad_eq, if_pos ⟨d1, d2⟩, os_ad_eq, if_neg hne2] at he
      have := (h1 K2 i2 g2).lt
      omega
    · rw [os_ad_eq, if_neg hne, os_ad_eq, if_pos ⟨e1, e2⟩] at he
      have := (h1 K' i' g1).lt
      omega
    · rw [os_ad_eq, if_neg hne, os_ad_eq, if_neg hne2] at he
      exact h2 K' i' K2 i2 g1 g2 he
  · rcases hold K' i' hi' with ⟨rfl, rfl⟩ | ⟨hne, hi'⟩
    · rw [os_r_nw, if_pos ⟨rfl, rfl⟩] at hr
      cases hr
    · rw [os_r_nw, if_neg hne] at hr
      exact hup _ _ (h3 K' i' hi' j k t ht hr)
  · rw [os_ad_eq]
    split
    · exact hb
    · rename_i hne
      rcases hold K' i' hi' with z | ⟨-, hi'⟩
      · exact absurd z hne
      · exact h4 K' i' hi'
theorem os_ext.nw {σ : os_S} {ad : Nat → Nat → Nat} {K L sz : Nat} : os_ext σ ad (os_nw σ K L) (os_ad ad K (os_n σ K) sz) sz := by
  refine ⟨fun K' => ?_, fun K' i hi => ?_, fun K' i h1 h2 => ?_⟩
  · rw [os_n_nw]; split
    · rename_i z; subst z; omega
    · exact Nat.le_refl _
  · rw [os_ad_eq, if_neg (fun z => by obtain ⟨rfl, rfl⟩ := z; exact absurd hi (Nat.lt_irrefl _))]
  · rw [os_n_nw] at h2
    split at h2
    · rename_i z; subst z
      rw [os_ad_eq, if_pos ⟨rfl, by omega⟩]
      exact Nat.le_refl _
    · omega
end
section
/-! ROWS OVER THE STORE: a row an instruction that reads, writes or makes -/
/-- where a static field of a class of the JDK lies, and that it holds null or a reference -/
def os_L (C n d : String) (bs : Nat) (U : State) : Prop := ∃ (c : ClassId) (k : Class) (i : Nat) (f : Field) (a : Nat) (cell : Cell) (v : Value), U.vm.findClass C = some c ∧ U.fieldFound? C n d = some (c, k, i, f) ∧ f.isStatic = true ∧ k.statics = some a ∧ U.heap[a]? = some cell ∧ cell.vm.isStatics = true ∧ cell.cls = c ∧ f.slot < cell.slots.size ∧ k.staticTypes[f.slot]? = some f.type ∧ a < bs ∧ cell.slots[f.slot]? = some v ∧ v.isRef = true
/-- what a walk knows of the tables, and of the cells that it never writes -/
def os_EV (D : va_G) (cA : Nat → ClassId) (bs : Nat) (U : State) : Prop :=
  (∀ w ∈ os_tb, w.before #[] U = true) ∧ va_K D os_cl (os_tys cA) U ∧ bs ≤ U.heap.size ∧ os_L Bundle.tN "UNASSIGNED_STACK" Bundle.steD bs U ∧ os_L Bundle.tN "SUPPRESSED_SENTINEL" Bundle.listD bs U ∧ ∀ q ∈ os_str, ∃ a, vk_R q.1 q.2.1 q.2.2 a U
def os_V (D : va_G) (cA : Nat → ClassId) (bs : Nat) (σ0 : os_S) (ad0 : Nat → Nat → Nat) (s : State) (σ : os_S) (ad : Nat → Nat → Nat) (H : Heap) (locs : List Loc) : Prop :=
  os_W D cA bs σ ad H ∧ os_ext σ0 ad0 σ ad s.heap.size ∧ va_S (os_A σ0 ad0 s.heap.size) s.heap H locs
theorem os_ext.inA {σ σ1 : os_S} {ad ad1 : Nat → Nat → Nat} {sz K i : Nat} (h : os_ext σ ad σ1 ad1 sz) (hi : i < os_n σ1 K) : os_A σ ad sz (ad1 K i) := by
  by_cases hc : i < os_n σ K
  · exact Or.inl ⟨K, i, hc, h.2.1 K i hc⟩
  · exact Or.inr (h.2.2 K i (Nat.not_lt.mp hc) hi)
section OSR
variable {p : Program} {l : Launch} {e : Env} {R : Room} {s : State} {m : MethodId} {args : Array Value} {below : List Frame} {meth : Method} {c : Code} {H : Heap} {locs : List Loc} {cells slots : Nat} {Q : State → Prop}
variable {cc : ByteArray} {pc : Nat} {ls : Array Slot} {rest : List Value} {D : va_G} {cA : Nat → ClassId} {bs : Nat} {σ σ0 : os_S} {ad ad0 : Nat → Nat → Nat} {tys : List (ClassId × FieldType)}
theorem os_slot {C : String} {T : u_T} {N ci K j i : Nat} {fds : List (Option Nat)} {Ts : List Cond} (hts : ∀ w ∈ Ts, w.before args s = true) (hin : ∀ w ∈ u_ws C T N, w ∈ Ts) (hK : va_K D os_cl tys s) (hW : os_W D cA bs σ ad H) (hs : os_sc K = .inl (ci, fds)) (hc : os_cl[ci]? = some (C, T, N)) (hj : j < N) (hi : i < os_n σ K) :
    ∃ (cell : Cell) (cf : ClassId) (kf : Class) (fi : Nat) (f : Field), s.fieldFound? (T j).1 (T j).2.1 (T j).2.2.1 = some (cf, kf, fi, f) ∧ f.isStatic = false ∧ f.slot = D.2 ci j ∧ H[ad K i]? = some cell ∧ cell.cls = D.1 ci ∧ cell.vm = .none ∧ ∀ k, k < N → cell.slots[D.2 ci k]? = some (os_fv σ ad K i k) := by
  have h := hW.1 K i hi
  unfold os_at at h
  rw [hs] at h
  obtain ⟨r, h1, cell, q1, q2, q3, q4⟩ := h
  have hr : r = (C, T, N) := Option.some.inj (h1.symm.trans hc)
  subst hr
  obtain ⟨hS, hfc, kC, hkC, hkind⟩ := hK.1 ci _ hc
  obtain ⟨cf, kf, fi, f, hi', hsl⟩ := hS j hj
  exact ⟨cell, cf, kf, fi, f, hi', (u_facts hfc hkC (u_lays hts hin hj) hi').1, hsl, q1, q2, q3, q4⟩
theorem os_get (hx : p.tables.exec = Jvm.exec) (hb : c.code = cc) {own C : String} {T : u_T} {N ci index K j i : Nat} {fds : List (Option Nat)} {Ts : List Cond} {v : Value} (hts : ∀ w ∈ Ts, w.before args s = true) (hin : ∀ w ∈ u_ws C T N, w ∈ Ts) (hown : s.vm.findClass own = some m.cls) (hK : va_K D os_cl tys s) (hV : os_V D cA bs σ0 ad0 s σ ad H locs)
    (hs : os_sc K = .inl (ci, fds)) (hc : os_cl[ci]? = some (C, T, N)) (hj : j < N) (hi : i < os_n σ K) (hlink : (Cond.fieldLink own index (T j).1 (T j).2.1 (T j).2.2.1).before args s = true) (hv : os_fv σ ad K i j = v) (hdg : decode cc pc = .ok (.getfield index, 3))
    (kk : W p l e R s m args below meth c H locs cells slots Q (F0 m (pc + 3) ls (v :: rest))) : W p l e R s m args below meth c H locs cells slots Q (F0 m pc ls (.ref (ad K i) :: rest)) := by
  obtain ⟨cell, cf, kf, fi, f, hi', hst, hsl, q1, q2, q3, q4⟩ := os_slot hts hin hK hV.1 hs hc hj hi
  exact W.getf hx hb hown hlink hi' hst q1 (by rw [q3]; exact fun h => by cases h) (by rw [hsl, q4 j hj, hv]) rfl rfl hdg kk
theorem os_getN (hx : p.tables.exec = Jvm.exec) (hb : c.code = cc) {own C host : String} {T : u_T} {N ci index K j i : Nat} {fds : List (Option Nat)} {Ts : List Cond} {v : Value} (hts : ∀ w ∈ Ts, w.before args s = true) (hin : ∀ w ∈ u_ws C T N, w ∈ Ts) (hown : s.vm.findClass own = some m.cls) (hK : va_K D os_cl tys s) (hV : os_V D cA bs σ0 ad0 s σ ad H locs)
    (hs : os_sc K = .inl (ci, fds)) (hc : os_cl[ci]? = some (C, T, N)) (hj : j < N) (hi : i < os_n σ K) (hlink : (Cond.fieldLinkNest own index (T j).1 (T j).2.1 (T j).2.2.1 host).before args s = true) (hv : os_fv σ ad K i j = v) (hdg : decode cc pc = .ok (.getfield index, 3))
    (kk : W p l e R s m args below meth c H locs cells slots Q (F0 m (pc + 3) ls (v :: rest))) : W p l e R s m args below meth c H locs cells slots Q (F0 m pc ls (.ref (ad K i) :: rest)) := by
  obtain ⟨cell, cf, kf, fi, f, hi', hst, hsl, q1, q2, q3, q4⟩ := os_slot hts hin hK hV.1 hs hc hj hi
  exact va_Wgetf hx hb hown hlink hi' hst q1 (by rw [q3]; exact fun h => by cases h) (by rw [hsl, q4 j hj, hv]) rfl rfl hdg kk
/-- an object's cell with one slot set -/
theorem os_atset {N ci K j i : Nat} {C : String} {T : u_T} {fds : List (Option Nat)} {σ' : os_S} {v : Value} {cell : Cell} {H1 : Heap} (hs : os_sc K = .inl (ci, fds)) (hc : os_cl[ci]? = some (C, T, N)) (hj : j < N) (hap : ∀ x y, x < N → y < N → x ≠ y → (D.2 ci) x ≠ (D.2 ci) y) (q2 : cell.cls = D.1 ci) (q3 : cell.vm = .none) (q4 : ∀ k, k < N → cell.slots[D.2 ci k]? = some (os_fv σ ad K i k)) (e1 : H1[ad K i]? = some (cell.setSlot (D.2 ci j) v))
    (h1 : os_fv σ' ad K i j = v) (h2 : ∀ k, k ≠ j → os_fv σ' ad K i k = os_fv σ ad K i k) : os_at D cA σ' ad H1 K i := by
  unfold os_at
  rw [hs]
  refine ⟨_, hc, t_OB.to (V := updV (os_fv σ ad K i) j v) ⟨_, e1, q2, q3, t_set q4 hap hj v⟩ (fun k _ => ?_)⟩
  by_cases hk : k = j
  · subst hk
    simp [updV, h1]
  · simp [updV, hk, h2 k hk]
theorem os_fv_sg {K i j k : Nat} {v : Int32} (hk : k ≠ j) : os_fv (os_sg σ K j i v) ad K i k = os_fv σ ad K i k := by
  unfold os_fv
  cases os_tg K k with
  | none =>
    have hg : os_g (os_sg σ K j i v) K k i = os_g σ K k i := by rw [os_g_sg, if_neg (fun z => hk z.2.1)]
    show (if os_lg K = true then Value.long (os_g (os_sg σ K j i v) K k i).toInt64 else .int (os_g (os_sg σ K j i v) K k i)) = _
    rw [hg]
  | some t => rfl
theorem os_fv_sgs {K i j : Nat} {v : Int32} (ht : os_tg K j = none) (hg : os_lg K = false) : os_fv (os_sg σ K j i v) ad K i j = .int v := by
  unfold os_fv
  rw [ht]
  have he : os_g (os_sg σ K j i v) K j i = v := by rw [os_g_sg, if_pos ⟨rfl, rfl, rfl⟩]
  show (if os_lg K = true then Value.long (os_g (os_sg σ K j i v) K j i).toInt64 else .int (os_g (os_sg σ K j i v) K j i)) = _
  rw [he, hg]
  rfl
theorem os_fv_sgl {K i j : Nat} {v : Int32} (ht : os_tg K j = none) (hg : os_lg K = true) : os_fv (os_sg σ K j i v) ad K i j = .long v.toInt64 := by
  unfold os_fv
  rw [ht]
  have he : os_g (os_sg σ K j i v) K j i = v := by rw [os_g_sg, if_pos ⟨rfl, rfl, rfl⟩]
  show (if os_lg K = true then Value.long (os_g (os_sg σ K j i v) K j i).toInt64 else .int (os_g (os_sg σ K j i v) K j i)) = _
  rw [he, hg]
  rfl
theorem os_fv_sr {K i j k : Nat} {v : Option Nat} (hk : k ≠ j) : os_fv (os_sr σ K j i v) ad K i k = os_fv σ ad K i k := by
  unfold os_fv
  cases os_tg K k with
  | none => rfl
  | some t =>
    show va_rf ((os_r (os_sr σ K j i v) K k i).map (ad t)) = _
    rw [os_r_sr, if_neg (fun z => hk z.2.1)]
theorem os_fv_srs {K i j k : Nat} {v : Option Nat} (ht : os_tg K j = some k) : os_fv (os_sr σ K j i v) ad K i j = va_rf (v.map (ad k)) := by
  unfold os_fv
  rw [ht]
  show va_rf ((os_r (os_sr σ K j i v) K j i).map (ad k)) = _
  rw [os_r_sr, if_pos ⟨rfl, rfl, rfl⟩]
theorem os_V.sg {K j i : Nat} {v : Int32} {H1 : Heap} {x : Nat} (hV : os_V D cA bs σ0 ad0 s σ ad H locs) (hi : i < os_n σ K) (hc : os_at D cA (os_sg σ K j i v) ad H1 K i) (e2 : H1.size = H.size) (e3 : ∀ q : Nat, q ≠ ad K i → H1[q]? = H[q]?) : os_V D cA bs σ0 ad0 s (os_sg σ K j i v) ad H1 (locs ++ [⟨ad K i, x⟩]) :=
  ⟨hV.1.sg hi hc e3, hV.2.1, hV.2.2.put e2 e3 (hV.2.1.inA hi)⟩
theorem os_V.sr {K j i : Nat} {v : Option Nat} {H1 : Heap} {x : Nat} (hV : os_V D cA bs σ0 ad0 s σ ad H locs) (hi : i < os_n σ K) (hv : ∀ k t, os_tg K j = some k → v = some t → t < os_n σ k) (hc : os_at D cA (os_sr σ K j i v) ad H1 K i) (e2 : H1.size = H.size) (e3 : ∀ q : Nat, q ≠ ad K i → H1[q]? = H[q]?) : os_V D cA bs σ0 ad0 s (os_sr σ K j i v) ad H1 (locs ++ [⟨ad K i, x⟩]) :=
  ⟨hV.1.sr hi hv hc e3, hV.2.1, hV.2.2.put e2 e3 (hV.2.1.inA hi)⟩
theorem os_putI (hx : p.tables.exec = Jvm.exec) (hb : c.code = cc) {own C : String} {T : u_T} {N ci index K j i : Nat} {fds : List (Option Nat)} {Ts : List Cond} {v : Int32} {ty : FieldType} (hts : ∀ w ∈ Ts, w.before args s = true) (hin : ∀ w ∈ u_ws C T N, w ∈ Ts) (ty0 : Nat → FieldType) (hty : ∀ k, k < N → parseFieldDescriptor (T k).2.2.1 = some (ty0 k)) (hnm : ∀ a, a < N → ∀ b, b < N → a ≠ b → (T a).2.1 ≠ (T b).2.1) (hown : s.vm.findClass own = some m.cls) (hK : va_K D os_cl tys s) (hV : os_V D cA bs σ0 ad0 s σ ad H locs)
    (hs : os_sc K = .inl (ci, fds)) (hc : os_cl[ci]? = some (C, T, N)) (hj : j < N) (hi : i < os_n σ K) (hlink : (Cond.fieldLink own index (T j).1 (T j).2.1 (T j).2.2.1).before args s = true) (hfin : (T j).2.2.2 = false) (htg : os_tg K j = none) (hlg : os_lg K = false) (hd : parseFieldDescriptor (T j).2.2.1 = some ty) (hn : narrow ty (.int v) = .int v) (hfit : fits ty (.int v) = true) (hdg : decode cc pc = .ok (.putfield index, 3))
    (kk : ∀ (H1 : Heap) (locs1 : List Loc), os_V D cA bs σ0 ad0 s (os_sg σ K j i v) ad H1 locs1 → W p l e R s m args below meth c H1 locs1 cells slots Q (F0 m (pc + 3) ls rest)) : W p l e R s m args below meth c H locs cells slots Q (F0 m pc ls (.int v :: .ref (ad K i) :: rest)) := by
  obtain ⟨cell, cf, kf, fi, f, hi', hst, hsl, q1, q2, q3, q4⟩ := os_slot hts hin hK hV.1 hs hc hj hi
  have hap := va_apart (own := own) hts hin ty0 hty hnm hK hc
  obtain ⟨hS, hfc, kC, hkC, hkind⟩ := hK.1 ci _ hc
  have hlay := hts _ (hin _ (u_in_lay hj))
  unfold u_lay at hlay
  rw [if_neg (by rw [hfin]; decide)] at hlay
  have h6 := u_store hfc hkC hkind hlay hi' hd hn hfit
  refine W.putK hx hb (f := f) ⟨hown, hlink, ⟨_, _, _, hi'⟩, hst⟩ (by rw [q2]; exact h6) q1 q3 (by rw [hsl]; exact k2_hasslot (q4 j hj)) rfl rfl hdg fun H' e1 e2 e3 => ?_
  rw [hsl] at e1
  exact kk H' _ (hV.sg hi (os_atset hs hc hj hap q2 q3 q4 e1 (os_fv_sgs htg hlg) (fun k hk => os_fv_sg hk)) e2 e3)
theorem os_putIN (hx : p.tables.exec = Jvm.exec) (hb : c.code = cc) {own C host : String} {T : u_T} {N ci index K j i : Nat} {fds : List (Option Nat)} {Ts : List Cond} {v : Int32} {ty : FieldType} (hts : ∀ w ∈ Ts, w.before args s = true) (hin : ∀ w ∈ u_ws C T N, w ∈ Ts) (ty0 : Nat → FieldType) (hty : ∀ k, k < N → parseFieldDescriptor (T k).2.2.1 = some (ty0 k)) (hnm : ∀ a, a < N → ∀ b, b < N → a ≠ b → (T a).2.1 ≠ (T b).2.1) (hown : s.vm.findClass own = some m.cls) (hK : va_K D os_cl tys s) (hV : os_V D cA bs σ0 ad0 s σ ad H locs)
    (hs : os_sc K = .inl (ci, fds)) (hc : os_cl[ci]? = some (C, T, N)) (hj : j < N) (hi : i < os_n σ K) (hlink : (Cond.fieldLinkNest own index (T j).1 (T j).2.1 (T j).2.2.1 host).before args s = true) (hfin : (T j).2.2.2 = false) (htg : os_tg K j = none) (hlg : os_lg K = false) (hd : parseFieldDescriptor (T j).2.2.1 = some ty) (hn : narrow ty (.int v) = .int v) (hfit : fits ty (.int v) = true) (hdg : decode cc pc = .ok (.putfield index, 3))
    (kk : ∀ (H1 : Heap) (locs1 : List Loc), os_V D cA bs σ0 ad0 s (os_sg σ K j i v) ad H1 locs1 → W p l e R s m args below meth c H1 locs1 cells slots Q (F0 m (pc + 3) ls rest)) : W p l e R s m args below meth c H locs cells slots Q (F0 m pc ls (.int v :: .ref (ad K i) :: rest)) := by
  obtain ⟨cell, cf, kf, fi, f, hi', hst, hsl, q1, q2, q3, q4⟩ := os_slot hts hin hK hV.1 hs hc hj hi
  have hap := va_apart (own := own) hts hin ty0 hty hnm hK hc
  obtain ⟨hS, hfc, kC, hkC, hkind⟩ := hK.1 ci _ hc
  have hlay := hts _ (hin _ (u_in_lay hj))
  unfold u_lay at hlay
  rw [if_neg (by rw [hfin]; decide)] at hlay
  have h6 := u_store hfc hkC hkind hlay hi' hd hn hfit
  refine va_WputK hx hb (f := f) hown hlink hi' hst (by rw [q2]; exact h6) q1 q3 (by rw [hsl]; exact k2_hasslot (q4 j hj)) rfl rfl hdg fun H' e1 e2 e3 => ?_
  rw [hsl] at e1
  exact kk H' _ (hV.sg hi (os_atset hs hc hj hap q2 q3 q4 e1 (os_fv_sgs htg hlg) (fun k hk => os_fv_sg hk)) e2 e3)
/-- a final field of an int, in its own constructor -/
theorem os_putIF (hx : p.tables.exec = Jvm.exec) (hb : c.code = cc) {own C : String} {T : u_T} {N ci index K j i : Nat} {fds : List (Option Nat)} {Ts : List Cond} {v : Int32} {ty : FieldType} (hts : ∀ w ∈ Ts, w.before args s = true) (hin : ∀ w ∈ u_ws C T N, w ∈ Ts) (ty0 : Nat → FieldType) (hty : ∀ k, k < N → parseFieldDescriptor (T k).2.2.1 = some (ty0 k)) (hnm : ∀ a, a < N → ∀ b, b < N → a ≠ b → (T a).2.1 ≠ (T b).2.1) (hown : s.vm.findClass own = some m.cls) (hK : va_K D os_cl tys s) (hV : os_V D cA bs σ0 ad0 s σ ad H locs)
    (hs : os_sc K = .inl (ci, fds)) (hc : os_cl[ci]? = some (C, T, N)) (hj : j < N) (hi : i < os_n σ K) (hlink : (Cond.fieldLink own index (T j).1 (T j).2.1 (T j).2.2.1).before args s = true) (hfin : (T j).2.2.2 = true) (hin2 : meth.name = "<init>") (hdecl : (T j).1 = own) (htg : os_tg K j = none) (hlg : os_lg K = false) (hd : parseFieldDescriptor (T j).2.2.1 = some ty) (hn : narrow ty (.int v) = .int v) (hfit : fits ty (.int v) = true) (hdg : decode cc pc = .ok (.putfield index, 3))
    (kk : ∀ (H1 : Heap) (locs1 : List Loc), os_V D cA bs σ0 ad0 s (os_sg σ K j i v) ad H1 locs1 → W p l e R s m args below meth c H1 locs1 cells slots Q (F0 m (pc + 3) ls rest)) : W p l e R s m args below meth c H locs cells slots Q (F0 m pc ls (.int v :: .ref (ad K i) :: rest)) := by
  obtain ⟨cell, cf, kf, fi, f, hi', hst, hsl, q1, q2, q3, q4⟩ := os_slot hts hin hK hV.1 hs hc hj hi
  have hap := va_apart (own := own) hts hin ty0 hty hnm hK hc
  obtain ⟨hS, hfc, kC, hkC, hkind⟩ := hK.1 ci _ hc
  have hlay := hts _ (hin _ (u_in_lay hj))
  unfold u_lay at hlay
  rw [if_pos hfin] at hlay
  have hcf : m.cls = cf := by
    obtain ⟨_, _, c', _, _, _, -, -, hf', -, -, -, hown2, -⟩ := Cond.laysFinal_spec hlay
    have e1 : c' = cf := by have := hi'.symm.trans hf'; simp at this; exact this.1.symm
    rw [hdecl] at hown2
    rw [← e1]; exact Option.some.inj (hown.symm.trans hown2)
  have h6 := u_fits hfc hkC hkind (Or.inr hlay) hi' hd hn hfit
  refine W.putFinK hx hb hown hlink hi' hst hcf hin2 (by rw [q2]; exact h6) q1 q3 (by rw [hsl]; exact k2_hasslot (q4 j hj)) rfl rfl hdg fun H' e1 e2 e3 => ?_
  rw [hsl] at e1
  exact kk H' _ (hV.sg hi (os_atset hs hc hj hap q2 q3 q4 e1 (os_fv_sgs htg hlg) (fun k hk => os_fv_sg hk)) e2 e3)
theorem os_rfit (C : String) (r : Option Nat) : narrow (.object C) (va_rf r) = va_rf r ∧ fits (.object C) (va_rf r) = true := by cases r <;> exact ⟨rfl, rfl⟩
theorem os_rfitA (t : FieldType) (r : Option Nat) : narrow (.array t) (va_rf r) = va_rf r ∧ fits (.array t) (va_rf r) = true := by cases r <;> exact ⟨rfl, rfl⟩
theorem os_putR (hx : p.tables.exec = Jvm.exec) (hb : c.code = cc) {own C : String} {T : u_T} {N ci index K j i kt : Nat} {fds : List (Option Nat)} {Ts : List Cond} {v : Option Nat} {x : Value} {ty : FieldType} (hts : ∀ w ∈ Ts, w.before args s = true) (hin : ∀ w ∈ u_ws C T N, w ∈ Ts) (ty0 : Nat → FieldType) (hty : ∀ k, k < N → parseFieldDescriptor (T k).2.2.1 = some (ty0 k)) (hnm : ∀ a, a < N → ∀ b, b < N → a ≠ b → (T a).2.1 ≠ (T b).2.1) (hown : s.vm.findClass own = some m.cls) (hK : va_K D os_cl tys s) (hV : os_V D cA bs σ0 ad0 s σ ad H locs)
    (hs : os_sc K = .inl (ci, fds)) (hc : os_cl[ci]? = some (C, T, N)) (hj : j < N) (hi : i < os_n σ K) (hlink : (Cond.fieldLink own index (T j).1 (T j).2.1 (T j).2.2.1).before args s = true) (hfin : (T j).2.2.2 = false) (htg : os_tg K j = some kt) (hxv : x = va_rf (v.map (ad kt))) (hvt : ∀ t, v = some t → t < os_n σ kt) (hd : parseFieldDescriptor (T j).2.2.1 = some ty) (hn : narrow ty x = x ∧ fits ty x = true) (hdg : decode cc pc = .ok (.putfield index, 3))
    (kk : ∀ (H1 : Heap) (locs1 : List Loc), os_V D cA bs σ0 ad0 s (os_sr σ K j i v) ad H1 locs1 → W p l e R s m args below meth c H1 locs1 cells slots Q (F0 m (pc + 3) ls rest)) : W p l e R s m args below meth c H locs cells slots Q (F0 m pc ls (x :: .ref (ad K i) :: rest)) := by
  obtain ⟨cell, cf, kf, fi, f, hi', hst, hsl, q1, q2, q3, q4⟩ := os_slot hts hin hK hV.1 hs hc hj hi
  have hap := va_apart (own := own) hts hin ty0 hty hnm hK hc
  obtain ⟨hS, hfc, kC, hkC, hkind⟩ := hK.1 ci _ hc
  have hlay := hts _ (hin _ (u_in_lay hj))
  unfold u_lay at hlay
  rw [if_neg (by rw [hfin]; decide)] at hlay
  have h6 := u_store hfc hkC hkind hlay hi' hd hn.1 hn.2
  refine W.putK hx hb (f := f) ⟨hown, hlink, ⟨_, _, _, hi'⟩, hst⟩ (by rw [q2]; exact h6) q1 q3 (by rw [hsl]; exact k2_hasslot (q4 j hj)) rfl rfl hdg fun H' e1 e2 e3 => ?_
  rw [hsl] at e1
  exact kk H' _ (hV.sr hi (fun k t h1 h2 => by rw [htg] at h1; cases h1; exact hvt t h2) (os_atset hs hc hj hap q2 q3 q4 e1 ((os_fv_srs htg).trans hxv.symm) (fun k hk => os_fv_sr hk)) e2 e3)
theorem os_putRF (hx : p.tables.exec = Jvm.exec) (hb : c.code = cc) {own C : String} {T : u_T} {N ci index K j i kt : Nat} {fds : List (Option Nat)} {Ts : List Cond} {v : Option Nat} {x : Value} {ty : FieldType} (hts : ∀ w ∈ Ts, w.before args s = true) (hin : ∀ w ∈ u_ws C T N, w ∈ Ts) (ty0 : Nat → FieldType) (hty : ∀ k, k < N → parseFieldDescriptor (T k).2.2.1 = some (ty0 k)) (hnm : ∀ a, a < N → ∀ b, b < N → a ≠ b → (T a).2.1 ≠ (T b).2.1) (hown : s.vm.findClass own = some m.cls) (hK : va_K D os_cl tys s) (hV : os_V D cA bs σ0 ad0 s σ ad H locs)
    (hs : os_sc K = .inl (ci, fds)) (hc : os_cl[ci]? = some (C, T, N)) (hj : j < N) (hi : i < os_n σ K) (hlink : (Cond.fieldLink own index (T j).1 (T j).2.1 (T j).2.2.1).before args s = true) (hfin : (T j).2.2.2 = true) (hin2 : meth.name = "<init>") (hdecl : (T j).1 = own) (htg : os_tg K j = some kt) (hxv : x = va_rf (v.map (ad kt))) (hvt : ∀ t, v = some t → t < os_n σ kt) (hd : parseFieldDescriptor (T j).2.2.1 = some ty) (hn : narrow ty x = x ∧ fits ty x = true) (hdg : decode cc pc = .ok (.putfield index, 3))
    (kk : ∀ (H1 : Heap) (locs1 : List Loc), os_V D cA bs σ0 ad0 s (os_sr σ K j i v) ad H1 locs1 → W p l e R s m args below meth c H1 locs1 cells slots Q (F0 m (pc + 3) ls rest)) : W p l e R s m args below meth c H locs cells slots Q (F0 m pc ls (x :: .ref (ad K i) :: rest)) := by
  obtain ⟨cell, cf, kf, fi, f, hi', hst, hsl, q1, q2, q3, q4⟩ := os_slot hts hin hK hV.1 hs hc hj hi
  have hap := va_apart (own := own) hts hin ty0 hty hnm hK hc
  obtain ⟨hS, hfc, kC, hkC, hkind⟩ := hK.1 ci _ hc
  have hlay := hts _ (hin _ (u_in_lay hj))
  unfold u_lay at hlay
  rw [if_pos hfin] at hlay
  have hcf : m.cls = cf := by
    obtain ⟨_, _, c', _, _, _, -, -, hf', -, -, -, hown2, -⟩ := Cond.laysFinal_spec hlay
    have e1 : c' = cf := by have := hi'.symm.trans hf'; simp at this; exact this.1.symm
    rw [hdecl] at hown2
    rw [← e1]; exact Option.some.inj (hown.symm.trans hown2)
  have h6 := u_fits hfc hkC hkind (Or.inr hlay) hi' hd hn.1 hn.2
  refine W.putFinK hx hb hown hlink hi' hst hcf hin2 (by rw [q2]; exact h6) q1 q3 (by rw [hsl]; exact k2_hasslot (q4 j hj)) rfl rfl hdg fun H' e1 e2 e3 => ?_
  rw [hsl] at e1
  exact kk H' _ (hV.sr hi (fun k t h1 h2 => by rw [htg] at h1; cases h1; exact hvt t h2) (os_atset hs hc hj hap q2 q3 q4 e1 ((os_fv_srs htg).trans hxv.symm) (fun k hk => os_fv_sr hk)) e2 e3)
/-- arrays -/
theorem os_arr {K i t : Nat} {x : Option Nat} (hW : os_W D cA bs σ ad H) (hs : os_sc K = .inr (t, x)) (hi : i < os_n σ K) : H[ad K i]? = some (arrV (cA t) (os_l σ K i) (os_fv σ ad K i)) := by
  have h := hW.1 K i hi
  unfold os_at at h
  rw [hs] at h
  exact h
theorem os_alen (hx : p.tables.exec = Jvm.exec) (hb : c.code = cc) {K i t t0 : Nat} {x : Option Nat} {ty : FieldType} {v : Int32} (hK : va_K D os_cl tys s) (hV : os_V D cA bs σ0 ad0 s σ ad H locs) (hs : os_sc K = .inr (t, x)) (ht : tys[t0]? = some (cA t, ty)) (hi : i < os_n σ K) (hv : Int32.ofNat (os_l σ K i) = v) (hdg : decode cc pc = .ok (.arraylength, 1))
    (kk : W p l e R s m args below meth c H locs cells slots Q (F0 m (pc + 1) ls (.int v :: rest))) : W p l e R s m args below meth c H locs cells slots Q (F0 m pc ls (.ref (ad K i) :: rest)) := by
  subst hv
  exact W.alen (n := Int32.ofNat (os_l σ K i)) hx hb (os_arr hV.1 hs hi) ((hK.2 t0 _ ht).1 _ _) (by rw [arrV_size] <;> rfl) rfl rfl hdg kk
theorem os_iald (hx : p.tables.exec = Jvm.exec) (hb : c.code = cc) {K i t t0 : Nat} {ix : Int32} (hK : va_K D os_cl tys s) (hV : os_V D cA bs σ0 ad0 s σ ad H locs) (hs : os_sc K = .inr (t, none)) (hlg : os_lg K = false) (ht : tys[t0]? = some (cA t, .int)) (hi : i < os_n σ K) (hin : vp_in ix (os_l σ K i)) (hdg : decode cc pc = .ok (.iaload, 1))
    (kk : W p l e R s m args below meth c H locs cells slots Q (F0 m (pc + 1) ls (.int (os_g σ K ix.toNatClampNeg i) :: rest))) : W p l e R s m args below meth c H locs cells slots Q (F0 m pc ls (.int ix :: .ref (ad K i) :: rest)) := by
  have hlt : ix.toNatClampNeg < os_l σ K i := Nat.not_le.mp fun q => hin (Or.inr q)
  have hfv : os_fv σ ad K i ix.toNatClampNeg = .int (os_g σ K ix.toNatClampNeg i) := by unfold os_fv os_tg; rw [hs]; simp [hlg]
  exact W.iald (v := .int (os_g σ K ix.toNatClampNeg i)) hx hb (os_arr hV.1 hs hi) ((hK.2 t0 _ ht).1 _ _) (fun q => by cases q) (by rw [arrV_size]; exact hin) (by rw [arrV_read _ _ hlt, hfv]) rfl rfl hdg kk
theorem os_aald (hx : p.tables.exec = Jvm.exec) (hb : c.code = cc) {K i t t0 kt : Nat} {C : String} {ix : Int32} (hK : va_K D os_cl tys s) (hV : os_V D cA bs σ0 ad0 s σ ad H locs) (hs : os_sc K = .inr (t, some kt)) (ht : tys[t0]? = some (cA t, .object C)) (hi : i < os_n σ K) (hin : vp_in ix (os_l σ K i)) (hdg : decode cc pc = .ok (.aaload, 1))
    (kk : W p l e R s m args below meth c H locs cells slots Q (F0 m (pc + 1) ls (va_rf ((os_r σ K ix.toNatClampNeg i).map (ad kt)) :: rest))) : W p l e R s m args below meth c H locs cells slots Q (F0 m pc ls (.int ix :: .ref (ad K i) :: rest)) := by
  have hlt : ix.toNatClampNeg < os_l σ K i := Nat.not_le.mp fun q => hin (Or.inr q)
  have hfv : os_fv σ ad K i ix.toNatClampNeg = va_rf ((os_r σ K ix.toNatClampNeg i).map (ad kt)) := by unfold os_fv os_tg; rw [hs]
  exact W.aald (v := va_rf ((os_r σ K ix.toNatClampNeg i).map (ad kt))) (ty := .object C) hx hb (os_arr hV.1 hs hi) ((hK.2 t0 _ ht).1 _ _) rfl (fun q => by cases q) (by rw [arrV_size]; exact hin) (by rw [arrV_read _ _ hlt, hfv]) rfl rfl hdg kk
theorem os_arrset {K i t j : Nat} {x : Option Nat} {σ' : os_S} {v : Value} {H1 : Heap} (hs : os_sc K = .inr (t, x)) (hl : os_l σ' K i = os_l σ K i) (e1 : H1[ad K i]? = some ((arrV (cA t) (os_l σ K i) (os_fv σ ad K i)).setSlot j v)) (h1 : os_fv σ' ad K i j = v) (h2 : ∀ k, k ≠ j → os_fv σ' ad K i k = os_fv σ ad K i k) : os_at D cA σ' ad H1 K i := by
  unfold os_at
  rw [hs]
  show H1[ad K i]? = some (arrV (cA t) (os_l σ' K i) (os_fv σ' ad K i))
  rw [e1, arrV_store, hl]
  congr 2
  funext k
  by_cases hk : k = j
  · subst hk
    simp [updV, h1]
  · simp [updV, hk, h2 k hk]
theorem os_iast (hx : p.tables.exec = Jvm.exec) (hb : c.code = cc) {K i t t0 : Nat} {ix v : Int32} (hK : va_K D os_cl tys s) (hV : os_V D cA bs σ0 ad0 s σ ad H locs) (hs : os_sc K = .inr (t, none)) (hlg : os_lg K = false) (ht : tys[t0]? = some (cA t, .int)) (hi : i < os_n σ K) (hin : vp_in ix (os_l σ K i)) (hdg : decode cc pc = .ok (.iastore, 1))
    (kk : ∀ (H1 : Heap) (locs1 : List Loc), os_V D cA bs σ0 ad0 s (os_sg σ K ix.toNatClampNeg i v) ad H1 locs1 → W p l e R s m args below meth c H1 locs1 cells slots Q (F0 m (pc + 1) ls rest)) : W p l e R s m args below meth c H locs cells slots Q (F0 m pc ls (.int v :: .int ix :: .ref (ad K i) :: rest)) := by
  have htg : os_tg K ix.toNatClampNeg = none := by unfold os_tg; rw [hs]
  refine W.iast hx hb (os_arr hV.1 hs hi) ((hK.2 t0 _ ht).1 _ _) (fun q => by cases q) (by rw [arrV_size]; exact hin) rfl rfl hdg fun H1 e1 e2 e3 => ?_
  exact kk H1 _ (hV.sg hi (os_arrset (σ := σ) (σ' := os_sg σ K ix.toNatClampNeg i v) hs rfl e1 (os_fv_sgs htg hlg) (fun k hk => os_fv_sg hk)) e2 e3)
theorem os_zald (hx : p.tables.exec = Jvm.exec) (hb : c.code = cc) {K i t t0 : Nat} {ix : Int32} (hK : va_K D os_cl tys s) (hV : os_V D cA bs σ0 ad0 s σ ad H locs) (hs : os_sc K = .inr (t, none)) (hlg : os_lg K = false) (ht : tys[t0]? = some (cA t, .boolean)) (hi : i < os_n σ K) (hin : vp_in ix (os_l σ K i)) (hdg : decode cc pc = .ok (.baload, 1))
    (kk : W p l e R s m args below meth c H locs cells slots Q (F0 m (pc + 1) ls (.int (os_g σ K ix.toNatClampNeg i) :: rest))) : W p l e R s m args below meth c H locs cells slots Q (F0 m pc ls (.int ix :: .ref (ad K i) :: rest)) := by
  have hlt : ix.toNatClampNeg < os_l σ K i := Nat.not_le.mp fun q => hin (Or.inr q)
  have hfv : os_fv σ ad K i ix.toNatClampNeg = .int (os_g σ K ix.toNatClampNeg i) := by unfold os_fv os_tg; rw [hs]; simp [hlg]
  exact W.zald (v := .int (os_g σ K ix.toNatClampNeg i)) hx hb (os_arr hV.1 hs hi) ((hK.2 t0 _ ht).1 _ _) (fun q => by cases q) (by rw [arrV_size]; exact hin) (by rw [arrV_read _ _ hlt, hfv]) rfl rfl hdg kk
theorem os_zast (hx : p.tables.exec = Jvm.exec) (hb : c.code = cc) {K i t t0 : Nat} {ix v : Int32} (hK : va_K D os_cl tys s) (hV : os_V D cA bs σ0 ad0 s σ ad H locs) (hs : os_sc K = .inr (t, none)) (hlg : os_lg K = false) (ht : tys[t0]? = some (cA t, .boolean)) (hi : i < os_n σ K) (hin : vp_in ix (os_l σ K i)) (hv : narrow .boolean (.int v) = .int v) (hdg : decode cc pc = .ok (.bastore, 1))
    (kk : ∀ (H1 : Heap) (locs1 : List Loc), os_V D cA bs σ0 ad0 s (os_sg σ K ix.toNatClampNeg i v) ad H1 locs1 → W p l e R s m args below meth c H1 locs1 cells slots Q (F0 m (pc + 1) ls rest)) : W p l e R s m args below meth c H locs cells slots Q (F0 m pc ls (.int v :: .int ix :: .ref (ad K i) :: rest)) := by
  have htg : os_tg K ix.toNatClampNeg = none := by unfold os_tg; rw [hs]
  refine W.zast hx hb (os_arr hV.1 hs hi) ((hK.2 t0 _ ht).1 _ _) (fun q => by cases q) (by rw [arrV_size]; exact hin) rfl rfl hdg fun H1 e1 e2 e3 => ?_
  rw [hv] at e1
  exact kk H1 _ (hV.sg hi (os_arrset (σ := σ) (σ' := os_sg σ K ix.toNatClampNeg i v) hs rfl e1 (os_fv_sgs htg hlg) (fun k hk => os_fv_sg hk)) e2 e3)
theorem os_lald (hx : p.tables.exec = Jvm.exec) (hb : c.code = cc) {K i t t0 : Nat} {ix : Int32} (hK : va_K D os_cl tys s) (hV : os_V D cA bs σ0 ad0 s σ ad H locs) (hs : os_sc K = .inr (t, none)) (hlg : os_lg K = true) (ht : tys[t0]? = some (cA t, .long)) (hi : i < os_n σ K) (hin : vp_in ix (os_l σ K i)) (hdg : decode cc pc = .ok (.laload, 1))
    (kk : W p l e R s m args below meth c H locs cells slots Q (F0 m (pc + 1) ls (.long (os_g σ K ix.toNatClampNeg i).toInt64 :: rest))) : W p l e R s m args below meth c H locs cells slots Q (F0 m pc ls (.int ix :: .ref (ad K i) :: rest)) := by
  have hlt : ix.toNatClampNeg < os_l σ K i := Nat.not_le.mp fun q => hin (Or.inr q)
  have hfv : os_fv σ ad K i ix.toNatClampNeg = .long (os_g σ K ix.toNatClampNeg i).toInt64 := by unfold os_fv os_tg; rw [hs]; simp [hlg]
  exact W.lald (v := .long (os_g σ K ix.toNatClampNeg i).toInt64) hx hb (os_arr hV.1 hs hi) ((hK.2 t0 _ ht).1 _ _) (fun q => by cases q) (by rw [arrV_size]; exact hin) (by rw [arrV_read _ _ hlt, hfv]) rfl rfl hdg kk
theorem os_last (hx : p.tables.exec = Jvm.exec) (hb : c.code = cc) {K i t t0 : Nat} {ix v : Int32} (hK : va_K D os_cl tys s) (hV : os_V D cA bs σ0 ad0 s σ ad H locs) (hs : os_sc K = .inr (t, none)) (hlg : os_lg K = true) (ht : tys[t0]? = some (cA t, .long)) (hi : i < os_n σ K) (hin : vp_in ix (os_l σ K i)) (hdg : decode cc pc = .ok (.lastore, 1))
    (kk : ∀ (H1 : Heap) (locs1 : List Loc), os_V D cA bs σ0 ad0 s (os_sg σ K ix.toNatClampNeg i v) ad H1 locs1 → W p l e R s m args below meth c H1 locs1 cells slots Q (F0 m (pc + 1) ls rest)) : W p l e R s m args below meth c H locs cells slots Q (F0 m pc ls (.long v.toInt64 :: .int ix :: .ref (ad K i) :: rest)) := by
  have htg : os_tg K ix.toNatClampNeg = none := by unfold os_tg; rw [hs]
  refine W.last hx hb (os_arr hV.1 hs hi) ((hK.2 t0 _ ht).1 _ _) (fun q => by cases q) (by rw [arrV_size]; exact hin) rfl rfl hdg fun H1 e1 e2 e3 => ?_
  exact kk H1 _ (hV.sg hi (os_arrset (σ := σ) (σ' := os_sg σ K ix.toNatClampNeg i v) hs rfl e1 (os_fv_sgl htg hlg) (fun k hk => os_fv_sg hk)) e2 e3)
theorem os_aastN (hx : p.tables.exec = Jvm.exec) (hb : c.code = cc) {K i t t0 kt : Nat} {C : String} {ix : Int32} (hK : va_K D os_cl tys s) (hV : os_V D cA bs σ0 ad0 s σ ad H locs) (hs : os_sc K = .inr (t, some kt)) (ht : tys[t0]? = some (cA t, .object C)) (hi : i < os_n σ K) (hin : vp_in ix (os_l σ K i)) (hdg : decode cc pc = .ok (.aastore, 1))
    (kk : ∀ (H1 : Heap) (locs1 : List Loc), os_V D cA bs σ0 ad0 s (os_sr σ K ix.toNatClampNeg i none) ad H1 locs1 → W p l e R s m args below meth c H1 locs1 cells slots Q (F0 m (pc + 1) ls rest)) : W p l e R s m args below meth c H locs cells slots Q (F0 m pc ls (.null :: .int ix :: .ref (ad K i) :: rest)) := by
  have htg : os_tg K ix.toNatClampNeg = some kt := by unfold os_tg; rw [hs]
  refine va_WaastN (C := C) hx hb (os_arr hV.1 hs hi) ((hK.2 t0 _ ht).1 _ _) (fun q => by cases q) (by rw [arrV_size]; exact hin) rfl rfl hdg fun H1 e1 e2 e3 => ?_
  exact kk H1 _ (hV.sr hi (fun k t _ h => by cases h) (os_arrset (σ := σ) (σ' := os_sr σ K ix.toNatClampNeg i none) hs rfl e1 ((os_fv_srs htg).trans rfl) (fun k hk => os_fv_sr hk)) e2 e3)
theorem os_aast (hx : p.tables.exec = Jvm.exec) (hb : c.code = cc) {K i t t0 kt ck x : Nat} {r : vw_C} {fds : List (Option Nat)} {ix : Int32} (hK : va_K D os_cl tys s) (hV : os_V D cA bs σ0 ad0 s σ ad H locs) (hs : os_sc K = .inr (t, some kt)) (hsk : os_sc kt = .inl (ck, fds)) (hc : os_cl[ck]? = some r) (ht : tys[t0]? = some (cA t, .object r.1)) (hi : i < os_n σ K) (hxt : x < os_n σ kt) (hin : vp_in ix (os_l σ K i)) (hdg : decode cc pc = .ok (.aastore, 1))
    (kk : ∀ (H1 : Heap) (locs1 : List Loc), os_V D cA bs σ0 ad0 s (os_sr σ K ix.toNatClampNeg i (some x)) ad H1 locs1 → W p l e R s m args below meth c H1 locs1 cells slots Q (F0 m (pc + 1) ls rest)) : W p l e R s m args below meth c H locs cells slots Q (F0 m pc ls (.ref (ad kt x) :: .int ix :: .ref (ad K i) :: rest)) := by
  have htg : os_tg K ix.toNatClampNeg = some kt := by unfold os_tg; rw [hs]
  have hlt : ix.toNatClampNeg < os_l σ K i := Nat.not_le.mp fun q => hin (Or.inr q)
  have h0 : ¬ ix < 0 := fun q => hin (Or.inl q)
  have hv := hV.1.1 kt x hxt
  unfold os_at at hv
  rw [hsk] at hv
  obtain ⟨r', hr', cellV, g1, g2, g3, -⟩ := hv
  have hcls := (hK.1 ck r hc).2
  obtain ⟨kA, comp, k1, k2, k3, -⟩ := (hK.2 t0 _ ht).2
  have hcomp : comp = D.1 ck := Option.some.inj (k3.symm.trans hcls.1)
  subst hcomp
  obtain ⟨kC, hkC, -⟩ := hcls.2
  refine W.aast hx hb (os_arr hV.1 hs hi) (fun q h => by cases h) (fun h => by cases h) k1 k2 rfl hkC ⟨h0, by rw [arrV_size]; exact hlt⟩ g1 (fun q h => by rw [g3] at h; cases h) (by rw [g2]; exact hkC) (by rw [g2]; exact va_assign hcls) rfl rfl hdg fun H1 e1 e2 e3 => ?_
  exact kk H1 _ (hV.sr hi (fun k t h1 h2 => by rw [htg] at h1; cases h1; cases h2; exact hxt) (os_arrset (σ := σ) (σ' := os_sr σ K ix.toNatClampNeg i (some x)) hs rfl e1 ((os_fv_srs htg).trans rfl) (fun k hk => os_fv_sr hk)) e2 e3)
end OSR
end
section
/-! CONTRACTS OVER THE STORE: a method returns or throws -/
/-- how a method ended: with a value or nothing, or with an exception of a class -/
abbrev os_O : Type := Option Value ⊕ String
def os_res (st : State) (o : Outcome) (t : State) (r : os_O) : Prop := match r with
  | .inl v => o = .returned v
  | .inr E => ∃ (q : Addr) (ce : Cell), o = .threw q ∧ t.heap[q]? = some ce ∧ ce.vm = .none ∧ st.vm.findClass E = some ce.cls
def os_Q (D : va_G) (cA : Nat → ClassId) (bs : Nat) (σ : os_S) (ad : Nat → Nat → Nat) (rm : Room) (Post : os_O → os_S → (Nat → Nat → Nat) → Prop) (st : State) (o : Outcome) (t : State) : Prop :=
  ∃ (r : os_O) (σ' : os_S) (ad' : Nat → Nat → Nat), os_res st o t r ∧ Post r σ' ad' ∧ os_W D cA bs σ' ad' t.heap ∧ os_ext σ ad σ' ad' st.heap.size ∧ st.WarmedH t.vm ∧
    ∃ L, st.sameButNew ({ t with vm := st.vm } : State) L rm.cells rm.slots ∧ ∀ q ∈ L, os_A σ ad st.heap.size q.base
def os_Met (l : Launch) (y : MethodName) (b : ByteArray) (nL : Nat) (ret : Option FieldType) (rm : Room) (D : va_G) (cA : Nat → ClassId) (bs : Nat) (av : List Value) (σ : os_S) (ad : Nat → Nat → Nat) (Post : os_O → os_S → (Nat → Nat → Nat) → Prop) : Prop :=
  MetFree l y (headSpec [Cond.code y b nL ret] rm) (fun args U => args = av.toArray ∧ os_EV D cA bs U ∧ os_W D cA bs σ ad U.heap) (fun _ _ _ _ _ => True) (fun _ st o t => os_Q D cA bs σ ad rm Post st o t)
def os_End (D : va_G) (cA : Nat → ClassId) (bs : Nat) (below : List Frame) (s : State) (σ0 : os_S) (ad0 : Nat → Nat → Nat) (rm : Room) (Post : os_O → os_S → (Nat → Nat → Nat) → Prop) : State → Prop := fun t =>
  ∃ o, t.status = .running ∧ Ended t below o ∧ os_Q D cA bs σ0 ad0 rm Post s o t
theorem os_frame {s U : State} {locs : List Loc} {k n : Nat} (h : s.sameButNew ({ U with vm := s.vm } : State) locs k n) : s.heap.size ≤ U.heap.size ∧ ∀ q : Nat, q < s.heap.size → (∀ z ∈ locs, z.base ≠ q) → U.heap[q]? = s.heap[q]? := by
  obtain ⟨-, h2, -, -, -, h6⟩ := h
  refine ⟨h2, fun q hq hz => ?_⟩
  obtain ⟨c9, e1, e2, e3, e4⟩ := h6 q _ (Array.getElem?_eq_getElem hq)
  have hs : c9.slots = (s.heap[q]).slots := Array.ext_getElem? fun i => e4 i fun hm => hz _ hm rfl
  have h9 : c9 = s.heap[q] := by
    rw [hs] at e2
    exact e2
  have e5 : U.heap[q]? = some c9 := e1
  rw [e5, h9, Array.getElem?_eq_getElem hq]
theorem os_L.moved {C n d : String} {bs : Nat} {u U : State} (hvm : u.vm.Alike U.vm) (hh : ∀ q : Nat, q < bs → U.heap[q]? = u.heap[q]?) (h : os_L C n d bs u) : os_L C n d bs U := by
  obtain ⟨c, k, i, f, a, cell, v, h1, h2, h3, h4, h5, h6, h7, h8, h9, h10, h11, h12⟩ := h
  obtain ⟨k', hi', he⟩ := State.fieldFound?_setVm hvm h2
  exact ⟨c, k', i, f, a, cell, v, by rw [hvm.findClass]; exact h1, hi', h3, by rw [he]; exact h4, by rw [hh a h10]; exact h5, h6, h7, h8, by rw [he]; exact h9, h10, h11, h12⟩
theorem os_L.lays {C n d : String} {bs : Nat} {s : State} {args : Array Value} (h : os_L C n d bs s) : (Cond.laysStatic C n d).before args s = true := by
  obtain ⟨c, k, i, f, a, cell, v, h1, h2, h3, h4, h5, h6, h7, h8, h9, -⟩ := h
  show (Cond.laysStatic C n d).holds args s none s [] = true
  exact Cond.laysStatic_of h1 h2 h3 h4 h5 h6 h7 h8 h9
theorem os_L.isRef {C n d : String} {bs : Nat} {s : State} {args : Array Value} (h : os_L C n d bs s) : (Cond.isRef (.static C n d)).before args s = true := by
  obtain ⟨c, k, i, f, a, cell, v, h1, h2, h3, h4, h5, h6, h7, h8, h9, h10, h11, h12⟩ := h
  have he : (Term.static C n d).eval args s none [] s = some v := by
    simp [Term.eval, State.fieldNamed?, h2, h3, h4, h5, h6, h11]
  simp only [Cond.before, Cond.holds, Cond.value, he]
  cases v <;> simp_all [Value.isRef]
theorem os_okw {w : Cond} (h : os_ok w = true) {a a' : Array Value} {s U : State} (hW : s.WarmedH U.vm) (hb : w.before a s = true) : w.before a' U = true := by
  unfold os_ok at h
  rw [Bool.or_eq_true] at h
  rcases h with h | h
  · rw [Bool.and_eq_true] at h
    exact word_at hW (good_of_word h.1) hb
  · cases w with
    | fieldLinkNest x i b n d z => exact va_Nw.use rfl (va_Nw.warmF hW (va_Nw.of rfl hb))
    | methodLinkNest x i b z => exact va_Nw.use rfl (va_Nw.warmM hW (va_Nw.of rfl hb))
    | castable x y => exact va_Nw.use rfl (va_Nw.warmC hW (va_Nw.of rfl hb))
    | declares x => exact va_Nw.use rfl (va_Nw.warmD hW (va_Nw.of rfl hb))
    | _ => simp at h
theorem os_okt {w : Cond} (h : os_ok w = true) : w.onTables = true := by
  unfold os_ok at h
  rw [Bool.or_eq_true] at h
  rcases h with h | h
  · rw [Bool.and_eq_true] at h
    exact h.2
  · cases w with
    | fieldLinkNest x i b n d z => rfl
    | methodLinkNest x i b z => rfl
    | castable x y => rfl
    | declares x => rfl
    | _ => simp at h
theorem os_EV.moved {D : va_G} {cA : Nat → ClassId} {bs : Nat} {u U : State} (h : os_EV D cA bs u) (hW : u.WarmedH U.vm) (hz : u.heap.size ≤ U.heap.size) (hh : ∀ q : Nat, q < bs → U.heap[q]? = u.heap[q]?) : os_EV D cA bs U := by
  obtain ⟨h1, h2, h3, h4, h5, h6⟩ := h
  refine ⟨fun w hw => os_okw (os_tb_ok w hw) hW (h1 w hw), va_K.moved hW.alike h2, Nat.le_trans h3 hz, h4.moved hW.alike hh, h5.moved hW.alike hh, fun q hq => ?_⟩
  obtain ⟨a, ha⟩ := h6 q hq
  exact ⟨a, vk_R.warm hW ha⟩
theorem os_EV.hts {D : va_G} {cA : Nat → ClassId} {bs : Nat} {u : State} (h : os_EV D cA bs u) {args : Array Value} : ∀ w ∈ os_tb, w.before args u = true := fun w hw => va_tabs (os_okt (os_tb_ok w hw)) rfl (h.1 w hw)
theorem os_V.rf {D : va_G} {cA : Nat → ClassId} {bs : Nat} {s : State} {σ : os_S} {ad : Nat → Nat → Nat} (h : os_W D cA bs σ ad s.heap) : os_V D cA bs σ ad s σ ad s.heap [] := ⟨h, os_ext.rf, va_S.rf⟩
/-- the cells below bs stay -/
theorem os_V.low {D : va_G} {cA : Nat → ClassId} {bs : Nat} {s : State} {σ σ0 : os_S} {ad ad0 : Nat → Nat → Nat} {H : Heap} {locs : List Loc} (hV : os_V D cA bs σ0 ad0 s σ ad H locs) (hb : bs ≤ s.heap.size) : ∀ q : Nat, q < bs → H[q]? = s.heap[q]? := by
  intro q hq
  refine hV.2.2.2.1 q (Nat.lt_of_lt_of_le hq hb) (fun hA => ?_)
  rcases hA with ⟨K, i, hi, rfl⟩ | hA
  · have h1 := hV.2.1.2.1 K i hi
    have h2 := hV.1.2.2.2 K i (Nat.lt_of_lt_of_le hi (hV.2.1.1 K))
    omega
  · omega
section OSB
variable {l : Launch}
theorem os_ofW {y : MethodName} {rm : Room} {D : va_G} {cA : Nat → ClassId} {bs : Nat} {av : List Value} {σ : os_S} {ad : Nat → Nat → Nat} {Post : os_O → os_S → (Nat → Nat → Nat) → Prop} {cc : ByteArray} {maxL : Nat} {ret : Option FieldType}
    (hy : plainName y.cls = true)
    (body : ∀ p e s m below meth c, p.tables.exec = Jvm.exec → c.code = cc → meth.sig.returnType = ret → c.maxLocals = maxL → s.vm.findClass y.cls = some m.cls → meth.locks = false → meth.name = y.name → (∀ x ∈ c.exceptionTable.toList, False) → os_EV D cA bs s → os_V D cA bs σ ad s σ ad s.heap [] →
      W p l e rm s m av.toArray below meth c s.heap [] 0 0 (os_End D cA bs below s σ ad rm Post) (entryFrame m av.toArray maxL)) : os_Met l y cc maxL ret rm D cA bs av σ ad Post := by
  refine MetFree.of_bodyS (code := cc) (maxLocals := maxL) (ret := ret) hy ?_ ?_
  · intro args s m h hn
    obtain ⟨meth, c, h1, h2, h3, h4, h5, h6, -, -⟩ := Cond.code_spec hn (atoms_spec (ws := [Cond.code y cc maxL ret]) h _ List.mem_cons_self)
    exact ⟨meth, c, h1, h2, h3, h4, h5, h6⟩
  · intro p e s m args below meth c s₁ B hml hP _
    obtain ⟨rfl, hE, hW⟩ := hP
    have hh0 : s₁.heap = s.heap := by rw [B.state]; rfl
    have ht : ∀ x ∈ c.exceptionTable.toList, False := by
      obtain ⟨meth9, c9, h1, h2, -, -, -, -, h7, -⟩ := Cond.code_spec B.named (atoms_spec (ws := [Cond.code y cc maxL ret]) B.pre _ List.mem_cons_self)
      cases Option.some.inj (h1.symm.trans B.method)
      cases Option.some.inj (h2.symm.trans (Stand.of_body B).code)
      intro x hx
      rw [Array.isEmpty_iff.mp h7] at hx
      cases hx
    obtain ⟨t, a1, o, b1, b2, b3⟩ := body p e s m below meth c B.exec B.bytes B.returns hml (findClass_of_methodNamed B.named) B.notSynchronized (name_of_methodNamed B.named B.method).1 ht hE (os_V.rf hW) s₁ hh0 (Stand.of_body B)
    exact ⟨t, o, a1, b1, b2, b3⟩
end OSB
section OSC
variable {p : Program} {l : Launch} {e : Env} {R : Room} {s : State} {m : MethodId} {args : Array Value} {below : List Frame} {meth : Method} {c : Code} {H : Heap} {locs : List Loc} {cells slots : Nat} {Q : State → Prop}
variable {cc : ByteArray} {pc : Nat} {ls : Array Slot} {rest st0 : List Value} {D : va_G} {cA : Nat → ClassId} {bs : Nat} {σ σ0 : os_S} {ad ad0 : Nat → Nat → Nat}
variable {rm : Room} {Post : os_O → os_S → (Nat → Nat → Nat) → Prop}
/-- the ends -/
theorem os_fin {v : Option Value} {g : JFrame} (hV : os_V D cA bs σ0 ad0 s σ ad H locs) (hp : Post (.inl v) σ ad) (hc : cells ≤ rm.cells) (hs : slots ≤ rm.slots)
    (k : W p l e R s m args below meth c H locs cells slots (MQ below (fun _ st o t => o = .returned v ∧ t.heap = H ∧ st.WarmedH t.vm) args s cells slots (os_A σ0 ad0 s.heap.size)) g) : W p l e R s m args below meth c H locs cells slots (os_End D cA bs below s σ0 ad0 rm Post) g := by
  intro T hT X
  obtain ⟨t, a1, o, b1, b2, ⟨rfl, b4, b5⟩, L, b6, b7⟩ := k T hT X
  exact ⟨t, a1, _, b1, b2, .inl v, σ, ad, rfl, hp, by rw [b4]; exact hV.1, hV.2.1, b5, L, b6.2.2.mono hc hs, b7⟩
theorem os_iret {v : Int32} (hx : p.tables.exec = Jvm.exec) (hb : c.code = cc) (hr : meth.sig.returnType = some .int) (hlocks : meth.locks = false) (hV : os_V D cA bs σ0 ad0 s σ ad H locs) (hc : cells ≤ rm.cells) (hs : slots ≤ rm.slots) (hdg : decode cc pc = .ok (.ireturn, 1)) (hp : Post (.inl (some (.int v))) σ ad) : W p l e R s m args below meth c H locs cells slots (os_End D cA bs below s σ0 ad0 rm Post) (F0 m pc ls [.int v]) :=
  os_fin hV hp hc hs (W.iret hx hb hr (fun t h1 h2 => ⟨rfl, h1, h2⟩) hV.2.2.2.2 hdg hlocks)
theorem os_zret {v : Int32} {ty : FieldType} (hx : p.tables.exec = Jvm.exec) (hb : c.code = cc) (hr : meth.sig.returnType = some ty) (hn : narrow ty (.int v) = .int v) (hlocks : meth.locks = false) (hV : os_V D cA bs σ0 ad0 s σ ad H locs) (hc : cells ≤ rm.cells) (hs : slots ≤ rm.slots) (hdg : decode cc pc = .ok (.ireturn, 1)) (hp : Post (.inl (some (.int v))) σ ad) : W p l e R s m args below meth c H locs cells slots (os_End D cA bs below s σ0 ad0 rm Post) (F0 m pc ls [.int v]) :=
  os_fin hV hp hc hs (W.zret hx hb hr hn (fun t h1 h2 => ⟨rfl, h1, h2⟩) hV.2.2.2.2 hdg hlocks)
theorem os_vret (hx : p.tables.exec = Jvm.exec) (hb : c.code = cc) (hr : meth.sig.returnType = none) (hlocks : meth.locks = false) (hV : os_V D cA bs σ0 ad0 s σ ad H locs) (hc : cells ≤ rm.cells) (hs : slots ≤ rm.slots) (hdg : decode cc pc = .ok (.return_, 1)) (hp : Post (.inl none) σ ad) : W p l e R s m args below meth c H locs cells slots (os_End D cA bs below s σ0 ad0 rm Post) (F0 m pc ls []) :=
  os_fin hV hp hc hs (W.vret hx hb hr (fun t h1 h2 => ⟨rfl, h1, h2⟩) hV.2.2.2.2 hdg hlocks)
theorem os_aret {v : Value} {rt : FieldType} (hx : p.tables.exec = Jvm.exec) (hb : c.code = cc) (hr : meth.sig.returnType = some rt) (hrt : (∃ n, rt = .object n) ∨ ∃ t, rt = .array t) (hv : v = .null ∨ ∃ a, v = .ref a) (hlocks : meth.locks = false) (hV : os_V D cA bs σ0 ad0 s σ ad H locs) (hc : cells ≤ rm.cells) (hs : slots ≤ rm.slots) (hdg : decode cc pc = .ok (.areturn, 1)) (hp : Post (.inl (some v)) σ ad) : W p l e R s m args below meth c H locs cells slots (os_End D cA bs below s σ0 ad0 rm Post) (F0 m pc ls [v]) :=
  os_fin hV hp hc hs (W.aret hx hb hr hrt hv (fun t h1 h2 => ⟨rfl, h1, h2⟩) hV.2.2.2.2 hdg hlocks)
end OSC
end
section
/-! CALLS: by contract, with both ends; exceptions that leave, that are caught, that are thrown here -/
section OSD
variable {p : Program} {l : Launch} {e : Env} {R : Room} {s : State} {m : MethodId} {args : Array Value} {below : List Frame} {meth : Method} {c : Code} {H : Heap} {locs : List Loc} {cells slots : Nat} {Q : State → Prop}
variable {cc : ByteArray} {pc : Nat} {ls : Array Slot} {rest st0 : List Value} {D : va_G} {cA : Nat → ClassId} {bs : Nat} {σ σ0 : os_S} {ad ad0 : Nat → Nat → Nat}
variable {rm : Room} {Post : os_O → os_S → (Nat → Nat → Nat) → Prop}
/-- an exception q stands above the frame g -/
def os_WX (p : Program) (l : Launch) (e : Env) (R : Room) (s : State) (m : MethodId) (args : Array Value) (below : List Frame) (meth : Method) (c : Code) (H : Heap) (locs : List Loc) (cells slots : Nat) (Q : State → Prop) (g : JFrame) (q : Addr) : Prop :=
  ∀ T : State, T.heap = H → Stand p l e R s m args below meth c T locs cells slots → ∃ t, Steps p.tables e below ((T.setTop g).pushFrame (.throwing q)) t ∧ Q t
/-- an instruction that invokes y with av -/
def os_In (p : Program) (l : Launch) (e : Env) (R : Room) (s : State) (m : MethodId) (args : Array Value) (below : List Frame) (meth : Method) (c : Code) (H : Heap) (locs : List Loc) (cells slots : Nat) (g : JFrame) (rest : List Value) (y : MethodName) (av : List Value) : Prop :=
  ∀ T : State, T.heap = H → Stand p l e R s m args below meth c T locs cells slots → ∃ (vm₁ : Vm) (mk : MethodId) (ig : Instr), Stand p l e R s m args below meth c (T.setVm vm₁) locs cells slots ∧ (T.setVm vm₁).methodNamed? y = some mk ∧ decode c.code g.pc = .ok (ig, 3) ∧
    ∀ target, Steps p.tables e below (doInvoke e ((T.setVm vm₁).setTop { g with stack := rest }) [] mk av.toArray).1 target → Steps p.tables e below (T.setTop g) target
theorem os_call {y : MethodName} {b : ByteArray} {nL' : Nat} {ret' : Option FieldType} {rm' : Room} {av : List Value} {Post' : os_O → os_S → (Nat → Nat → Nat) → Prop} (hM : os_Met l y b nL' ret' rm' D cA bs av σ ad Post') (hE : os_EV D cA bs s) (hV : os_V D cA bs σ0 ad0 s σ ad H locs)
    (hcode : Cond.code y b nL' ret' ∈ os_tb) (hini : Cond.initialized y.cls ∈ os_tb) (hIn : os_In p l e R s m args below meth c H locs cells slots (F0 m pc ls st0) rest y av)
    (hsize : ls.size = c.maxLocals) (hst : (rest.map fun v => v.category).sum ≤ 8) (hf : rm'.frames + 1 ≤ R.frames) (hlo : 8 + (nL' + 11) + rm'.locals ≤ R.locals) (hcc : cells + rm'.cells ≤ R.cells) (hss : slots + rm'.slots ≤ R.slots)
    (kr : ∀ (v : Option Value) (σ' : os_S) (ad' : Nat → Nat → Nat) (H1 : Heap) (locs1 : List Loc), Post' (.inl v) σ' ad' → os_ext σ ad σ' ad' H.size → os_V D cA bs σ0 ad0 s σ' ad' H1 locs1 → W p l e R s m args below meth c H1 locs1 (cells + rm'.cells) (slots + rm'.slots) Q (F0 m (pc + 3) ls (v.toList ++ rest)))
    (kx : ∀ (E : String) (q : Addr) (ce : Cell) (σ' : os_S) (ad' : Nat → Nat → Nat) (H1 : Heap) (locs1 : List Loc), Post' (.inr E) σ' ad' → os_ext σ ad σ' ad' H.size → os_V D cA bs σ0 ad0 s σ' ad' H1 locs1 → H1[q]? = some ce → ce.vm = .none → s.vm.findClass E = some ce.cls →
      os_WX p l e R s m args below meth c H1 locs1 (cells + rm'.cells) (slots + rm'.slots) Q (F0 m pc ls rest) q) : W p l e R s m args below meth c H locs cells slots Q (F0 m pc ls st0) := by
  intro T hT X
  obtain ⟨vm₁, mk, ig, X₁, hn, hdg, hstep⟩ := hIn T hT X
  generalize hU : T.setVm vm₁ = U at X₁ hn hstep
  have hUh : U.heap = H := by rw [← hU]; exact hT
  have hstep : ∀ target, Steps p.tables e below (doInvoke e (U.setTop (F0 m pc ls rest)) [] mk av.toArray).1 target → Steps p.tables e below (T.setTop (F0 m pc ls st0)) target := hstep
  obtain ⟨g, hgd⟩ : ∃ z, z = F0 m pc ls rest := ⟨_, rfl⟩
  have hgm : g.method = m := by rw [hgd]
  have hgl : g.locals.size = c.maxLocals := by rw [hgd]; exact hsize
  have hgp : g.pc = pc := by rw [hgd]
  have hgs : 2 * g.monitorRoom + (g.stack.map fun v => v.category).sum ≤ 8 := by
    rw [hgd]
    show 2 * 0 + (rest.map fun v => v.category).sum ≤ 8
    omega
  rw [← hgd] at hstep
  have hEU : os_EV D cA bs U := hE.moved X₁.warmed (by rw [hUh]; exact hV.2.2.1) (fun q hq => by rw [hUh]; exact hV.low hE.2.2.1 q hq)
  have h1 : (headSpec [Cond.code y b nL' ret'] rm').pre.before av.toArray U = true := atoms_intro fun w hw => by
    rw [List.mem_singleton] at hw
    subst hw
    exact hEU.hts _ hcode
  have h2 : (Cond.code y b nL' ret').before av.toArray U = true := hEU.hts _ hcode
  have h3 : (Cond.initialized y.cls).before av.toArray U = true := hEU.hts _ hini
  obtain ⟨methY, cY, hmY, hcY, -, hlY, -, -, -, -⟩ := Cond.code_spec hn h2
  obtain ⟨kY, hkY, -⟩ := className_of_methodNamed hn
  have hinitY : kY.init = .initialized := Cond.initialized_spec (findClass_of_methodNamed hn) hkY h3
  have h : At U g.method c below := by rw [hgm]; exact X₁.here
  have hdg' : decode c.code g.pc = .ok (ig, 3) := by rw [hgp]; exact hdg
  have happ : (headSpec [Cond.code y b nL' ret'] rm').appliesLoose y e.platform (U.calling g mk av.toArray) = true :=
    Spec.appliesLoose_calling (g := g) h hdg' hn hkY hinitY
      (X₁.room_calling (g := g) (R' := (headSpec [Cond.code y b nL' ret'] rm').room) hgl hmY hcY hf (by rw [hlY]; show _ + rm'.locals ≤ R.locals; omega) hcc hss) h1
  obtain ⟨mid, hmid⟩ := h.above
  have hfr : (U.setTop g).frames = (.java g :: mid) ++ below := by rw [State.frames_setTop' g h.top, hmid]; rfl
  have hEc : os_EV D cA bs (U.calling g mk av.toArray) := hEU.moved (U := U.calling g mk av.toArray) (State.WarmedH.refl U) (Nat.le_refl _) (fun _ _ => rfl)
  have hWc : os_W D cA bs σ ad (U.calling g mk av.toArray).heap := by
    show os_W D cA bs σ ad U.heap
    rw [hUh]; exact hV.1
  obtain ⟨o, s₂, hsteps, -, hend, hq⟩ := Steps.callFree hM p X₁.admits X₁.cas X₁.clock (acts := []) hfr happ ⟨rfl, hEc, hWc⟩ trivial
  have hq' : os_Q D cA bs σ ad rm' Post' (U.calling g mk av.toArray) o s₂ := hq
  rw [State.frames_setTop' g h.top] at hend
  obtain ⟨g₀, hg0⟩ := Option.isSome_iff_exists.mp h.top
  obtain ⟨r, hr⟩ := State.topJava?_eq_some.mp hg0
  have hr' : (({ U with heap := s₂.heap, slotsUsed := s₂.slotsUsed } : State).setVm s₂.vm).frames = .java g₀ :: r := hr
  obtain ⟨ro, σ', ad', hres, hpost, hW', hext, hW₂, L, hsm, hL⟩ := hq'
  have hext' : os_ext σ ad σ' ad' H.size := by rw [← hUh]; exact hext
  have hWs : U.WarmedH s₂.vm := hW₂
  obtain ⟨fr1, fr2⟩ := os_frame hsm
  have fr1 : U.heap.size ≤ s₂.heap.size := fr1
  have fr2 : ∀ q : Nat, q < U.heap.size → (∀ z ∈ L, z.base ≠ q) → s₂.heap[q]? = U.heap[q]? := fr2
  obtain ⟨e2, q2, q3, q4, q5, q6⟩ := id hsm
  have e3 : s₂ = ({ (U.calling g mk av.toArray).setFrames s₂.frames with heap := s₂.heap, slotsUsed := s₂.slotsUsed } : State).setVm s₂.vm := by
    have : s₂ = ({ s₂ with vm := (U.calling g mk av.toArray).vm } : State).setVm s₂.vm := rfl
    rw [e2] at this
    exact this
  have hsame : U.sameButNew ({ U with heap := s₂.heap, slotsUsed := s₂.slotsUsed } : State) L rm'.cells rm'.slots := by
    refine ⟨?_, q2, q3, q4, q5, q6⟩
    obtain ⟨t, ht, -⟩ := State.frames_cons hr
    show ({ U with heap := s₂.heap, slotsUsed := s₂.slotsUsed } : State) = { U.setFrames U.frames with heap := s₂.heap, slotsUsed := s₂.slotsUsed }
    rw [State.setFrames_self ht]
  have XB : Stand p l e R s m args below meth c (({ U with heap := s₂.heap, slotsUsed := s₂.slotsUsed } : State).setVm s₂.vm) (locs ++ L) (cells + rm'.cells) (slots + rm'.slots) :=
    ⟨X₁.admits, X₁.cas, X₁.clock, X₁.frames, X₁.room, X₁.hears, X₁.method, X₁.code, (X₁.here.setHeapUsed s₂.heap s₂.slotsUsed).setVm hWs.alike, X₁.tail, State.WarmedH.trans X₁.warmed hWs, X₁.limits, X₁.bytes, X₁.same.trans (hsame.setVm s.vm)⟩
  have hA1 : ∀ q, os_A σ ad U.heap.size q → os_A σ0 ad0 s.heap.size q := fun q hq => hV.2.1.A (by rw [hUh]; exact hV.2.2.1) hq
  have hV' : os_V D cA bs σ0 ad0 s σ' ad' s₂.heap (locs ++ L) := by
    refine ⟨hW', hV.2.1.trans hext' hV.2.2.1, Nat.le_trans hV.2.2.1 (by rw [← hUh]; exact fr1), fun q h1 h2 => ?_, fun q hq => ?_⟩
    · rw [fr2 q (by rw [hUh]; exact Nat.lt_of_lt_of_le h1 hV.2.2.1) (fun z hz hzq => h2 (by rw [← hzq]; exact hA1 _ (hL z hz))), hUh]
      exact hV.2.2.2.1 q h1 h2
    · rcases List.mem_append.mp hq with h | h
      · exact hV.2.2.2.2 q h
      · exact hA1 _ (hL q h)
  cases ro with
  | inl v =>
    have ho : o = .returned v := hres
    subst ho
    obtain ⟨c₂, i₂, len₂, hc₂, hd₂, hf₂⟩ := hend
    have hccq : c₂ = c := by
      have h1 : s₂.code? g.method = U.code? g.method := by
        rw [State.code?_eq, State.code?_eq, hWs.alike.method?]
      exact Option.some.inj (hc₂.symm.trans (h1.trans h.code))
    subst hccq
    have hlen : len₂ = 3 := by rw [hdg'] at hd₂; cases hd₂; rfl
    subst hlen
    have hs₂ : s₂ = (({ U with heap := s₂.heap, slotsUsed := s₂.slotsUsed } : State).setVm s₂.vm).setTop { g with pc := g.pc + 3, stack := v.toList ++ g.stack } := by
      refine e3.trans ?_
      rw [hf₂, State.calling_eq h.top, State.setFrames_setFrames, State.setTop_of_frames _ hr', hr]
      rfl
    obtain ⟨t2, a1, b1⟩ := kr v σ' ad' s₂.heap (locs ++ L) hpost hext' hV' (({ U with heap := s₂.heap, slotsUsed := s₂.slotsUsed } : State).setVm s₂.vm) rfl XB
    refine ⟨t2, hstep t2 ?_, b1⟩
    refine hsteps.trans ?_
    rw [hs₂]
    rw [hgd]
    exact a1
  | inr E =>
    obtain ⟨q, ce, ho, hce, hcv, hcl⟩ := hres
    subst ho
    have hf₂ : s₂.frames = .throwing q :: .java g :: U.frames.tail := hend
    have hs₂ : s₂ = ((({ U with heap := s₂.heap, slotsUsed := s₂.slotsUsed } : State).setVm s₂.vm).setTop g).pushFrame (.throwing q) := by
      refine e3.trans ?_
      rw [hf₂, State.calling_eq h.top, State.setFrames_setFrames, State.pushFrame, State.frames_setTop _ hr', State.setTop_of_frames _ hr', State.setFrames_setFrames, hr]
      rfl
    have hcl' : s.vm.findClass E = some ce.cls := by
      have h9 : U.vm.findClass E = some ce.cls := hcl
      rw [X₁.warmed.alike.findClass] at h9
      exact h9
    obtain ⟨t2, a1, b1⟩ := kx E q ce σ' ad' s₂.heap (locs ++ L) hpost hext' hV' hce hcv hcl' (({ U with heap := s₂.heap, slotsUsed := s₂.slotsUsed } : State).setVm s₂.vm) rfl XB
    refine ⟨t2, hstep t2 ?_, b1⟩
    refine hsteps.trans ?_
    rw [hs₂]
    rw [hgd]
    exact a1
/-- not caught here: it leaves -/
theorem os_out {E : String} {q : Addr} {ce : Cell} (hout : ∀ x ∈ c.exceptionTable.toList, False) (hlocks : meth.locks = false) (hV : os_V D cA bs σ0 ad0 s σ ad H locs) (hce : H[q]? = some ce) (hcv : ce.vm = .none) (hcl : s.vm.findClass E = some ce.cls) (hc : cells ≤ rm.cells) (hs : slots ≤ rm.slots) (hp : Post (.inr E) σ ad) :
    os_WX p l e R s m args below meth c H locs cells slots (os_End D cA bs below s σ0 ad0 rm Post) (F0 m pc ls rest) q := by
  intro T hT X
  obtain ⟨st1, hrun, hend, hW, hsm⟩ := X.leaveThrown q (g := F0 m pc ls rest) rfl rfl rfl (fun x hx => (hout x hx).elim) hlocks
  refine ⟨_, st1, .threw q, hrun, hend, .inr E, σ, ad, ⟨q, ce, rfl, ?_, hcv, hcl⟩, hp, ?_, hV.2.1, hW, locs, hsm.mono hc hs, hV.2.2.2.2⟩
  · show T.heap[q]? = some ce
    rw [hT]; exact hce
  · show os_W D cA bs σ ad T.heap
    rw [hT]; exact hV.1
/-- the six ways to invoke -/
theorem os_inV {own C : String} {index : Nat} {y : MethodName} {bytes : ByteArray} {maxL : Nat} {ret : Option FieldType} {b : Addr} {As : List Value} {n : Nat} (hx : p.tables.exec = Jvm.exec) (hb : c.code = cc) (hown : s.vm.findClass own = some m.cls)
    (hlink : (Cond.methodLink own index y).before args s = true) (hinst : (Cond.instanceMethod y).before args s = true) (hsel : (Cond.selects C y y).before args s = true) (hcode : (Cond.code y bytes maxL ret).before args s = true)
    (hy : y.cls ≠ "java/lang/invoke/MethodHandle" ∧ y.cls ≠ "java/lang/invoke/VarHandle" ∧ (parseMethodDescriptor y.desc).map (fun d => d.parameters.length) = some n) (hn : As.length = n)
    (hrecv : ∃ cellB : Cell, H[b]? = some cellB ∧ cellB.vm.isStatics = false ∧ s.vm.findClass C = some cellB.cls) (hst : st0 = As.reverse ++ .ref b :: rest) (hdg : decode cc pc = .ok (.invokevirtual index, 3)) :
    os_In p l e R s m args below meth c H locs cells slots (F0 m pc ls st0) rest y (.ref b :: As) := by
  intro T hT X
  obtain ⟨mk, methM, hnamed, hmethM, hstM, habM⟩ := Cond.instanceMethod_spec hinst
  obtain ⟨methM', cM, hmethM', -, -, -, -, -, -, hsigM⟩ := Cond.code_spec hnamed hcode
  cases hmethM.symm.trans hmethM'
  obtain ⟨cellB, hcB, hoB, hclB⟩ := hrecv
  obtain ⟨c2, r2, m2, q1, q2, q3, q4, kP, hkP, hkPi⟩ := Cond.selects_spec hsel
  cases hclB.symm.trans q1
  cases (State.methodFound?_of_named hnamed ⟨hy.1, hy.2.1⟩).symm.trans q2
  cases hnamed.symm.trans q3
  have hselP : selectMethod e.platform s.vm cellB.cls mk = .method mk := by rw [Launch.admits_selectMethod X.admits]; exact q4
  have hlen : As.length = methM.sig.parameters.length := by
    have h2 := hy.2.2
    rw [hsigM] at h2
    exact hn.trans (Option.some.inj h2).symm
  obtain ⟨vm₁, X₁, hstep₁⟩ := X.invokevirtual hx hown hlink hnamed hmethM hstM hkP hkPi ⟨hy.1, hy.2.1⟩ (a := b) (cell := cellB) (by rw [hT]; exact hcB)
    (fun z h => by rw [h] at hoB; cases hoB) hselP hmethM habM hkP hkPi (g := F0 m pc ls st0) rfl (argsL := As) (rest := rest) hlen hst (by rw [hb]; exact hdg)
  exact ⟨vm₁, mk, _, X₁, X₁.named hnamed, by rw [hb]; exact hdg, fun target h => hstep₁ _ fun acts => by rw [doInvoke_state]; exact h⟩
theorem os_inVN {own C host : String} {index : Nat} {y : MethodName} {bytes : ByteArray} {maxL : Nat} {ret : Option FieldType} {b : Addr} {As : List Value} {n : Nat} (hx : p.tables.exec = Jvm.exec) (hb : c.code = cc) (hown : s.vm.findClass own = some m.cls)
    (hlink : (Cond.methodLinkNest own index y host).before args s = true) (hinst : (Cond.instanceMethod y).before args s = true) (hsel : (Cond.selects C y y).before args s = true) (hcode : (Cond.code y bytes maxL ret).before args s = true)
    (hy : y.cls ≠ "java/lang/invoke/MethodHandle" ∧ y.cls ≠ "java/lang/invoke/VarHandle" ∧ (parseMethodDescriptor y.desc).map (fun d => d.parameters.length) = some n) (hn : As.length = n)
    (hrecv : ∃ cellB : Cell, H[b]? = some cellB ∧ cellB.vm.isStatics = false ∧ s.vm.findClass C = some cellB.cls) (hst : st0 = As.reverse ++ .ref b :: rest) (hdg : decode cc pc = .ok (.invokevirtual index, 3)) :
    os_In p l e R s m args below meth c H locs cells slots (F0 m pc ls st0) rest y (.ref b :: As) := by
  intro T hT X
  obtain ⟨mk, methM, hnamed, hmethM, hstM, habM⟩ := Cond.instanceMethod_spec hinst
  obtain ⟨methM', cM, hmethM', -, -, -, -, -, -, hsigM⟩ := Cond.code_spec hnamed hcode
  cases hmethM.symm.trans hmethM'
  obtain ⟨cellB, hcB, hoB, hclB⟩ := hrecv
  obtain ⟨c2, r2, m2, q1, q2, q3, q4, kP, hkP, hkPi⟩ := Cond.selects_spec hsel
  cases hclB.symm.trans q1
  cases (State.methodFound?_of_named hnamed ⟨hy.1, hy.2.1⟩).symm.trans q2
  cases hnamed.symm.trans q3
  have hselP : selectMethod e.platform s.vm cellB.cls mk = .method mk := by rw [Launch.admits_selectMethod X.admits]; exact q4
  have hlen : As.length = methM.sig.parameters.length := by
    have h2 := hy.2.2
    rw [hsigM] at h2
    exact hn.trans (Option.some.inj h2).symm
  obtain ⟨vm₁, X₁, hstep₁⟩ := X.invokevirtualNest hx hown hlink hnamed hmethM hstM hkP hkPi ⟨hy.1, hy.2.1⟩ (a := b) (cell := cellB) (by rw [hT]; exact hcB)
    (fun z h => by rw [h] at hoB; cases hoB) hselP hmethM habM hkP hkPi (g := F0 m pc ls st0) rfl (argsL := As) (rest := rest) hlen hst (by rw [hb]; exact hdg)
  exact ⟨vm₁, mk, _, X₁, X₁.named hnamed, by rw [hb]; exact hdg, fun target h => hstep₁ _ fun acts => by rw [doInvoke_state]; exact h⟩
theorem os_inS {own : String} {index : Nat} {y : MethodName} {bytes : ByteArray} {maxL : Nat} {ret : Option FieldType} {As : List Value} {n : Nat} (hx : p.tables.exec = Jvm.exec) (hb : c.code = cc) (hown : s.vm.findClass own = some m.cls)
    (hlink : (Cond.methodLink own index y).before args s = true) (hstat : (Cond.static y).before args s = true) (hinit : (Cond.initialized y.cls).before args s = true) (hcode : (Cond.code y bytes maxL ret).before args s = true)
    (hy : y.cls ≠ "java/lang/invoke/MethodHandle" ∧ y.cls ≠ "java/lang/invoke/VarHandle" ∧ (parseMethodDescriptor y.desc).map (fun d => d.parameters.length) = some n) (hn : As.length = n)
    (hst : st0 = As.reverse ++ rest) (hdg : decode cc pc = .ok (.invokestatic index, 3)) :
    os_In p l e R s m args below meth c H locs cells slots (F0 m pc ls st0) rest y As := by
  intro T hT X
  obtain ⟨mk, hnamed⟩ := Cond.code_named hcode
  obtain ⟨methM, cM, hmethM, -, -, -, -, -, -, hsigM⟩ := Cond.code_spec hnamed hcode
  have hstatic : methM.isStatic = true := Cond.static_spec hnamed hmethM hstat
  obtain ⟨kP, hkP, -⟩ := className_of_methodNamed hnamed
  have hinitP : kP.init = .initialized := Cond.initialized_spec (findClass_of_methodNamed hnamed) hkP hinit
  have hlen : As.length = methM.sig.parameters.length := by
    have h2 := hy.2.2
    rw [hsigM] at h2
    exact hn.trans (Option.some.inj h2).symm
  obtain ⟨vm₁, X₁, hstep₁⟩ := X.invokestatic hx hown hlink hnamed hmethM hstatic hkP hinitP ⟨hy.1, hy.2.1⟩ (g := F0 m pc ls st0) rfl (argsL := As) (rest := rest) hlen hst (by rw [hb]; exact hdg)
  exact ⟨vm₁, mk, _, X₁, X₁.named hnamed, by rw [hb]; exact hdg, fun target h => hstep₁ _ fun acts => by rw [doInvoke_state]; exact h⟩
theorem os_inSN {own host : String} {index : Nat} {y : MethodName} {bytes : ByteArray} {maxL : Nat} {ret : Option FieldType} {As : List Value} {n : Nat} (hx : p.tables.exec = Jvm.exec) (hb : c.code = cc) (hown : s.vm.findClass own = some m.cls)
    (hlink : (Cond.methodLinkNest own index y host).before args s = true) (hstat : (Cond.static y).before args s = true) (hinit : (Cond.initialized y.cls).before args s = true) (hcode : (Cond.code y bytes maxL ret).before args s = true)
    (hy : y.cls ≠ "java/lang/invoke/MethodHandle" ∧ y.cls ≠ "java/lang/invoke/VarHandle" ∧ (parseMethodDescriptor y.desc).map (fun d => d.parameters.length) = some n) (hn : As.length = n)
    (hst : st0 = As.reverse ++ rest) (hdg : decode cc pc = .ok (.invokestatic index, 3)) :
    os_In p l e R s m args below meth c H locs cells slots (F0 m pc ls st0) rest y As := by
  intro T hT X
  obtain ⟨mk, hnamed⟩ := Cond.code_named hcode
  obtain ⟨methM, cM, hmethM, -, -, -, -, -, -, hsigM⟩ := Cond.code_spec hnamed hcode
  have hstatic : methM.isStatic = true := Cond.static_spec hnamed hmethM hstat
  obtain ⟨kP, hkP, -⟩ := className_of_methodNamed hnamed
  have hinitP : kP.init = .initialized := Cond.initialized_spec (findClass_of_methodNamed hnamed) hkP hinit
  have hlen : As.length = methM.sig.parameters.length := by
    have h2 := hy.2.2
    rw [hsigM] at h2
    exact hn.trans (Option.some.inj h2).symm
  obtain ⟨vm₁, X₁, hstep₁⟩ := X.invokestaticNest hx hown hlink hnamed hmethM hstatic hkP hinitP ⟨hy.1, hy.2.1⟩ (g := F0 m pc ls st0) rfl (argsL := As) (rest := rest) hlen hst (by rw [hb]; exact hdg)
  exact ⟨vm₁, mk, _, X₁, X₁.named hnamed, by rw [hb]; exact hdg, fun target h => hstep₁ _ fun acts => by rw [doInvoke_state]; exact h⟩
theorem os_inI {own : String} {index : Nat} {y : MethodName} {bytes : ByteArray} {maxL : Nat} {b : Addr} {As : List Value} {n : Nat} (hx : p.tables.exec = Jvm.exec) (hb : c.code = cc) (hown : s.vm.findClass own = some m.cls)
    (hlink : (Cond.methodLink own index y).before args s = true) (hy1 : y.name = "<init>") (hinst : (Cond.instanceMethod y).before args s = true) (hcode : (Cond.code y bytes maxL none).before args s = true)
    (hy : y.cls ≠ "java/lang/invoke/MethodHandle" ∧ y.cls ≠ "java/lang/invoke/VarHandle" ∧ (parseMethodDescriptor y.desc).map (fun d => d.parameters.length) = some n) (hn : As.length = n)
    (hst : st0 = As.reverse ++ .ref b :: rest) (hdg : decode cc pc = .ok (.invokespecial index, 3)) :
    os_In p l e R s m args below meth c H locs cells slots (F0 m pc ls st0) rest y (.ref b :: As) := by
  intro T hT X
  have hpl : e.platform.magicAccessors = ({} : Platform).magicAccessors := by rw [X.admits.platform]
  have hlen : ∀ sig, parseMethodDescriptor y.desc = some sig → As.length = sig.parameters.length := fun sig h => by
    have h2 := hy.2.2
    rw [h] at h2
    exact hn.trans (Option.some.inj h2).symm
  obtain ⟨mk, methM, cM, kP, vm₁, hnamed, hmethM, hcodeM, -, hlocalsM, -, hkP, -, hW₁, hstep₁⟩ := Steps.initColdArgs (e := e) X.here hx X.warmed hpl hown hy1 ⟨hy.1, hy.2.1⟩ hlink hinst hcode (f := F0 m pc ls st0) rfl hlen hst (by rw [hb]; exact hdg)
  have X₁ := X.noted hW₁
  exact ⟨vm₁, mk, _, X₁, X₁.named hnamed, by rw [hb]; exact hdg, fun target h => hstep₁ _ fun acts => by rw [doInvoke_state]; exact h⟩
theorem os_inIN {own host : String} {index : Nat} {y : MethodName} {bytes : ByteArray} {maxL : Nat} {b : Addr} {As : List Value} {n : Nat} (hx : p.tables.exec = Jvm.exec) (hb : c.code = cc) (hown : s.vm.findClass own = some m.cls)
    (hlink : (Cond.methodLinkNest own index y host).before args s = true) (hy1 : y.name = "<init>") (hinst : (Cond.instanceMethod y).before args s = true) (hcode : (Cond.code y bytes maxL none).before args s = true)
    (hy : y.cls ≠ "java/lang/invoke/MethodHandle" ∧ y.cls ≠ "java/lang/invoke/VarHandle" ∧ (parseMethodDescriptor y.desc).map (fun d => d.parameters.length) = some n) (hn : As.length = n)
    (hst : st0 = As.reverse ++ .ref b :: rest) (hdg : decode cc pc = .ok (.invokespecial index, 3)) :
    os_In p l e R s m args below meth c H locs cells slots (F0 m pc ls st0) rest y (.ref b :: As) := by
  intro T hT X
  have hpl : e.platform.magicAccessors = ({} : Platform).magicAccessors := by rw [X.admits.platform]
  have hlen : ∀ sig, parseMethodDescriptor y.desc = some sig → As.length = sig.parameters.length := fun sig h => by
    have h2 := hy.2.2
    rw [h] at h2
    exact hn.trans (Option.some.inj h2).symm
  obtain ⟨mk, methM, cM, kP, vm₁, hnamed, hmethM, hcodeM, -, hlocalsM, -, hkP, -, hW₁, hstep₁⟩ := Steps.initColdArgsNest (e := e) X.here hx X.warmed hpl hown hy1 ⟨hy.1, hy.2.1⟩ hlink hinst hcode (f := F0 m pc ls st0) rfl hlen hst (by rw [hb]; exact hdg)
  have X₁ := X.noted hW₁
  exact ⟨vm₁, mk, _, X₁, X₁.named hnamed, by rw [hb]; exact hdg, fun target h => hstep₁ _ fun acts => by rw [doInvoke_state]; exact h⟩
theorem os_recv {K i ci : Nat} {r : vw_C} {fds : List (Option Nat)} {tys : List (ClassId × FieldType)} (hK : va_K D os_cl tys s) (hV : os_V D cA bs σ0 ad0 s σ ad H locs) (hs : os_sc K = .inl (ci, fds)) (hc : os_cl[ci]? = some r) (hi : i < os_n σ K) : ∃ cellB : Cell, H[ad K i]? = some cellB ∧ cellB.vm.isStatics = false ∧ s.vm.findClass r.1 = some cellB.cls := by
  have h := hV.1.1 K i hi
  unfold os_at at h
  rw [hs] at h
  obtain ⟨r', h1, cell, g1, g2, g3, -⟩ := h
  exact ⟨cell, g1, by rw [g3]; rfl, by rw [g2]; exact (hK.1 ci r hc).2.1⟩
end OSD
end
section
/-! ROWS THAT MAKE: objects, arrays, exceptions -/
section OSM
variable {p : Program} {l : Launch} {e : Env} {R : Room} {s : State} {m : MethodId} {args : Array Value} {below : List Frame} {meth : Method} {c : Code} {H : Heap} {locs : List Loc} {cells slots : Nat} {Q : State → Prop}
variable {cc : ByteArray} {pc : Nat} {ls : Array Slot} {rest st0 : List Value} {D : va_G} {cA : Nat → ClassId} {bs : Nat} {σ σ0 : os_S} {ad ad0 : Nat → Nat → Nat} {tys : List (ClassId × FieldType)}
variable {rm : Room} {Post : os_O → os_S → (Nat → Nat → Nat) → Prop}
def os_df (K k : Nat) : Value := match os_tg K k with
  | none => if os_lg K = true then .long 0 else .int 0
  | some _ => .null
theorem os_fv_nw {K L k : Nat} {ad' : Nat → Nat → Nat} : os_fv (os_nw σ K L) ad' K (os_n σ K) k = os_df K k := by
  unfold os_fv os_df
  cases os_tg K k with
  | none =>
    have he : os_g (os_nw σ K L) K k (os_n σ K) = 0 := by rw [os_g_nw, if_pos ⟨rfl, rfl⟩]
    show (if os_lg K = true then Value.long (os_g (os_nw σ K L) K k (os_n σ K)).toInt64 else .int (os_g (os_nw σ K L) K k (os_n σ K))) = _
    rw [he]
    rfl
  | some t =>
    show va_rf ((os_r (os_nw σ K L) K k (os_n σ K)).map (ad' t)) = _
    rw [os_r_nw, if_pos ⟨rfl, rfl⟩]
    rfl
theorem os_V.nw {K L : Nat} {H1 : Heap} (hV : os_V D cA bs σ0 ad0 s σ ad H locs) (hbs : bs ≤ s.heap.size) (hat : os_at D cA (os_nw σ K L) (os_ad ad K (os_n σ K) H.size) H1 K (os_n σ K)) (z1 : H1.size = H.size + 1) (o1 : ∀ q : Nat, q < H.size → H1[q]? = H[q]?) : os_V D cA bs σ0 ad0 s (os_nw σ K L) (os_ad ad K (os_n σ K) H.size) H1 locs :=
  ⟨hV.1.nw (Nat.le_trans hbs hV.2.2.1) hat o1, hV.2.1.trans os_ext.nw hV.2.2.1, Nat.le_trans hV.2.2.1 (by omega), fun x h1 h2 => (o1 x (Nat.lt_of_lt_of_le h1 hV.2.2.1)).trans (hV.2.2.2.1 x h1 h2), hV.2.2.2.2⟩
theorem os_new (hx : p.tables.exec = Jvm.exec) (hb : c.code = cc) {own C : String} {T : u_T} {N ci index K : Nat} {fds : List (Option Nat)} {Ts : List Cond} (hts : ∀ w ∈ Ts, w.before args s = true) (hin : ∀ w ∈ u_ws C T N, w ∈ Ts) (ty0 : Nat → FieldType) (hty : ∀ k, k < N → parseFieldDescriptor (T k).2.2.1 = some (ty0 k)) (hown : s.vm.findClass own = some m.cls)
    (hcl : (Cond.classLink own index C).before args s = true) (hinst : (Cond.instantiable C N).before args s = true) (hini : (Cond.initialized C).before args s = true) (hK : va_K D os_cl tys s) (hbs : bs ≤ s.heap.size) (hV : os_V D cA bs σ0 ad0 s σ ad H locs)
    (hs : os_sc K = .inl (ci, fds)) (hc : os_cl[ci]? = some (C, T, N)) (hdf : ∀ k, k < N → defaultValue (ty0 k) = os_df K k) (hcells : cells + 1 ≤ R.cells) (hslots : slots + N ≤ R.slots) (hdg : decode cc pc = .ok (.new index, 3))
    (kk : ∀ (ad' : Nat → Nat → Nat) (H1 : Heap), os_V D cA bs σ0 ad0 s (os_nw σ K 0) ad' H1 locs → (∀ K' i, i < os_n σ K' → ad' K' i = ad K' i) → W p l e R s m args below meth c H1 locs (cells + 1) (slots + N) Q (F0 m (pc + 3) ls (.ref (ad' K (os_n σ K)) :: rest))) : W p l e R s m args below meth c H locs cells slots Q (F0 m pc ls rest) := by
  have hKn := hK.1 ci _ hc
  refine W.newcK hx hb hown hcl hinst hini rfl hdg hcells hslots hKn.2.1 rfl fun H1 kC hkC e1 z1 o1 => ?_
  have hat : os_at D cA (os_nw σ K 0) (os_ad ad K (os_n σ K) H.size) H1 K (os_n σ K) := by
    unfold os_at
    rw [hs]
    refine ⟨_, hc, ?_⟩
    rw [os_ad_eq, if_pos ⟨rfl, rfl⟩]
    exact (u_born ty0 hts hin hKn hkC e1 hty).to (fun k hk => (hdf k hk).trans os_fv_nw.symm)
  have hk := kk _ H1 (hV.nw hbs hat z1 o1) (fun K' i hi => (os_ext.nw (σ := σ) (ad := ad) (K := K) (L := 0) (sz := H.size)).2.1 K' i hi)
  rw [os_ad_eq, if_pos ⟨rfl, rfl⟩] at hk
  exact hk
theorem os_newi (hx : p.tables.exec = Jvm.exec) (hb : c.code = cc) {atype : ArrayType} {ty : FieldType} {K t t0 : Nat} {n : Int32} {N' : Nat} (hat : newarray.typeOf atype = ty) (harr : (Cond.arrayClass ty).before args s = true) (hra : ∀ (U : State) (c9 : ClassId), va_RA U c9 ty = (U.vm.findClass ("[" ++ ty.toString) = some c9)) (hK : va_K D os_cl tys s) (hbs : bs ≤ s.heap.size) (hV : os_V D cA bs σ0 ad0 s σ ad H locs) (hs : os_sc K = .inr (t, none)) (ht : tys[t0]? = some (cA t, ty)) (hdf : ∀ k, defaultValue ty = os_df K k)
    (hn : ¬ n < 0) (hN : n.toNatClampNeg = N') (hbytes : N' * componentBytes ty ≤ 536870912) (hcells : cells + 1 ≤ R.cells) (hslots : slots + N' ≤ R.slots) (hdg : decode cc pc = .ok (.newarray atype, 2))
    (kk : ∀ (ad' : Nat → Nat → Nat) (H1 : Heap), os_V D cA bs σ0 ad0 s (os_nw σ K N') ad' H1 locs → (∀ K' i, i < os_n σ K' → ad' K' i = ad K' i) → W p l e R s m args below meth c H1 locs (cells + 1) (slots + N') Q (F0 m (pc + 2) ls (.ref (ad' K (os_n σ K)) :: rest))) : W p l e R s m args below meth c H locs cells slots Q (F0 m pc ls (.int n :: rest)) := by
  subst hat
  refine va_newaK hx hb harr rfl hdg rfl hn hN hbytes hcells hslots rfl fun H1 cI e1 z1 o1 hAr hNm => ?_
  have hcI : cI = cA t := by
    have h9 := (hK.2 t0 _ ht).2
    rw [hra] at h9
    exact Option.some.inj (hNm.symm.trans h9)
  have hat2 : os_at D cA (os_nw σ K N') (os_ad ad K (os_n σ K) H.size) H1 K (os_n σ K) := by
    unfold os_at
    rw [hs]
    show H1[os_ad ad K (os_n σ K) H.size K (os_n σ K)]? = some (arrV (cA t) (os_l (os_nw σ K N') K (os_n σ K)) (os_fv (os_nw σ K N') (os_ad ad K (os_n σ K) H.size) K (os_n σ K)))
    rw [os_ad_eq, if_pos ⟨rfl, rfl⟩, e1, hcI, os_l_nw, if_pos ⟨rfl, rfl⟩]
    congr 2
    funext k
    rw [os_fv_nw, hdf k]
  have hk := kk _ H1 (hV.nw hbs hat2 z1 o1) (fun K' i hi => (os_ext.nw (σ := σ) (ad := ad) (K := K) (L := N') (sz := H.size)).2.1 K' i hi)
  rw [os_ad_eq, if_pos ⟨rfl, rfl⟩] at hk
  exact hk
theorem os_newq (hx : p.tables.exec = Jvm.exec) (hb : c.code = cc) {own C : String} {index K t t0 kt : Nat} {n : Int32} {N' : Nat} (hown : s.vm.findClass own = some m.cls) (hclink : (Cond.classLink own index C).before args s = true) (hover : (Cond.arrayOver (.object C)).before args s = true) (hK : va_K D os_cl tys s) (hbs : bs ≤ s.heap.size) (hV : os_V D cA bs σ0 ad0 s σ ad H locs) (hs : os_sc K = .inr (t, some kt)) (ht : tys[t0]? = some (cA t, .object C))
    (hn : ¬ n < 0) (hN : n.toNatClampNeg = N') (hbytes : N' * 4 ≤ 536870912) (hcells : cells + 1 ≤ R.cells) (hslots : slots + N' ≤ R.slots) (hdg : decode cc pc = .ok (.anewarray index, 3))
    (kk : ∀ (ad' : Nat → Nat → Nat) (H1 : Heap), os_V D cA bs σ0 ad0 s (os_nw σ K N') ad' H1 locs → (∀ K' i, i < os_n σ K' → ad' K' i = ad K' i) → W p l e R s m args below meth c H1 locs (cells + 1) (slots + N') Q (F0 m (pc + 3) ls (.ref (ad' K (os_n σ K)) :: rest))) : W p l e R s m args below meth c H locs cells slots Q (F0 m pc ls (.int n :: rest)) := by
  subst hN
  refine W.anew hx hb hown hclink hover rfl hdg rfl hn hbytes hcells hslots fun cI kA comp f1 f2 f3 f4 => ?_
  generalize hH1 : H.push ({ cls := cI, slots := Array.replicate n.toNatClampNeg .null, vm := .none } : Cell) = H1
  have z1 : H1.size = H.size + 1 := by rw [← hH1, Array.size_push]
  have e1 : H1[H.size]? = some (arrV cI n.toNatClampNeg (fun _ => .null)) := by rw [← hH1, Array.getElem?_push_size, ← arrV_new]
  have o1 : ∀ q : Nat, q < H.size → H1[q]? = H[q]? := fun q hq => by rw [← hH1, Array.getElem?_push, if_neg (Nat.ne_of_lt hq)]
  have hcI : cI = cA t := by
    obtain ⟨_, _, _, _, _, h9⟩ := (hK.2 t0 _ ht).2
    exact Option.some.inj (f1.symm.trans h9)
  have hat2 : os_at D cA (os_nw σ K n.toNatClampNeg) (os_ad ad K (os_n σ K) H.size) H1 K (os_n σ K) := by
    unfold os_at
    rw [hs]
    show H1[os_ad ad K (os_n σ K) H.size K (os_n σ K)]? = some (arrV (cA t) (os_l (os_nw σ K n.toNatClampNeg) K (os_n σ K)) (os_fv (os_nw σ K n.toNatClampNeg) (os_ad ad K (os_n σ K) H.size) K (os_n σ K)))
    rw [os_ad_eq, if_pos ⟨rfl, rfl⟩, e1, hcI, os_l_nw, if_pos ⟨rfl, rfl⟩]
    congr 2
    funext k
    rw [os_fv_nw]
    unfold os_df os_tg
    rw [hs]
  have hk := kk _ H1 (hV.nw hbs hat2 z1 o1) (fun K' i hi => (os_ext.nw (σ := σ) (ad := ad) (K := K) (L := n.toNatClampNeg) (sz := H.size)).2.1 K' i hi)
  rw [os_ad_eq, if_pos ⟨rfl, rfl⟩] at hk
  exact hk
/-- the words of a throw but the four that speak of the heap -/
def os_no (w : Cond) : Bool := decide (w ≠ .isRef (.static Bundle.tN "UNASSIGNED_STACK" Bundle.steD)) && decide (w ≠ .isRef (.static Bundle.tN "SUPPRESSED_SENTINEL" Bundle.listD)) && decide (w ≠ .laysStatic Bundle.tN "UNASSIGNED_STACK" Bundle.steD) && decide (w ≠ .laysStatic Bundle.tN "SUPPRESSED_SENTINEL" Bundle.listD)
theorem os_own {args : Array Value} {s : State} {D : va_G} {cA : Nat → ClassId} {bs : Nat} {L : List Cond} (hE : os_EV D cA bs s) (h1 : ∀ w ∈ L.filter os_no, w ∈ os_tb) : ∀ w ∈ L, w.before args s = true := by
  intro w hw
  by_cases e1 : w = .isRef (.static Bundle.tN "UNASSIGNED_STACK" Bundle.steD)
  · rw [e1]; exact hE.2.2.2.1.isRef
  · by_cases e2 : w = .isRef (.static Bundle.tN "SUPPRESSED_SENTINEL" Bundle.listD)
    · rw [e2]; exact hE.2.2.2.2.1.isRef
    · by_cases e3 : w = .laysStatic Bundle.tN "UNASSIGNED_STACK" Bundle.steD
      · rw [e3]; exact hE.2.2.2.1.lays
      · by_cases e4 : w = .laysStatic Bundle.tN "SUPPRESSED_SENTINEL" Bundle.listD
        · rw [e4]; exact hE.2.2.2.2.1.lays
        · exact hE.hts w (h1 w (List.mem_filter.mpr ⟨hw, by unfold os_no; rw [decide_eq_true e1, decide_eq_true e2, decide_eq_true e3, decide_eq_true e4]; rfl⟩))
/-- the frame as if its method were called anew in this heap -/
theorem os_rebase {T : State} (X : Stand p l e R s m args below meth c T locs cells slots) {R' : Room} (hf : R'.frames ≤ R.frames) (hl : R'.locals ≤ R.locals) (hc : cells + R'.cells ≤ R.cells) (hs : slots + R'.slots ≤ R.slots) :
    Stand p l e R' ((T.setVm s.vm).setFrames (.invoking m args :: below)) m args below meth c T [] 0 0 := by
  have htop : (T.setVm s.vm).topJava?.isSome := X.here.top
  have hF : ((T.setVm s.vm).setFrames (.invoking m args :: below)).frames = .invoking m args :: below := State.frames_setFrames _ (State.cur_lt_of_top htop)
  obtain ⟨g₀, hg0⟩ := Option.isSome_iff_exists.mp htop
  obtain ⟨r, hr⟩ := State.topJava?_eq_some.mp hg0
  obtain ⟨th, ht, -⟩ := State.frames_cons hr
  have hdrop : ((T.heap.toList.drop T.heap.size).map (·.slots.size)).sum = 0 := by
    rw [List.drop_eq_nil_of_le (Nat.le_of_eq Array.length_toList)]
    rfl
  refine ⟨X.admits, X.cas, X.clock, hF, ?_, X.hears, X.method, X.code, X.here, X.tail, X.warmed, ?_, ?_, ?_, Nat.le_refl _, Nat.le_refl _, ?_, ?_, fun a c9 h9 => ⟨c9, h9, rfl, rfl, fun _ _ => rfl⟩⟩
  · have h := X.room
    have hU : ((T.setVm s.vm).setFrames (.invoking m args :: below)).localsInUse = s.localsInUse := by
      rw [State.localsInUse_invoking hF (meth := meth) (c := c) X.method X.code, State.localsInUse_invoking X.frames X.method X.code]
    have hl9 : e.platform.stackLimits (T.setVm s.vm).me = e.platform.stackLimits s.me := X.limits
    have hb9 : (T.setVm s.vm).me.stackBytes = s.me.stackBytes := X.bytes
    have q1 := X.heapSize
    have q2 := X.used
    simp only [State.hasRoom, Bool.and_eq_true, decide_eq_true_eq] at h ⊢
    obtain ⟨⟨⟨⟨h1, h2, h3, h4, h5, h6⟩, h7⟩, h8⟩, h9⟩ := h
    rw [X.frames, List.length_cons] at h2 h3
    simp only [hF, hU, List.length_cons, State.stackLimits_setFrames, State.stackBytes_setFrames, hl9, hb9]
    refine ⟨⟨⟨⟨by omega, by omega, by omega, by omega, by omega, h6⟩, ?_⟩, ?_⟩, X.book⟩
    · show T.heap.size + R'.cells ≤ e.platform.maxCells
      omega
    · show T.slotsUsed + R'.slots ≤ e.platform.maxSlots
      omega
  · rw [State.stackLimits_setFrames]; exact X.limits.trans X.limits.symm
  · rw [State.stackBytes_setFrames]; rfl
  · show T.setVm s.vm = { ((T.setVm s.vm).setFrames (.invoking m args :: below)).setFrames (T.setVm s.vm).frames with heap := T.heap, slotsUsed := T.slotsUsed }
    rw [State.setFrames_setFrames, State.setFrames_self ht]
    rfl
  · show T.slotsUsed = T.slotsUsed + ((T.heap.toList.drop T.heap.size).map (·.slots.size)).sum
    rw [hdrop]; rfl
  · show ((T.heap.toList.drop T.heap.size).map (·.slots.size)).sum ≤ 0
    rw [hdrop]; exact Nat.le_refl _
/-- 'throw new E("text")': new; dup; ldc; invokespecial; athrow, in a body without handlers; w is 2, with a wide index 3 -/
theorem os_throw {own cls text : String} {names : List String} {ik is ic : Nat} (hx : p.tables.exec = Jvm.exec) (hb : c.code = cc) (hl : l.stackTraces = false) (hown : s.vm.findClass own = some m.cls) (hcls : Bundle.fit cls = true) (hnames : ∀ n ∈ names, Bundle.fit n = true)
    (hE : os_EV D cA bs s) (hV : os_V D cA bs σ0 ad0 s σ ad H locs) (hk : Cond.classLink own ik cls ∈ os_tb) (hini : Cond.initialized cls ∈ os_tb) (hstr : (own, is, text) ∈ os_str) (hat : ∀ w ∈ (Bundle.ownAtoms own ic cls names).filter os_no, w ∈ os_tb)
    (hsize : ls.size = c.maxLocals) (d0 : decode cc pc = .ok (.new ik, 3)) (d3 : decode cc (pc + 3) = .ok (.dup, 1)) (d4 : decode cc (pc + 4) = .ok (.ldc is, 2)) (d6 : decode cc (pc + 6) = .ok (.invokespecial ic, 3)) (d9 : decode cc (pc + 9) = .ok (.athrow, 1))
    (hout : ∀ x ∈ c.exceptionTable.toList, False) (hlocks : meth.locks = false) (hRf : names.length + 3 < R.frames) (hRl : (rest.map fun v => v.category).sum + (13 * (names.length + 1) + 43) ≤ R.locals) (hRc : cells + 1 ≤ R.cells) (hRs : slots + 6 ≤ R.slots) (hc : cells + 1 ≤ rm.cells) (hs : slots + 6 ≤ rm.slots) (hp : Post (.inr cls) σ ad) :
    W p l e R s m args below meth c H locs cells slots (os_End D cA bs below s σ0 ad0 rm Post) (F0 m pc ls rest) := by
  intro T hT X
  have htr : e.platform.stackTraces = false := (show e.platform.stackTraces = l.stackTraces by rw [X.admits.platform]).trans hl
  have Y := os_rebase X (R' := { frames := R.frames, locals := R.locals, cells := 1, slots := 6 }) (Nat.le_refl _) (Nat.le_refl _) hRc hRs
  obtain ⟨s', hA⟩ : ∃ z, z = (T.setVm s.vm).setFrames (.invoking m args :: below) := ⟨_, rfl⟩
  rw [← hA] at Y
  have hvm : s'.vm = s.vm := by rw [hA]; rfl
  have hhp : s'.heap = H := by rw [hA]; exact hT
  have hW0 : s.WarmedH s'.vm := by rw [hvm]; exact State.WarmedH.refl s
  have hE' : os_EV D cA bs s' := hE.moved hW0 (by rw [hhp]; exact hV.2.2.1) (fun q hq => by rw [hhp]; exact hV.low hE.2.2.1 q hq)
  have h : ∀ w ∈ Bundle.ownAtoms own ic cls names, w.before args s' = true := os_own hE' hat
  have hown' : s'.vm.findClass own = some m.cls := by rw [hvm]; exact hown
  have hins : (Cond.instantiable cls 6).before args s' = true := h _ (by simp [Bundle.ownAtoms])
  obtain ⟨vm₁, cX, kX, hfX, hkX, -, -, X₁, st1⟩ := Y.newCold hx (own := own) (C := cls) (index := ik) (n := 6) hown' (hE'.hts _ hk) hins (hE'.hts _ hini)
    (g := F0 m pc ls rest) rfl (by rw [hb]; exact d0) (Nat.le_refl _) (Nat.le_refl _)
  generalize hT1 : (T.setVm vm₁).pushCell { cls := cX, slots := kX.instanceTypes.map defaultValue, vm := .none } = T1 at X₁ st1
  have hcat : (Value.ref T.heap.size).category = 1 := rfl
  have hcellA : T1.heap[T.heap.size]? = some (freshCell cX kX) := by rw [← hT1]; exact State.heap_pushCell_size _ _
  have d3' : decode c.code (pc + 3) = .ok (.dup, 1) := by rw [hb]; exact d3
  have d4' : decode c.code (pc + 4) = .ok (.ldc is, 2) := by rw [hb]; exact d4
  obtain ⟨sa, hstr'⟩ := hE'.2.2.2.2.2 _ hstr
  obtain ⟨U, hsteps, hrun, hend, hW, hsame, ce, hce, hO⟩ := X₁.ctorThrowS hx htr (own := own) (cls := cls) (names := names) (ic := ic) hown' hcls hnames h (fun x hx => nomatch hx) hfX hkX hcellA (by rw [hhp, hT]; exact Nat.le_refl _) (msg := .ref sa) rfl
    (g := { method := m, pc := pc + 6, locals := ls, stack := .ref sa :: .ref T.heap.size :: .ref T.heap.size :: rest, locked := none }) rfl hsize rfl rfl (rest := rest) rfl
    (by rw [hb]; exact d6) (by rw [hb]; exact d9) (fun x hx => (hout x hx).elim) hRf (by simp only [List.map_cons, List.sum_cons, hcat]; omega) hlocks
  obtain ⟨f1, f2⟩ := os_frame hsame
  rw [hhp] at f1 f2
  have hWs : s.WarmedH U.vm := State.WarmedH.trans hW0 hW
  have hcl : s.vm.findClass cls = some ce.cls := by
    have h9 := hO.cls
    rw [hvm] at h9
    exact h9
  have hall : s.sameButNew ({ U with vm := s.vm } : State) locs rm.cells rm.slots := by
    subst hA
    obtain ⟨e1, e2⟩ := hsame
    rw [State.setFrames_setFrames] at e1
    have h2 : (T.setVm s.vm).sameButNew ({ U with vm := s.vm } : State) [] (0 + 1) (0 + 6) := ⟨e1, e2⟩
    have h3 := X.same.trans h2
    rw [List.append_nil] at h3
    exact h3.mono hc hs
  have hWU : os_W D cA bs σ ad U.heap := by
    obtain ⟨w1, w2, w3, w4⟩ := hV.1
    exact ⟨fun K i hi => (w1 K i hi).to rfl (f2 _ (w1 K i hi).lt (fun z hz => nomatch hz)) rfl (fun _ => rfl), w2, w3, w4⟩
  refine ⟨U, ?_, .threw T.heap.size, hrun, hend, .inr cls, σ, ad, ⟨T.heap.size, ce, rfl, hce, hO.vm, hcl⟩, hp, hWU, hV.2.1, hWs, locs, hall, hV.2.2.2.2⟩
  refine st1 _ ?_
  show Steps p.tables e below (T1.setTop { method := m, pc := pc + 3, locals := ls, stack := .ref T.heap.size :: rest, locked := none }) _
  jvm_step X₁.here [X₁.here.top, hx, d3', Value.category]
  exact X₁.ldcString hx (own := own) (text := text) (index := is) (a := sa) hown' hstr'.1 hstr'.2
    (g := { method := m, pc := pc + 4, locals := ls, stack := .ref T.heap.size :: .ref T.heap.size :: rest, locked := none }) rfl d4' _ hsteps
end OSM
end
section
/-! AN EXCEPTION IS CAUGHT: the search goes through the rows of the table, each row's class cold or warm -/
/-- the search from S ends at a handler, the tables then being vm' -/
def os_Fd (e : Env) (S : State) (f : JFrame) (a : Addr) (pc : Nat) (vm' : Vm) : Prop :=
  ∀ (Q : Handler → Pre) (E : CtlPost) (d : Bool) (acts : List Action), wp (findHandler f a) Q E e d acts S ↔ Q (.found pc) d acts (S.setVm vm')
theorem os_goYes {Q : Handler → Pre} {E : CtlPost} {e : Env} {d : Bool} {acts : List Action} {s : State} {f : JFrame} {a : Addr} {x : ExceptionTableEntry} {t : List ExceptionTableEntry} {c : ClassId} {cell : Cell} (hx : covers x f.pc = true) (h0 : x.catchType ≠ 0)
    (hl : s.vm.ClassLinks e.platform f.method.cls x.catchType c) (hcell : s.heap[a]? = some cell) (hobj : ∀ k, cell.vm ≠ .statics k) (hk : ∃ k, s.vm.classes[cell.cls]? = some k) (hc : ∃ k, s.vm.classes[c]? = some k) (hfit : s.vm.assignable cell.cls c = true) :
    wp (findHandler.go f a (x :: t)) Q E e d acts s ↔ Q (.found x.handlerPc) d acts (s.setVm (s.vm.noted f.method.cls x.catchType (.cls c))) := by
  simp only [covers] at hx
  obtain ⟨ha, ht⟩ := (resolveClass_links e.toSetting hl).op (op := VmOp.resolveClass f.method.cls x.catchType) rfl
  have hal : s.vm.Alike (s.vm.noted f.method.cls x.catchType (.cls c)) := (Vm.Alike.refl s.vm).noted _ _ _
  obtain ⟨k1, hk1⟩ := hk
  obtain ⟨k2, hk2⟩ := hc
  obtain ⟨k1', hk1', -⟩ := hal.2.2 _ _ hk1
  obtain ⟨k2', hk2', -⟩ := hal.2.2 _ _ hk2
  have hf : (s.vm.noted f.method.cls x.catchType (.cls c)).assignable cell.cls c = true := by rw [hal.assignable]; exact hfit
  simp [findHandler.go, hx, h0, ha, ht, hcell, hobj, hk1', hk2', hf, VmOp.dirties, VmOp.acts]
theorem os_goNo {Q : Handler → Pre} {E : CtlPost} {e : Env} {d : Bool} {acts : List Action} {s : State} {f : JFrame} {a : Addr} {x : ExceptionTableEntry} {t : List ExceptionTableEntry} {c : ClassId} {cell : Cell} (hx : covers x f.pc = true) (h0 : x.catchType ≠ 0)
    (hl : s.vm.ClassLinks e.platform f.method.cls x.catchType c) (hcell : s.heap[a]? = some cell) (hobj : ∀ k, cell.vm ≠ .statics k) (hk : ∃ k, s.vm.classes[cell.cls]? = some k) (hc : ∃ k, s.vm.classes[c]? = some k) (hno : s.vm.assignable cell.cls c = false) :
    wp (findHandler.go f a (x :: t)) Q E e d acts s ↔ wp (findHandler.go f a t) Q E e d acts (s.setVm (s.vm.noted f.method.cls x.catchType (.cls c))) := by
  simp only [covers] at hx
  obtain ⟨ha, ht⟩ := (resolveClass_links e.toSetting hl).op (op := VmOp.resolveClass f.method.cls x.catchType) rfl
  have hal : s.vm.Alike (s.vm.noted f.method.cls x.catchType (.cls c)) := (Vm.Alike.refl s.vm).noted _ _ _
  obtain ⟨k1, hk1⟩ := hk
  obtain ⟨k2, hk2⟩ := hc
  obtain ⟨k1', hk1', -⟩ := hal.2.2 _ _ hk1
  obtain ⟨k2', hk2', -⟩ := hal.2.2 _ _ hk2
  have hf : (s.vm.noted f.method.cls x.catchType (.cls c)).assignable cell.cls c = false := by rw [hal.assignable]; exact hno
  simp [findHandler.go, hx, h0, ha, ht, hcell, hobj, hk1', hk2', hf, VmOp.dirties, VmOp.acts]
/-- a row that is passed: it doesn't cover the place, or its class takes no such object -/
def os_pass (e : Env) (s0 : State) (f : JFrame) (th : ClassId) (y : ExceptionTableEntry) : Prop := covers y f.pc = false ∨ (y.catchType ≠ 0 ∧ ∃ c, s0.vm.ClassLinks e.platform f.method.cls y.catchType c ∧ s0.vm.assignable th c = false)
theorem os_goAll {e : Env} {s0 : State} {f : JFrame} {a : Addr} {cell : Cell} (hobj : ∀ k, cell.vm ≠ .statics k) (hk0 : ∃ k, s0.vm.classes[cell.cls]? = some k) (x : ExceptionTableEntry) (rest : List ExceptionTableEntry) (hx : covers x f.pc = true) (h0 : x.catchType ≠ 0) {c : ClassId} (hl : s0.vm.ClassLinks e.platform f.method.cls x.catchType c) (hfit : s0.vm.assignable cell.cls c = true) :
    ∀ (pre : List ExceptionTableEntry) (S : State), s0.WarmedH S.vm → S.heap[a]? = some cell → (∀ y ∈ pre, os_pass e s0 f cell.cls y) →
      ∃ vm', s0.WarmedH vm' ∧ ∀ (Q : Handler → Pre) (E : CtlPost) (d : Bool) (acts : List Action), wp (findHandler.go f a (pre ++ x :: rest)) Q E e d acts S ↔ Q (.found x.handlerPc) d acts (S.setVm vm') := by
  obtain ⟨k0, hk0⟩ := hk0
  intro pre
  induction pre with
  | nil =>
    intro S hW hcell _
    obtain ⟨k0', hk0', -⟩ := hW.alike.2.2 _ _ hk0
    obtain ⟨dk, _, _, kt, hd, _, _, _, _, hkt, _, hopen⟩ := hl.here
    obtain ⟨kt', hkt', -⟩ := hW.alike.2.2 _ _ hkt
    exact ⟨_, hW.noted hd hopen (State.rightAt_cls hl), fun Q E d acts => os_goYes hx h0 (hW.classLinks hl) hcell hobj ⟨k0', hk0'⟩ ⟨kt', hkt'⟩ (by rw [hW.alike.assignable]; exact hfit)⟩
  | cons y ys ih =>
    intro S hW hcell hpass
    obtain ⟨k0', hk0', -⟩ := hW.alike.2.2 _ _ hk0
    have hrest : ∀ z ∈ ys, os_pass e s0 f cell.cls z := fun z hz => hpass z (List.mem_cons_of_mem _ hz)
    by_cases hcov : covers y f.pc = true
    · rcases hpass y List.mem_cons_self with h | ⟨hy0, c1, hl1, hno⟩
      · rw [h] at hcov; cases hcov
      · obtain ⟨dk, _, _, kt, hd, _, _, _, _, hkt, _, hopen⟩ := hl1.here
        obtain ⟨kt', hkt', -⟩ := hW.alike.2.2 _ _ hkt
        obtain ⟨vm', hW', hq⟩ := ih (S.setVm (S.vm.noted f.method.cls y.catchType (.cls c1))) (hW.noted hd hopen (State.rightAt_cls hl1)) hcell hrest
        exact ⟨vm', hW', fun Q E d acts => by
          rw [List.cons_append, os_goNo hcov hy0 (hW.classLinks hl1) hcell hobj ⟨k0', hk0'⟩ ⟨kt', hkt'⟩ (by rw [hW.alike.assignable]; exact hno)]
          exact hq Q E d acts⟩
    · obtain ⟨vm', hW', hq⟩ := ih S hW hcell hrest
      exact ⟨vm', hW', fun Q E d acts => by
        rw [List.cons_append, W.findHandler_go_skip (by simpa using hcov)]
        exact hq Q E d acts⟩
theorem os_stepCatch {e : Env} {s : State} {a : Addr} {f : JFrame} {r : List Frame} {pc : Nat} {vm' : Vm} (hfind : os_Fd e s f a pc vm') :
    (stepThrowing e s a (.java f :: r)).Is ((s.setVm vm').setFrames (.java { f with pc := pc, stack := [.ref a] } :: r)) [] := by
  simp only [stepThrowing, searchFrame, vmDo]
  generalize hr : Sem.go _ e false [] s = res
  obtain ⟨as, rfl, ha⟩ := Sem.eq_ok_of hr (a := Handler.found pc) (s' := s.setVm vm') (acts' := []) (by simp [hfind _ _ _ _])
  exact ⟨rfl, ha⟩
theorem os_stepsCatch {tb : Tables} {e : Env} {s target : State} {g : JFrame} {c : Code} {below : List Frame} {a : Addr} (h : At s g.method c below) {pc : Nat} {vm' : Vm}
    (hfind : os_Fd e ((s.setTop g).pushFrame (.throwing a)) g a pc vm') (hrest : Steps tb e below ((s.setVm vm').setTop { g with pc := pc, stack := [.ref a] }) target) :
    Steps tb e below ((s.setTop g).pushFrame (.throwing a)) target := by
  obtain ⟨hgo, hw⟩ := h.throwing a
  refine Steps.head hgo hw ?_
  rw [stepThread_throwing (frames_entered h.top _), (os_stepCatch (s := (s.setTop g).pushFrame (.throwing a)) hfind).1]
  obtain ⟨g₀, hg⟩ := Option.isSome_iff_exists.mp h.top
  obtain ⟨r, hr⟩ := State.topJava?_eq_some.mp hg
  have hr' : (s.setVm vm').frames = .java g₀ :: r := hr
  have hfv : ∀ (u : State) (F G : List Frame), ((u.setFrames F).setVm vm').setFrames G = (u.setVm vm').setFrames G := fun u F G => by
    have h1 : (u.setFrames F).setVm vm' = (u.setVm vm').setFrames F := rfl
    rw [h1, State.setFrames_setFrames]
  rw [State.setTop_of_frames _ hr'] at hrest
  rw [hr, List.tail_cons, State.pushFrame, hfv, State.setTop_of_frames _ hr, hfv]
  exact hrest
section OSK
variable {p : Program} {l : Launch} {e : Env} {R : Room} {s : State} {m : MethodId} {args : Array Value} {below : List Frame} {meth : Method} {c : Code} {H : Heap} {locs : List Loc} {cells slots : Nat} {Q : State → Prop} {pc : Nat} {ls : Array Slot} {rest : List Value}
/-- caught by the row x of this method's table; the rows ahead don't take it -/
theorem os_catch {own name E : String} {ce : Cell} {q : Addr} (hown : s.vm.findClass own = some m.cls) (pre : List ExceptionTableEntry) (x : ExceptionTableEntry) (suf : List ExceptionTableEntry) (hsplit : c.exceptionTable.toList = pre ++ x :: suf)
    (hpass : ∀ z ∈ pre, covers z pc = false ∨ (z.catchType ≠ 0 ∧ ∃ nm : String, (Cond.classLink own z.catchType nm).before args s = true ∧ va_Nc E nm s)) (hx : covers x pc = true) (h0 : x.catchType ≠ 0)
    (hlink : (Cond.classLink own x.catchType name).before args s = true) (hcast : (Cond.castable E name).before args s = true) (hcell : H[q]? = some ce) (hv : ce.vm = .none) (hcl : s.vm.findClass E = some ce.cls)
    (kk : W p l e R s m args below meth c H locs cells slots Q (F0 m x.handlerPc ls [.ref q])) : os_WX p l e R s m args below meth c H locs cells slots Q (F0 m pc ls rest) q := by
  intro T hT X
  have hpl : e.platform.magicAccessors = ({} : Platform).magicAccessors := by rw [X.admits.platform]
  obtain ⟨c3, c4, hc3, hc4, hasg⟩ := Cond.castable_spec hcast
  cases Option.some.inj (hc3.symm.trans hcl)
  obtain ⟨c5, hc5, hcl5⟩ := Cond.classLink_spec hown hlink e.platform hpl
  cases Option.some.inj (hc4.symm.trans hc5)
  have hobj : ∀ k, ce.vm ≠ .statics k := fun k h => by rw [hv] at h; cases h
  obtain ⟨vm', hW', hq⟩ := os_goAll (e := e) (s0 := s) (f := F0 m pc ls rest) (a := q) hobj (by obtain ⟨k9, h9, -⟩ := Vm.findClass_spec hcl; exact ⟨k9, h9⟩) x suf hx h0 hcl5 hasg pre ((T.setTop (F0 m pc ls rest)).pushFrame (.throwing q)) X.warmed (by show T.heap[q]? = _; rw [hT]; exact hcell)
    (fun z hz => by
      rcases hpass z hz with h | ⟨hz0, nm, hl1, hn1⟩
      · exact Or.inl h
      · obtain ⟨c6, hc6, hcl6⟩ := Cond.classLink_spec hown hl1 e.platform hpl
        obtain ⟨a8, b8, h1, h2, h3⟩ := hn1
        cases Option.some.inj (h1.symm.trans hcl)
        cases Option.some.inj (h2.symm.trans hc6)
        exact Or.inr ⟨hz0, _, hcl6, h3⟩)
  have hfd : os_Fd e ((T.setTop (F0 m pc ls rest)).pushFrame (.throwing q)) (F0 m pc ls rest) q x.handlerPc vm' := fun Q E d acts => by
    rw [W.findHandler_eq (meth := meth) (code := c) X.method' X.code, hsplit]
    exact hq Q E d acts
  obtain ⟨t, a1, b1⟩ := kk (T.setVm vm') hT (X.noted hW')
  exact ⟨t, os_stepsCatch X.here hfd a1, b1⟩
end OSK
end
