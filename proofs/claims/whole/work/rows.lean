section
-- ===== PART A: goes FIRST, ahead of the names: the tables' words, and 'selects' of the private methods out of them =====
/-- a private method of a class that the tables say can be made, by its rows of tables_1 -/
def lw_okq (q : MethodName × Nat) : Prop := (q.1.cls ≠ "java/lang/invoke/MethodHandle" ∧ q.1.cls ≠ "java/lang/invoke/VarHandle") ∧ Cond.instantiable q.1.cls q.2 ∈ tables_1 ∧ Cond.privateMethod q.1 ∈ tables_1 ∧ Cond.instanceMethod q.1 ∈ tables_1
theorem lw_p0 : lw_okq (⟨"RobotFaults", "openFaultCount", "()I"⟩, 11) := ⟨⟨by decide +kernel, by decide +kernel⟩, List.mem_of_getElem? (i := 19) (by decide +kernel), List.mem_of_getElem? (i := 123) (by decide +kernel), List.mem_of_getElem? (i := 124) (by decide +kernel)⟩
theorem lw_p1 : lw_okq (⟨"RobotFaults", "unheardAlarmCount", "()I"⟩, 11) := ⟨⟨by decide +kernel, by decide +kernel⟩, List.mem_of_getElem? (i := 19) (by decide +kernel), List.mem_of_getElem? (i := 131) (by decide +kernel), List.mem_of_getElem? (i := 132) (by decide +kernel)⟩
theorem lw_p2 : lw_okq (⟨"RobotFaults", "openSeconds", "()I"⟩, 11) := ⟨⟨by decide +kernel, by decide +kernel⟩, List.mem_of_getElem? (i := 19) (by decide +kernel), List.mem_of_getElem? (i := 135) (by decide +kernel), List.mem_of_getElem? (i := 136) (by decide +kernel)⟩
theorem lw_p3 : lw_okq (⟨"java/lang/Throwable", "fillInStackTrace", "(I)Ljava/lang/Throwable;"⟩, 6) := ⟨⟨by decide +kernel, by decide +kernel⟩, List.mem_of_getElem? (i := 195) (by decide +kernel), List.mem_of_getElem? (i := 193) (by decide +kernel), List.mem_of_getElem? (i := 194) (by decide +kernel)⟩
theorem lw_p4 : lw_okq (⟨"RobotFaults", "needPiece", "(I)V"⟩, 11) := ⟨⟨by decide +kernel, by decide +kernel⟩, List.mem_of_getElem? (i := 19) (by decide +kernel), List.mem_of_getElem? (i := 238) (by decide +kernel), List.mem_of_getElem? (i := 239) (by decide +kernel)⟩
theorem lw_p5 : lw_okq (⟨"RobotFaults", "robotAt", "(I)LRobotFaults$Robot;"⟩, 11) := ⟨⟨by decide +kernel, by decide +kernel⟩, List.mem_of_getElem? (i := 19) (by decide +kernel), List.mem_of_getElem? (i := 347) (by decide +kernel), List.mem_of_getElem? (i := 348) (by decide +kernel)⟩
theorem lw_p6 : lw_okq (⟨"RobotFaults", "hasRoomForFault", "()Z"⟩, 11) := ⟨⟨by decide +kernel, by decide +kernel⟩, List.mem_of_getElem? (i := 19) (by decide +kernel), List.mem_of_getElem? (i := 396) (by decide +kernel), List.mem_of_getElem? (i := 397) (by decide +kernel)⟩
theorem lw_p7 : lw_okq (⟨"RobotFaults", "openOrNewFault", "(LRobotFaults$Robot;IZ)I"⟩, 11) := ⟨⟨by decide +kernel, by decide +kernel⟩, List.mem_of_getElem? (i := 19) (by decide +kernel), List.mem_of_getElem? (i := 401) (by decide +kernel), List.mem_of_getElem? (i := 402) (by decide +kernel)⟩
theorem lw_p8 : lw_okq (⟨"RobotFaults", "openFault", "(LRobotFaults$Robot;I)LRobotFaults$Fault;"⟩, 11) := ⟨⟨by decide +kernel, by decide +kernel⟩, List.mem_of_getElem? (i := 19) (by decide +kernel), List.mem_of_getElem? (i := 405) (by decide +kernel), List.mem_of_getElem? (i := 406) (by decide +kernel)⟩
theorem lw_p9 : lw_okq (⟨"RobotFaults", "newFault", "(LRobotFaults$Robot;IZ)I"⟩, 11) := ⟨⟨by decide +kernel, by decide +kernel⟩, List.mem_of_getElem? (i := 19) (by decide +kernel), List.mem_of_getElem? (i := 409) (by decide +kernel), List.mem_of_getElem? (i := 410) (by decide +kernel)⟩
theorem lw_p10 : lw_okq (⟨"RobotFaults", "alarmFor", "(LRobotFaults$Fault;I)I"⟩, 11) := ⟨⟨by decide +kernel, by decide +kernel⟩, List.mem_of_getElem? (i := 19) (by decide +kernel), List.mem_of_getElem? (i := 465) (by decide +kernel), List.mem_of_getElem? (i := 466) (by decide +kernel)⟩
theorem lw_p11 : lw_okq (⟨"RobotFaults", "latestAlarm", "(LRobotFaults$Robot;I)LRobotFaults$Alarm;"⟩, 11) := ⟨⟨by decide +kernel, by decide +kernel⟩, List.mem_of_getElem? (i := 19) (by decide +kernel), List.mem_of_getElem? (i := 469) (by decide +kernel), List.mem_of_getElem? (i := 470) (by decide +kernel)⟩
theorem lw_p12 : lw_okq (⟨"RobotFaults", "faultAt", "(I)LRobotFaults$Fault;"⟩, 11) := ⟨⟨by decide +kernel, by decide +kernel⟩, List.mem_of_getElem? (i := 19) (by decide +kernel), List.mem_of_getElem? (i := 526) (by decide +kernel), List.mem_of_getElem? (i := 527) (by decide +kernel)⟩
theorem lw_p13 : lw_okq (⟨"RobotFaults", "openKinds", "(LRobotFaults$Robot;)I"⟩, 11) := ⟨⟨by decide +kernel, by decide +kernel⟩, List.mem_of_getElem? (i := 19) (by decide +kernel), List.mem_of_getElem? (i := 555) (by decide +kernel), List.mem_of_getElem? (i := 556) (by decide +kernel)⟩
theorem lw_p14 : lw_okq (⟨"RobotFaults", "piecesOfLost", "(LRobotFaults$Robot;)I"⟩, 11) := ⟨⟨by decide +kernel, by decide +kernel⟩, List.mem_of_getElem? (i := 19) (by decide +kernel), List.mem_of_getElem? (i := 580) (by decide +kernel), List.mem_of_getElem? (i := 581) (by decide +kernel)⟩
theorem lw_p15 : lw_okq (⟨"RobotFaults$Track", "around", "(I)I"⟩, 2) := ⟨⟨by decide +kernel, by decide +kernel⟩, List.mem_of_getElem? (i := 27) (by decide +kernel), List.mem_of_getElem? (i := 588) (by decide +kernel), List.mem_of_getElem? (i := 589) (by decide +kernel)⟩
def lw_privs_1 : List (MethodName × Nat) := [(⟨"RobotFaults", "openFaultCount", "()I"⟩, 11), (⟨"RobotFaults", "unheardAlarmCount", "()I"⟩, 11), (⟨"RobotFaults", "openSeconds", "()I"⟩, 11), (⟨"java/lang/Throwable", "fillInStackTrace", "(I)Ljava/lang/Throwable;"⟩, 6), (⟨"RobotFaults", "needPiece", "(I)V"⟩, 11), (⟨"RobotFaults", "robotAt", "(I)LRobotFaults$Robot;"⟩, 11), (⟨"RobotFaults", "hasRoomForFault", "()Z"⟩, 11), (⟨"RobotFaults", "openOrNewFault", "(LRobotFaults$Robot;IZ)I"⟩, 11), (⟨"RobotFaults", "openFault", "(LRobotFaults$Robot;I)LRobotFaults$Fault;"⟩, 11), (⟨"RobotFaults", "newFault", "(LRobotFaults$Robot;IZ)I"⟩, 11), (⟨"RobotFaults", "alarmFor", "(LRobotFaults$Fault;I)I"⟩, 11), (⟨"RobotFaults", "latestAlarm", "(LRobotFaults$Robot;I)LRobotFaults$Alarm;"⟩, 11), (⟨"RobotFaults", "faultAt", "(I)LRobotFaults$Fault;"⟩, 11), (⟨"RobotFaults", "openKinds", "(LRobotFaults$Robot;)I"⟩, 11), (⟨"RobotFaults", "piecesOfLost", "(LRobotFaults$Robot;)I"⟩, 11), (⟨"RobotFaults$Track", "around", "(I)I"⟩, 2)]
theorem lw_r1 : ∀ q ∈ lw_privs_1, lw_okq q := List.forall_mem_cons.mpr ⟨lw_p0, List.forall_mem_cons.mpr ⟨lw_p1, List.forall_mem_cons.mpr ⟨lw_p2, List.forall_mem_cons.mpr ⟨lw_p3, List.forall_mem_cons.mpr ⟨lw_p4, List.forall_mem_cons.mpr ⟨lw_p5, List.forall_mem_cons.mpr ⟨lw_p6, List.forall_mem_cons.mpr ⟨lw_p7, List.forall_mem_cons.mpr ⟨lw_p8, List.forall_mem_cons.mpr ⟨lw_p9, List.forall_mem_cons.mpr ⟨lw_p10, List.forall_mem_cons.mpr ⟨lw_p11, List.forall_mem_cons.mpr ⟨lw_p12, List.forall_mem_cons.mpr ⟨lw_p13, List.forall_mem_cons.mpr ⟨lw_p14, List.forall_mem_cons.mpr ⟨lw_p15, fun _ h => absurd h List.not_mem_nil⟩⟩⟩⟩⟩⟩⟩⟩⟩⟩⟩⟩⟩⟩⟩⟩
theorem lw_p16 : lw_okq (⟨"RobotFaults", "nextBusySecond", "(I)I"⟩, 11) := ⟨⟨by decide +kernel, by decide +kernel⟩, List.mem_of_getElem? (i := 19) (by decide +kernel), List.mem_of_getElem? (i := 650) (by decide +kernel), List.mem_of_getElem? (i := 651) (by decide +kernel)⟩
theorem lw_p17 : lw_okq (⟨"RobotFaults", "letPlantedCome", "()V"⟩, 11) := ⟨⟨by decide +kernel, by decide +kernel⟩, List.mem_of_getElem? (i := 19) (by decide +kernel), List.mem_of_getElem? (i := 667) (by decide +kernel), List.mem_of_getElem? (i := 668) (by decide +kernel)⟩
theorem lw_p18 : lw_okq (⟨"RobotFaults", "bring", "(LRobotFaults$Planted;)V"⟩, 11) := ⟨⟨by decide +kernel, by decide +kernel⟩, List.mem_of_getElem? (i := 19) (by decide +kernel), List.mem_of_getElem? (i := 671) (by decide +kernel), List.mem_of_getElem? (i := 672) (by decide +kernel)⟩
theorem lw_p19 : lw_okq (⟨"RobotFaults", "raiseAlarms", "()I"⟩, 11) := ⟨⟨by decide +kernel, by decide +kernel⟩, List.mem_of_getElem? (i := 19) (by decide +kernel), List.mem_of_getElem? (i := 675) (by decide +kernel), List.mem_of_getElem? (i := 676) (by decide +kernel)⟩
theorem lw_p20 : lw_okq (⟨"RobotFaults", "alarmAt", "(I)LRobotFaults$Alarm;"⟩, 11) := ⟨⟨by decide +kernel, by decide +kernel⟩, List.mem_of_getElem? (i := 19) (by decide +kernel), List.mem_of_getElem? (i := 690) (by decide +kernel), List.mem_of_getElem? (i := 691) (by decide +kernel)⟩
theorem lw_p21 : lw_okq (⟨"RobotFaultsModel", "isPiece", "(I)Z"⟩, 38) := ⟨⟨by decide +kernel, by decide +kernel⟩, List.mem_of_getElem? (i := 720) (by decide +kernel), List.mem_of_getElem? (i := 854) (by decide +kernel), List.mem_of_getElem? (i := 855) (by decide +kernel)⟩
theorem lw_p22 : lw_okq (⟨"RobotFaultsModel", "isRobot", "(I)Z"⟩, 38) := ⟨⟨by decide +kernel, by decide +kernel⟩, List.mem_of_getElem? (i := 720) (by decide +kernel), List.mem_of_getElem? (i := 876) (by decide +kernel), List.mem_of_getElem? (i := 877) (by decide +kernel)⟩
theorem lw_p23 : lw_okq (⟨"RobotFaultsModel", "bars", "(II)I"⟩, 38) := ⟨⟨by decide +kernel, by decide +kernel⟩, List.mem_of_getElem? (i := 720) (by decide +kernel), List.mem_of_getElem? (i := 888) (by decide +kernel), List.mem_of_getElem? (i := 889) (by decide +kernel)⟩
theorem lw_p24 : lw_okq (⟨"RobotFaultsModel", "come", "(IIZ)I"⟩, 38) := ⟨⟨by decide +kernel, by decide +kernel⟩, List.mem_of_getElem? (i := 720) (by decide +kernel), List.mem_of_getElem? (i := 892) (by decide +kernel), List.mem_of_getElem? (i := 893) (by decide +kernel)⟩
theorem lw_p25 : lw_okq (⟨"RobotFaultsModel", "openOf", "(II)I"⟩, 38) := ⟨⟨by decide +kernel, by decide +kernel⟩, List.mem_of_getElem? (i := 720) (by decide +kernel), List.mem_of_getElem? (i := 896) (by decide +kernel), List.mem_of_getElem? (i := 897) (by decide +kernel)⟩
theorem lw_p26 : lw_okq (⟨"RobotFaultsModel", "alarmFor", "(II)I"⟩, 38) := ⟨⟨by decide +kernel, by decide +kernel⟩, List.mem_of_getElem? (i := 720) (by decide +kernel), List.mem_of_getElem? (i := 900) (by decide +kernel), List.mem_of_getElem? (i := 901) (by decide +kernel)⟩
theorem lw_p27 : lw_okq (⟨"RobotFaultsModel", "isFault", "(I)Z"⟩, 38) := ⟨⟨by decide +kernel, by decide +kernel⟩, List.mem_of_getElem? (i := 720) (by decide +kernel), List.mem_of_getElem? (i := 908) (by decide +kernel), List.mem_of_getElem? (i := 909) (by decide +kernel)⟩
theorem lw_p28 : lw_okq (⟨"RobotFaultsModel", "openKinds", "(I)I"⟩, 38) := ⟨⟨by decide +kernel, by decide +kernel⟩, List.mem_of_getElem? (i := 720) (by decide +kernel), List.mem_of_getElem? (i := 919) (by decide +kernel), List.mem_of_getElem? (i := 920) (by decide +kernel)⟩
theorem lw_p29 : lw_okq (⟨"RobotFaultsModel", "mayBe", "(II)Z"⟩, 38) := ⟨⟨by decide +kernel, by decide +kernel⟩, List.mem_of_getElem? (i := 720) (by decide +kernel), List.mem_of_getElem? (i := 931) (by decide +kernel), List.mem_of_getElem? (i := 932) (by decide +kernel)⟩
theorem lw_p30 : lw_okq (⟨"RobotFaultsModel", "reach", "(I)V"⟩, 38) := ⟨⟨by decide +kernel, by decide +kernel⟩, List.mem_of_getElem? (i := 720) (by decide +kernel), List.mem_of_getElem? (i := 935) (by decide +kernel), List.mem_of_getElem? (i := 936) (by decide +kernel)⟩
theorem lw_p31 : lw_okq (⟨"RobotFaultsModel", "comePlanted", "()V"⟩, 38) := ⟨⟨by decide +kernel, by decide +kernel⟩, List.mem_of_getElem? (i := 720) (by decide +kernel), List.mem_of_getElem? (i := 956) (by decide +kernel), List.mem_of_getElem? (i := 957) (by decide +kernel)⟩
def lw_privs_2 : List (MethodName × Nat) := [(⟨"RobotFaults", "nextBusySecond", "(I)I"⟩, 11), (⟨"RobotFaults", "letPlantedCome", "()V"⟩, 11), (⟨"RobotFaults", "bring", "(LRobotFaults$Planted;)V"⟩, 11), (⟨"RobotFaults", "raiseAlarms", "()I"⟩, 11), (⟨"RobotFaults", "alarmAt", "(I)LRobotFaults$Alarm;"⟩, 11), (⟨"RobotFaultsModel", "isPiece", "(I)Z"⟩, 38), (⟨"RobotFaultsModel", "isRobot", "(I)Z"⟩, 38), (⟨"RobotFaultsModel", "bars", "(II)I"⟩, 38), (⟨"RobotFaultsModel", "come", "(IIZ)I"⟩, 38), (⟨"RobotFaultsModel", "openOf", "(II)I"⟩, 38), (⟨"RobotFaultsModel", "alarmFor", "(II)I"⟩, 38), (⟨"RobotFaultsModel", "isFault", "(I)Z"⟩, 38), (⟨"RobotFaultsModel", "openKinds", "(I)I"⟩, 38), (⟨"RobotFaultsModel", "mayBe", "(II)Z"⟩, 38), (⟨"RobotFaultsModel", "reach", "(I)V"⟩, 38), (⟨"RobotFaultsModel", "comePlanted", "()V"⟩, 38)]
theorem lw_r2 : ∀ q ∈ lw_privs_2, lw_okq q := List.forall_mem_cons.mpr ⟨lw_p16, List.forall_mem_cons.mpr ⟨lw_p17, List.forall_mem_cons.mpr ⟨lw_p18, List.forall_mem_cons.mpr ⟨lw_p19, List.forall_mem_cons.mpr ⟨lw_p20, List.forall_mem_cons.mpr ⟨lw_p21, List.forall_mem_cons.mpr ⟨lw_p22, List.forall_mem_cons.mpr ⟨lw_p23, List.forall_mem_cons.mpr ⟨lw_p24, List.forall_mem_cons.mpr ⟨lw_p25, List.forall_mem_cons.mpr ⟨lw_p26, List.forall_mem_cons.mpr ⟨lw_p27, List.forall_mem_cons.mpr ⟨lw_p28, List.forall_mem_cons.mpr ⟨lw_p29, List.forall_mem_cons.mpr ⟨lw_p30, List.forall_mem_cons.mpr ⟨lw_p31, fun _ h => absurd h List.not_mem_nil⟩⟩⟩⟩⟩⟩⟩⟩⟩⟩⟩⟩⟩⟩⟩⟩
theorem lw_p32 : lw_okq (⟨"RobotFaultsModel", "isAlarm", "(I)Z"⟩, 38) := ⟨⟨by decide +kernel, by decide +kernel⟩, List.mem_of_getElem? (i := 720) (by decide +kernel), List.mem_of_getElem? (i := 964) (by decide +kernel), List.mem_of_getElem? (i := 965) (by decide +kernel)⟩
def lw_privs_3 : List (MethodName × Nat) := [(⟨"RobotFaultsModel", "isAlarm", "(I)Z"⟩, 38)]
theorem lw_r3 : ∀ q ∈ lw_privs_3, lw_okq q := List.forall_mem_cons.mpr ⟨lw_p32, fun _ h => absurd h List.not_mem_nil⟩
def lw_privs : List (MethodName × Nat) := lw_privs_1 ++ (lw_privs_2 ++ (lw_privs_3))
def lw_tbl : List Cond := k2_sels lw_privs ++ tables_1
theorem lw_privs_ok : ∀ q ∈ lw_privs, lw_okq q := by
  show ∀ q ∈ lw_privs_1 ++ (lw_privs_2 ++ (lw_privs_3)), lw_okq q
  exact List.forall_mem_append.mpr ⟨lw_r1, List.forall_mem_append.mpr ⟨lw_r2, lw_r3⟩⟩
-- ===== end of PART A; then your names; then what follows =====
/-- a word that stays true as the tables get warmer -/
def os_ok (w : Cond) : Bool := goodWord w || (match w with
  | .arrayOver (.object _) => true
  | .fieldLinkNest .. => true
  | .methodLinkNest .. => true
  | .castable .. => true
  | .declares .. => true
  | _ => false)
def os_tb : List Cond := lw_tbl.filter os_ok
theorem os_tb_ok (w : Cond) (h : w ∈ os_tb) : os_ok w = true := (List.mem_filter.mp h).2
theorem os_in {w : Cond} {i : Nat} (h : lw_tbl[i]? = some w) (ho : os_ok w = true) : w ∈ os_tb := List.mem_filter.mpr ⟨List.mem_of_getElem? h, ho⟩
theorem os_sub {L : List Cond} (h1 : ∀ w ∈ L, w ∈ lw_tbl) (h2 : L.all os_ok = true) : ∀ w ∈ L, w ∈ os_tb := fun w h => List.mem_filter.mpr ⟨h1 w h, List.all_eq_true.mp h2 w h⟩
end
section
/-! NAMES AND THE SCHEMA: printed by wip/gen/names.py -/
def F_RF : u_T := fun k => match k with
  | 0 => ("RobotFaults", "track", "LRobotFaults$Track;", true)
  | 1 => ("RobotFaults", "rules", "[LRobotFaults$Rule;", true)
  | 2 => ("RobotFaults", "robots", "[LRobotFaults$Robot;", true)
  | 3 => ("RobotFaults", "faults", "[LRobotFaults$Fault;", true)
  | 4 => ("RobotFaults", "alarms", "[LRobotFaults$Alarm;", true)
  | 5 => ("RobotFaults", "plants", "[LRobotFaults$Planted;", true)
  | 6 => ("RobotFaults", "robotCount", "I", false)
  | 7 => ("RobotFaults", "faultCount", "I", false)
  | 8 => ("RobotFaults", "alarmCount", "I", false)
  | 9 => ("RobotFaults", "plantCount", "I", false)
  | _ => ("RobotFaults", "time", "I", false)
def t_RF : Nat → FieldType := fun k => match k with
  | 0 => .object "RobotFaults$Track"
  | 1 => .array (.object "RobotFaults$Rule")
  | 2 => .array (.object "RobotFaults$Robot")
  | 3 => .array (.object "RobotFaults$Fault")
  | 4 => .array (.object "RobotFaults$Alarm")
  | 5 => .array (.object "RobotFaults$Planted")
  | 6 => .int
  | 7 => .int
  | 8 => .int
  | 9 => .int
  | _ => .int
theorem n_RF : ∀ a, a < 11 → ∀ b, b < 11 → a ≠ b → (F_RF a).2.1 ≠ (F_RF b).2.1 := by decide +kernel
theorem t_RF_ok : ∀ k, k < 11 → parseFieldDescriptor (F_RF k).2.2.1 = some (t_RF k) := by decide +kernel
theorem i_RF : ∀ w ∈ u_ws "RobotFaults" F_RF 11, w ∈ os_tb := os_sub (by decide +kernel) (by decide +kernel)
def F_Track : u_T := fun k => match k with
  | 0 => ("RobotFaults$Track", "neighbours", "[I", true)
  | _ => ("RobotFaults$Track", "size", "I", false)
def t_Track : Nat → FieldType := fun k => match k with
  | 0 => .array .int
  | _ => .int
theorem n_Track : ∀ a, a < 2 → ∀ b, b < 2 → a ≠ b → (F_Track a).2.1 ≠ (F_Track b).2.1 := by decide +kernel
theorem t_Track_ok : ∀ k, k < 2 → parseFieldDescriptor (F_Track k).2.2.1 = some (t_Track k) := by decide +kernel
theorem i_Track : ∀ w ∈ u_ws "RobotFaults$Track" F_Track 2, w ∈ os_tb := os_sub (by decide +kernel) (by decide +kernel)
def F_Rule : u_T := fun k => match k with
  | 0 => ("RobotFaults$Rule", "persons", "I", false)
  | 1 => ("RobotFaults$Rule", "test", "Z", false)
  | _ => ("RobotFaults$Rule", "rank", "I", false)
def t_Rule : Nat → FieldType := fun k => match k with
  | 0 => .int
  | 1 => .boolean
  | _ => .int
theorem n_Rule : ∀ a, a < 3 → ∀ b, b < 3 → a ≠ b → (F_Rule a).2.1 ≠ (F_Rule b).2.1 := by decide +kernel
theorem t_Rule_ok : ∀ k, k < 3 → parseFieldDescriptor (F_Rule k).2.2.1 = some (t_Rule k) := by decide +kernel
theorem i_Rule : ∀ w ∈ u_ws "RobotFaults$Rule" F_Rule 3, w ∈ os_tb := os_sub (by decide +kernel) (by decide +kernel)
def F_Robot : u_T := fun k => match k with
  | 0 => ("RobotFaults$Robot", "number", "I", true)
  | 1 => ("RobotFaults$Robot", "piece", "I", false)
  | 2 => ("RobotFaults$Robot", "state", "I", false)
  | 3 => ("RobotFaults$Robot", "unit", "I", false)
  | 4 => ("RobotFaults$Robot", "wantsTest", "Z", false)
  | _ => ("RobotFaults$Robot", "lostSecond", "I", false)
def t_Robot : Nat → FieldType := fun k => match k with
  | 0 => .int
  | 1 => .int
  | 2 => .int
  | 3 => .int
  | 4 => .boolean
  | _ => .int
theorem n_Robot : ∀ a, a < 6 → ∀ b, b < 6 → a ≠ b → (F_Robot a).2.1 ≠ (F_Robot b).2.1 := by decide +kernel
theorem t_Robot_ok : ∀ k, k < 6 → parseFieldDescriptor (F_Robot k).2.2.1 = some (t_Robot k) := by decide +kernel
theorem i_Robot : ∀ w ∈ u_ws "RobotFaults$Robot" F_Robot 6, w ∈ os_tb := os_sub (by decide +kernel) (by decide +kernel)
def F_Fault : u_T := fun k => match k with
  | 0 => ("RobotFaults$Fault", "number", "I", true)
  | 1 => ("RobotFaults$Fault", "robot", "LRobotFaults$Robot;", true)
  | 2 => ("RobotFaults$Fault", "kind", "I", true)
  | 3 => ("RobotFaults$Fault", "second", "I", true)
  | 4 => ("RobotFaults$Fault", "persons", "I", true)
  | 5 => ("RobotFaults$Fault", "planted", "Z", true)
  | 6 => ("RobotFaults$Fault", "piece", "I", true)
  | 7 => ("RobotFaults$Fault", "lostUnit", "I", true)
  | 8 => ("RobotFaults$Fault", "alarm", "I", false)
  | 9 => ("RobotFaults$Fault", "steps", "I", false)
  | _ => ("RobotFaults$Fault", "resetSecond", "I", false)
def t_Fault : Nat → FieldType := fun k => match k with
  | 0 => .int
  | 1 => .object "RobotFaults$Robot"
  | 2 => .int
  | 3 => .int
  | 4 => .int
  | 5 => .boolean
  | 6 => .int
  | 7 => .int
  | 8 => .int
  | 9 => .int
  | _ => .int
theorem n_Fault : ∀ a, a < 11 → ∀ b, b < 11 → a ≠ b → (F_Fault a).2.1 ≠ (F_Fault b).2.1 := by decide +kernel
theorem t_Fault_ok : ∀ k, k < 11 → parseFieldDescriptor (F_Fault k).2.2.1 = some (t_Fault k) := by decide +kernel
theorem i_Fault : ∀ w ∈ u_ws "RobotFaults$Fault" F_Fault 11, w ∈ os_tb := os_sub (by decide +kernel) (by decide +kernel)
def F_Alarm : u_T := fun k => match k with
  | 0 => ("RobotFaults$Alarm", "number", "I", true)
  | 1 => ("RobotFaults$Alarm", "robot", "LRobotFaults$Robot;", true)
  | 2 => ("RobotFaults$Alarm", "kind", "I", true)
  | 3 => ("RobotFaults$Alarm", "rank", "I", true)
  | 4 => ("RobotFaults$Alarm", "level", "I", false)
  | 5 => ("RobotFaults$Alarm", "joined", "I", false)
  | 6 => ("RobotFaults$Alarm", "person", "I", false)
  | _ => ("RobotFaults$Alarm", "last", "LRobotFaults$Fault;", false)
def t_Alarm : Nat → FieldType := fun k => match k with
  | 0 => .int
  | 1 => .object "RobotFaults$Robot"
  | 2 => .int
  | 3 => .int
  | 4 => .int
  | 5 => .int
  | 6 => .int
  | _ => .object "RobotFaults$Fault"
theorem n_Alarm : ∀ a, a < 8 → ∀ b, b < 8 → a ≠ b → (F_Alarm a).2.1 ≠ (F_Alarm b).2.1 := by decide +kernel
theorem t_Alarm_ok : ∀ k, k < 8 → parseFieldDescriptor (F_Alarm k).2.2.1 = some (t_Alarm k) := by decide +kernel
theorem i_Alarm : ∀ w ∈ u_ws "RobotFaults$Alarm" F_Alarm 8, w ∈ os_tb := os_sub (by decide +kernel) (by decide +kernel)
def F_Planted : u_T := fun k => match k with
  | 0 => ("RobotFaults$Planted", "robot", "LRobotFaults$Robot;", true)
  | 1 => ("RobotFaults$Planted", "kind", "I", true)
  | _ => ("RobotFaults$Planted", "second", "I", true)
def t_Planted : Nat → FieldType := fun k => match k with
  | 0 => .object "RobotFaults$Robot"
  | 1 => .int
  | _ => .int
theorem n_Planted : ∀ a, a < 3 → ∀ b, b < 3 → a ≠ b → (F_Planted a).2.1 ≠ (F_Planted b).2.1 := by decide +kernel
theorem t_Planted_ok : ∀ k, k < 3 → parseFieldDescriptor (F_Planted k).2.2.1 = some (t_Planted k) := by decide +kernel
theorem i_Planted : ∀ w ∈ u_ws "RobotFaults$Planted" F_Planted 3, w ∈ os_tb := os_sub (by decide +kernel) (by decide +kernel)
def F_Model : u_T := fun k => match k with
  | 0 => ("RobotFaultsModel", "code", "I", false)
  | 1 => ("RobotFaultsModel", "time", "I", false)
  | 2 => ("RobotFaultsModel", "pieces", "I", false)
  | 3 => ("RobotFaultsModel", "linked", "[Z", true)
  | 4 => ("RobotFaultsModel", "robots", "I", false)
  | 5 => ("RobotFaultsModel", "at", "[I", true)
  | 6 => ("RobotFaultsModel", "unit", "[I", true)
  | 7 => ("RobotFaultsModel", "state", "[I", true)
  | 8 => ("RobotFaultsModel", "wantsTest", "[Z", true)
  | 9 => ("RobotFaultsModel", "lostSince", "[I", true)
  | 10 => ("RobotFaultsModel", "persons", "[I", true)
  | 11 => ("RobotFaultsModel", "tests", "[Z", true)
  | 12 => ("RobotFaultsModel", "ranks", "[I", true)
  | 13 => ("RobotFaultsModel", "faults", "I", false)
  | 14 => ("RobotFaultsModel", "robotOf", "[I", true)
  | 15 => ("RobotFaultsModel", "kindOf", "[I", true)
  | 16 => ("RobotFaultsModel", "since", "[I", true)
  | 17 => ("RobotFaultsModel", "until", "[I", true)
  | 18 => ("RobotFaultsModel", "alarmOf", "[I", true)
  | 19 => ("RobotFaultsModel", "steps", "[I", true)
  | 20 => ("RobotFaultsModel", "wants", "[I", true)
  | 21 => ("RobotFaultsModel", "planted", "[Z", true)
  | 22 => ("RobotFaultsModel", "where", "[I", true)
  | 23 => ("RobotFaultsModel", "lostUnit", "[I", true)
  | 24 => ("RobotFaultsModel", "alarms", "I", false)
  | 25 => ("RobotFaultsModel", "alarmRobot", "[I", true)
  | 26 => ("RobotFaultsModel", "alarmKind", "[I", true)
  | 27 => ("RobotFaultsModel", "alarmRank", "[I", true)
  | 28 => ("RobotFaultsModel", "level", "[I", true)
  | 29 => ("RobotFaultsModel", "joined", "[I", true)
  | 30 => ("RobotFaultsModel", "person", "[I", true)
  | 31 => ("RobotFaultsModel", "lastSecond", "[I", true)
  | 32 => ("RobotFaultsModel", "lastFault", "[I", true)
  | 33 => ("RobotFaultsModel", "plants", "I", false)
  | 34 => ("RobotFaultsModel", "plantRobot", "[I", true)
  | 35 => ("RobotFaultsModel", "plantKind", "[I", true)
  | 36 => ("RobotFaultsModel", "plantTime", "[I", true)
  | _ => ("RobotFaultsModel", "far", "[I", true)
def t_Model : Nat → FieldType := fun k => match k with
  | 0 => .int
  | 1 => .int
  | 2 => .int
  | 3 => .array .boolean
  | 4 => .int
  | 5 => .array .int
  | 6 => .array .int
  | 7 => .array .int
  | 8 => .array .boolean
  | 9 => .array .int
  | 10 => .array .int
  | 11 => .array .boolean
  | 12 => .array .int
  | 13 => .int
  | 14 => .array .int
  | 15 => .array .int
  | 16 => .array .int
  | 17 => .array .int
  | 18 => .array .int
  | 19 => .array .int
  | 20 => .array .int
  | 21 => .array .boolean
  | 22 => .array .int
  | 23 => .array .int
  | 24 => .int
  | 25 => .array .int
  | 26 => .array .int
  | 27 => .array .int
  | 28 => .array .int
  | 29 => .array .int
  | 30 => .array .int
  | 31 => .array .int
  | 32 => .array .int
  | 33 => .int
  | 34 => .array .int
  | 35 => .array .int
  | 36 => .array .int
  | _ => .array .int
theorem n_Model : ∀ a, a < 38 → ∀ b, b < 38 → a ≠ b → (F_Model a).2.1 ≠ (F_Model b).2.1 := by decide +kernel
theorem t_Model_ok : ∀ k, k < 38 → parseFieldDescriptor (F_Model k).2.2.1 = some (t_Model k) := by decide +kernel
theorem i_Model : ∀ w ∈ u_ws "RobotFaultsModel" F_Model 38, w ∈ os_tb := os_sub (by decide +kernel) (by decide +kernel)
abbrev os_cl : List vw_C := [("RobotFaults", F_RF, 11), ("RobotFaults$Track", F_Track, 2), ("RobotFaults$Rule", F_Rule, 3), ("RobotFaults$Robot", F_Robot, 6), ("RobotFaults$Fault", F_Fault, 11), ("RobotFaults$Alarm", F_Alarm, 8), ("RobotFaults$Planted", F_Planted, 3), ("RobotFaultsModel", F_Model, 38)]
/-- a kind's layout: an object of the k-th class of os_cl, its fields ints (none) or references to a kind; or an array -/
def os_sc (K : Nat) : (Nat × List (Option Nat)) ⊕ (Nat × Option Nat) := match K with
  | 0 => .inl (0, [some 1, some 3, some 4, some 5, some 6, some 7, none, none, none, none, none]) -- RF
  | 1 => .inl (1, [some 2, none]) -- Track
  | 2 => .inr (0, none) -- nb
  | 3 => .inr (3, some 8) -- rules
  | 4 => .inr (4, some 9) -- robots
  | 5 => .inr (5, some 10) -- faults
  | 6 => .inr (6, some 11) -- alarms
  | 7 => .inr (7, some 12) -- plants
  | 8 => .inl (2, [none, none, none]) -- Rule
  | 9 => .inl (3, [none, none, none, none, none, none]) -- Robot
  | 10 => .inl (4, [none, some 9, none, none, none, none, none, none, none, none, none]) -- Fault
  | 11 => .inl (5, [none, some 9, none, none, none, none, none, some 10]) -- Alarm
  | 12 => .inl (6, [some 9, none, none]) -- Planted
  | 13 => .inl (7, [none, none, none, some 14, none, some 15, some 16, some 17, some 18, some 19, some 20, some 21, some 22, none, some 23, some 24, some 25, some 26, some 27, some 28, some 29, some 30, some 31, some 32, none, some 33, some 34, some 35, some 36, some 37, some 38, some 39, some 40, none, some 41, some 42, some 43, some 44]) -- Model
  | 14 => .inr (1, none) -- m_linked
  | 15 => .inr (0, none) -- m_at
  | 16 => .inr (0, none) -- m_unit
  | 17 => .inr (0, none) -- m_state
  | 18 => .inr (1, none) -- m_wantsTest
  | 19 => .inr (0, none) -- m_lostSince
  | 20 => .inr (0, none) -- m_persons
  | 21 => .inr (1, none) -- m_tests
  | 22 => .inr (0, none) -- m_ranks
  | 23 => .inr (0, none) -- m_robotOf
  | 24 => .inr (0, none) -- m_kindOf
  | 25 => .inr (0, none) -- m_since
  | 26 => .inr (0, none) -- m_until
  | 27 => .inr (0, none) -- m_alarmOf
  | 28 => .inr (0, none) -- m_steps
  | 29 => .inr (0, none) -- m_wants
  | 30 => .inr (1, none) -- m_planted
  | 31 => .inr (0, none) -- m_where
  | 32 => .inr (0, none) -- m_lostUnit
  | 33 => .inr (0, none) -- m_alarmRobot
  | 34 => .inr (0, none) -- m_alarmKind
  | 35 => .inr (0, none) -- m_alarmRank
  | 36 => .inr (0, none) -- m_level
  | 37 => .inr (0, none) -- m_joined
  | 38 => .inr (0, none) -- m_person
  | 39 => .inr (0, none) -- m_lastSecond
  | 40 => .inr (0, none) -- m_lastFault
  | 41 => .inr (0, none) -- m_plantRobot
  | 42 => .inr (0, none) -- m_plantKind
  | 43 => .inr (0, none) -- m_plantTime
  | 44 => .inr (0, none) -- m_far
  | 45 => .inr (2, none) -- out
  | _ => .inr (0, none)
/-- the kind whose ints stand as longs -/
def os_lg (K : Nat) : Bool := K == 45
def os_tys (cA : Nat → ClassId) : List (ClassId × FieldType) := [(cA 0, .int), (cA 1, .boolean), (cA 2, .long), (cA 3, .object "RobotFaults$Rule"), (cA 4, .object "RobotFaults$Robot"), (cA 5, .object "RobotFaults$Fault"), (cA 6, .object "RobotFaults$Alarm"), (cA 7, .object "RobotFaults$Planted")]
def os_str : List (String × Nat × String) := [("RobotFaults", 53, "no room for another piece"), ("RobotFaults", 304, "there is no such piece"), ("RobotFaults", 68, "a piece is not linked with itself"), ("RobotFaults", 79, "no room for another robot"), ("RobotFaults", 313, "a kind is 0 to 7"), ("RobotFaults", 89, "one person resets, or two do"), ("RobotFaults", 91, "a rank is 1 to 5"), ("RobotFaults", 307, "there is no such robot"), ("RobotFaults", 106, "the robot is not going"), ("RobotFaults", 116, "the pieces are not linked"), ("RobotFaults", 118, "a unit is 0 to 99, or -1 for none"), ("RobotFaults", 120, "the robot is lost"), ("RobotFaults", 129, "the robot carries nothing that it could lose"), ("RobotFaults", 134, "no room for another fault"), ("RobotFaults", 309, "there is no such fault"), ("RobotFaults", 315, "a person is 0 to 7"), ("RobotFaults", 150, "the fault is reset"), ("RobotFaults", 164, "a robot that is going or lost is not tested"), ("RobotFaults", 170, "the robot has an open fault"), ("RobotFaults", 176, "the robot is going"), ("RobotFaults", 178, "places are counted from 0"), ("RobotFaults", 317, "the robot is not lost"), ("RobotFaults", 187, "the robot may not be on this piece"), ("RobotFaults", 193, "only a stopped or towed robot is towed"), ("RobotFaults", 195, "a fault is planted 1 to 1000 seconds ahead"), ("RobotFaults", 200, "no room for another planted fault"), ("RobotFaults", 205, "0 to 1000 seconds go by"), ("RobotFaults", 208, "time ends at 100000"), ("RobotFaults", 311, "there is no such alarm"), ("RobotFaults", 227, "somebody acknowledged the alarm"), ("RobotFaults", 255, "of an alarm 0 to 6 is asked"), ("RobotFaults", 272, "of a fault 0 to 8 is asked"), ("RobotFaults", 274, "of a robot 0 to 4 is asked")]
def y_RF_init : MethodName := .mk "RobotFaults" "<init>" "()V"
def y_Track_init : MethodName := .mk "RobotFaults$Track" "<init>" "()V"
def y_Rule_init : MethodName := .mk "RobotFaults$Rule" "<init>" "()V"
def y_RF_first : MethodName := .mk "RobotFaults" "first" "()I"
def y_Alarm_isAcknowledged : MethodName := .mk "RobotFaults$Alarm" "isAcknowledged" "()Z"
def y_Alarm_comesBefore : MethodName := .mk "RobotFaults$Alarm" "comesBefore" "(LRobotFaults$Alarm;)Z"
def y_RF_count : MethodName := .mk "RobotFaults" "count" "(I)I"
def y_Track_size : MethodName := .mk "RobotFaults$Track" "size" "()I"
def y_RF_openFaultCount : MethodName := .mk "RobotFaults" "openFaultCount" "()I"
def y_Fault_isOpen : MethodName := .mk "RobotFaults$Fault" "isOpen" "()Z"
def y_RF_unheardAlarmCount : MethodName := .mk "RobotFaults" "unheardAlarmCount" "()I"
def y_RF_openSeconds : MethodName := .mk "RobotFaults" "openSeconds" "()I"
def y_Fault_openSecondsUntil : MethodName := .mk "RobotFaults$Fault" "openSecondsUntil" "(I)I"
def y_Law_piece : MethodName := .mk "RobotFaultsLaw" "piece" "(LRobotFaults;[J)I"
def y_RF_piece : MethodName := .mk "RobotFaults" "piece" "()I"
def y_Track_isFull : MethodName := .mk "RobotFaults$Track" "isFull" "()Z"
def y_Track_add : MethodName := .mk "RobotFaults$Track" "add" "()I"
def y_Law_link : MethodName := .mk "RobotFaultsLaw" "link" "(LRobotFaults;II)I"
def y_RF_link : MethodName := .mk "RobotFaults" "link" "(II)V"
def y_RF_needPiece : MethodName := .mk "RobotFaults" "needPiece" "(I)V"
def y_Track_has : MethodName := .mk "RobotFaults$Track" "has" "(I)Z"
def y_Track_connect : MethodName := .mk "RobotFaults$Track" "connect" "(II)V"
def y_Law_robot : MethodName := .mk "RobotFaultsLaw" "robot" "(LRobotFaults;I[J)I"
def y_RF_robot : MethodName := .mk "RobotFaults" "robot" "(I)I"
def y_Robot_init : MethodName := .mk "RobotFaults$Robot" "<init>" "(II)V"
def y_Law_rule : MethodName := .mk "RobotFaultsLaw" "rule" "(LRobotFaults;IIZI)I"
def y_RF_rule : MethodName := .mk "RobotFaults" "rule" "(IIZI)V"
def y_RF_needKind : MethodName := .mk "RobotFaults" "needKind" "(I)V"
def y_Rule_set : MethodName := .mk "RobotFaults$Rule" "set" "(IZI)V"
def y_Law_move : MethodName := .mk "RobotFaultsLaw" "move" "(LRobotFaults;II)I"
def y_RF_move : MethodName := .mk "RobotFaults" "move" "(II)V"
def y_RF_robotAt : MethodName := .mk "RobotFaults" "robotAt" "(I)LRobotFaults$Robot;"
def y_Track_areConnected : MethodName := .mk "RobotFaults$Track" "areConnected" "(II)Z"
def y_RF_holds : MethodName := .mk "RobotFaults" "holds" "(II)Z"
def y_Law_load : MethodName := .mk "RobotFaultsLaw" "load" "(LRobotFaults;II)I"
def y_RF_load : MethodName := .mk "RobotFaults" "load" "(II)V"
def y_Law_fault : MethodName := .mk "RobotFaultsLaw" "fault" "(LRobotFaults;II[J)I"
def y_RF_fault : MethodName := .mk "RobotFaults" "fault" "(II)I"
def y_RF_hasNoLoadToLose : MethodName := .mk "RobotFaults" "hasNoLoadToLose" "(LRobotFaults$Robot;I)Z"
def y_RF_hasRoomForFault : MethodName := .mk "RobotFaults" "hasRoomForFault" "()Z"
def y_RF_openOrNewFault : MethodName := .mk "RobotFaults" "openOrNewFault" "(LRobotFaults$Robot;IZ)I"
def y_RF_openFault : MethodName := .mk "RobotFaults" "openFault" "(LRobotFaults$Robot;I)LRobotFaults$Fault;"
def y_RF_newFault : MethodName := .mk "RobotFaults" "newFault" "(LRobotFaults$Robot;IZ)I"
def y_Fault_init : MethodName := .mk "RobotFaults$Fault" "<init>" "(ILRobotFaults$Robot;IIIZ)V"
def y_RF_alarmFor : MethodName := .mk "RobotFaults" "alarmFor" "(LRobotFaults$Fault;I)I"
def y_RF_latestAlarm : MethodName := .mk "RobotFaults" "latestAlarm" "(LRobotFaults$Robot;I)LRobotFaults$Alarm;"
def y_Alarm_join : MethodName := .mk "RobotFaults$Alarm" "join" "(LRobotFaults$Fault;)V"
def y_Alarm_init : MethodName := .mk "RobotFaults$Alarm" "<init>" "(ILRobotFaults$Fault;I)V"
def y_Robot_suffer : MethodName := .mk "RobotFaults$Robot" "suffer" "(IIZ)V"
def y_Law_step : MethodName := .mk "RobotFaultsLaw" "step" "(LRobotFaults;II[J)I"
def y_RF_step : MethodName := .mk "RobotFaults" "step" "(II)I"
def y_RF_faultAt : MethodName := .mk "RobotFaults" "faultAt" "(I)LRobotFaults$Fault;"
def y_RF_needPerson : MethodName := .mk "RobotFaults" "needPerson" "(I)V"
def y_Fault_addStep : MethodName := .mk "RobotFaults$Fault" "addStep" "(II)V"
def y_Integer_bitCount : MethodName := .mk "java/lang/Integer" "bitCount" "(I)I"
def y_Law_test : MethodName := .mk "RobotFaultsLaw" "test" "(LRobotFaults;IZ[J)I"
def y_RF_test : MethodName := .mk "RobotFaults" "test" "(IZ)Z"
def y_RF_openKinds : MethodName := .mk "RobotFaults" "openKinds" "(LRobotFaults$Robot;)I"
def y_Law_resume : MethodName := .mk "RobotFaultsLaw" "resume" "(LRobotFaults;I[J)I"
def y_RF_resume : MethodName := .mk "RobotFaults" "resume" "(I)I"
def y_Law_zone : MethodName := .mk "RobotFaultsLaw" "zone" "(LRobotFaults;II[J)I"
def y_RF_zone : MethodName := .mk "RobotFaults" "zone" "(II)I"
def y_RF_needLost : MethodName := .mk "RobotFaults" "needLost" "(LRobotFaults$Robot;)V"
def y_RF_piecesOfLost : MethodName := .mk "RobotFaults" "piecesOfLost" "(LRobotFaults$Robot;)I"
def y_Track_reach : MethodName := .mk "RobotFaults$Track" "reach" "(II)I"
def y_Track_around : MethodName := .mk "RobotFaults$Track" "around" "(I)I"
def y_Law_found : MethodName := .mk "RobotFaultsLaw" "found" "(LRobotFaults;II[J)I"
def y_RF_found : MethodName := .mk "RobotFaults" "found" "(II)I"
def y_Track_fewestLinks : MethodName := .mk "RobotFaults$Track" "fewestLinks" "(II)I"
def y_Law_tow : MethodName := .mk "RobotFaultsLaw" "tow" "(LRobotFaults;II)I"
def y_RF_tow : MethodName := .mk "RobotFaults" "tow" "(II)V"
def y_Law_plant : MethodName := .mk "RobotFaultsLaw" "plant" "(LRobotFaults;III)I"
def y_RF_plant : MethodName := .mk "RobotFaults" "plant" "(III)V"
def y_Planted_init : MethodName := .mk "RobotFaults$Planted" "<init>" "(LRobotFaults$Robot;II)V"
def y_Law_pass : MethodName := .mk "RobotFaultsLaw" "pass" "(LRobotFaults;I[J)I"
def y_RF_pass : MethodName := .mk "RobotFaults" "pass" "(I)I"
def y_RF_nextBusySecond : MethodName := .mk "RobotFaults" "nextBusySecond" "(I)I"
def y_Math_min : MethodName := .mk "java/lang/Math" "min" "(II)I"
def y_Alarm_canRise : MethodName := .mk "RobotFaults$Alarm" "canRise" "()Z"
def y_Alarm_nextRise : MethodName := .mk "RobotFaults$Alarm" "nextRise" "(I)I"
def y_RF_letPlantedCome : MethodName := .mk "RobotFaults" "letPlantedCome" "()V"
def y_RF_bring : MethodName := .mk "RobotFaults" "bring" "(LRobotFaults$Planted;)V"
def y_RF_raiseAlarms : MethodName := .mk "RobotFaults" "raiseAlarms" "()I"
def y_Alarm_isRiseSecond : MethodName := .mk "RobotFaults$Alarm" "isRiseSecond" "(I)Z"
def y_Law_acknowledge : MethodName := .mk "RobotFaultsLaw" "acknowledge" "(LRobotFaults;II[J)I"
def y_RF_acknowledge : MethodName := .mk "RobotFaults" "acknowledge" "(II)I"
def y_RF_alarmAt : MethodName := .mk "RobotFaults" "alarmAt" "(I)LRobotFaults$Alarm;"
def y_Law_alarm : MethodName := .mk "RobotFaultsLaw" "alarm" "(LRobotFaults;II[J)I"
def y_RF_alarm : MethodName := .mk "RobotFaults" "alarm" "(II)I"
def y_Law_known : MethodName := .mk "RobotFaultsLaw" "known" "(LRobotFaults;II[J)I"
def y_RF_known : MethodName := .mk "RobotFaults" "known" "(II)I"
def y_Law_told : MethodName := .mk "RobotFaultsLaw" "told" "(LRobotFaults;II[J)I"
def y_RF_told : MethodName := .mk "RobotFaults" "told" "(II)I"
def y_Model_init : MethodName := .mk "RobotFaultsModel" "<init>" "()V"
def y_Model_thrown : MethodName := .mk "RobotFaultsModel" "thrown" "()I"
def y_Model_piece : MethodName := .mk "RobotFaultsModel" "piece" "()I"
def y_Model_link : MethodName := .mk "RobotFaultsModel" "link" "(II)V"
def y_Model_isPiece : MethodName := .mk "RobotFaultsModel" "isPiece" "(I)Z"
def y_Model_in : MethodName := .mk "RobotFaultsModel" "in" "(III)Z"
def y_Model_robot : MethodName := .mk "RobotFaultsModel" "robot" "(I)I"
def y_Model_rule : MethodName := .mk "RobotFaultsModel" "rule" "(IIZI)V"
def y_Model_isKind : MethodName := .mk "RobotFaultsModel" "isKind" "(I)Z"
def y_Model_move : MethodName := .mk "RobotFaultsModel" "move" "(II)V"
def y_Model_isRobot : MethodName := .mk "RobotFaultsModel" "isRobot" "(I)Z"
def y_Model_load : MethodName := .mk "RobotFaultsModel" "load" "(II)V"
def y_Model_fault : MethodName := .mk "RobotFaultsModel" "fault" "(II)I"
def y_Model_bars : MethodName := .mk "RobotFaultsModel" "bars" "(II)I"
def y_Model_come : MethodName := .mk "RobotFaultsModel" "come" "(IIZ)I"
def y_Model_openOf : MethodName := .mk "RobotFaultsModel" "openOf" "(II)I"
def y_Model_alarmFor : MethodName := .mk "RobotFaultsModel" "alarmFor" "(II)I"
def y_Model_step : MethodName := .mk "RobotFaultsModel" "step" "(II)I"
def y_Model_isFault : MethodName := .mk "RobotFaultsModel" "isFault" "(I)Z"
def y_Model_bits : MethodName := .mk "RobotFaultsModel" "bits" "(I)I"
def y_Model_test : MethodName := .mk "RobotFaultsModel" "test" "(IZ)Z"
def y_Model_openKinds : MethodName := .mk "RobotFaultsModel" "openKinds" "(I)I"
def y_Model_resume : MethodName := .mk "RobotFaultsModel" "resume" "(I)I"
def y_Model_zone : MethodName := .mk "RobotFaultsModel" "zone" "(II)I"
def y_Model_mayBe : MethodName := .mk "RobotFaultsModel" "mayBe" "(II)Z"
def y_Model_reach : MethodName := .mk "RobotFaultsModel" "reach" "(I)V"
def y_Model_found : MethodName := .mk "RobotFaultsModel" "found" "(II)I"
def y_Model_tow : MethodName := .mk "RobotFaultsModel" "tow" "(II)V"
def y_Model_plant : MethodName := .mk "RobotFaultsModel" "plant" "(III)V"
def y_Model_pass : MethodName := .mk "RobotFaultsModel" "pass" "(I)I"
def y_Model_comePlanted : MethodName := .mk "RobotFaultsModel" "comePlanted" "()V"
def y_Model_acknowledge : MethodName := .mk "RobotFaultsModel" "acknowledge" "(II)I"
def y_Model_isAlarm : MethodName := .mk "RobotFaultsModel" "isAlarm" "(I)Z"
def y_Model_alarm : MethodName := .mk "RobotFaultsModel" "alarm" "(II)I"
def y_Model_first : MethodName := .mk "RobotFaultsModel" "first" "()I"
def y_Model_known : MethodName := .mk "RobotFaultsModel" "known" "(II)I"
def y_Model_told : MethodName := .mk "RobotFaultsModel" "told" "(II)I"
def y_Model_count : MethodName := .mk "RobotFaultsModel" "count" "(I)I"
end
section
/-! THE STORE: all objects that class, reference and law make, by kind and number; a kind's layout stands in os_sc. -/
abbrev os_S : Type := (Nat → Nat) × (Nat → Nat → Nat) × (Nat → Nat → Nat → Int32) × (Nat → Nat → Nat → Option Nat)
def os_n (σ : os_S) : Nat → Nat := σ.1
def os_l (σ : os_S) : Nat → Nat → Nat := σ.2.1
def os_g (σ : os_S) : Nat → Nat → Nat → Int32 := σ.2.2.1
def os_r (σ : os_S) : Nat → Nat → Nat → Option Nat := σ.2.2.2
def os_sg (σ : os_S) (K j i : Nat) (v : Int32) : os_S := (σ.1, σ.2.1, fun K' j' i' => if K' = K ∧ j' = j ∧ i' = i then v else σ.2.2.1 K' j' i', σ.2.2.2)
def os_sr (σ : os_S) (K j i : Nat) (v : Option Nat) : os_S := (σ.1, σ.2.1, σ.2.2.1, fun K' j' i' => if K' = K ∧ j' = j ∧ i' = i then v else σ.2.2.2 K' j' i')
def os_nw (σ : os_S) (K L : Nat) : os_S := (fun K' => if K' = K then σ.1 K + 1 else σ.1 K', fun K' i' => if K' = K ∧ i' = σ.1 K then L else σ.2.1 K' i', fun K' j' i' => if K' = K ∧ i' = σ.1 K then 0 else σ.2.2.1 K' j' i', fun K' j' i' => if K' = K ∧ i' = σ.1 K then none else σ.2.2.2 K' j' i')
theorem os_n_sg (σ : os_S) (K j i : Nat) (v : Int32) (K' : Nat) : os_n (os_sg σ K j i v) K' = os_n σ K' := rfl
theorem os_l_sg (σ : os_S) (K j i : Nat) (v : Int32) (K' i' : Nat) : os_l (os_sg σ K j i v) K' i' = os_l σ K' i' := rfl
theorem os_r_sg (σ : os_S) (K j i : Nat) (v : Int32) (K' j' i' : Nat) : os_r (os_sg σ K j i v) K' j' i' = os_r σ K' j' i' := rfl
theorem os_g_sg (σ : os_S) (K j i : Nat) (v : Int32) (K' j' i' : Nat) : os_g (os_sg σ K j i v) K' j' i' = if K' = K ∧ j' = j ∧ i' = i then v else os_g σ K' j' i' := rfl
theorem os_n_sr (σ : os_S) (K j i : Nat) (v : Option Nat) (K' : Nat) : os_n (os_sr σ K j i v) K' = os_n σ K' := rfl
theorem os_l_sr (σ : os_S) (K j i : Nat) (v : Option Nat) (K' i' : Nat) : os_l (os_sr σ K j i v) K' i' = os_l σ K' i' := rfl
theorem os_g_sr (σ : os_S) (K j i : Nat) (v : Option Nat) (K' j' i' : Nat) : os_g (os_sr σ K j i v) K' j' i' = os_g σ K' j' i' := rfl
theorem os_r_sr (σ : os_S) (K j i : Nat) (v : Option Nat) (K' j' i' : Nat) : os_r (os_sr σ K j i v) K' j' i' = if K' = K ∧ j' = j ∧ i' = i then v else os_r σ K' j' i' := rfl
theorem os_n_nw (σ : os_S) (K L : Nat) (K' : Nat) : os_n (os_nw σ K L) K' = if K' = K then os_n σ K + 1 else os_n σ K' := rfl
theorem os_l_nw (σ : os_S) (K L : Nat) (K' i' : Nat) : os_l (os_nw σ K L) K' i' = if K' = K ∧ i' = os_n σ K then L else os_l σ K' i' := rfl
theorem os_g_nw (σ : os_S) (K L : Nat) (K' j' i' : Nat) : os_g (os_nw σ K L) K' j' i' = if K' = K ∧ i' = os_n σ K then 0 else os_g σ K' j' i' := rfl
theorem os_r_nw (σ : os_S) (K L : Nat) (K' j' i' : Nat) : os_r (os_nw σ K L) K' j' i' = if K' = K ∧ i' = os_n σ K then none else os_r σ K' j' i' := rfl
def os_ad (ad : Nat → Nat → Nat) (K i a : Nat) : Nat → Nat → Nat := fun K' i' => if K' = K ∧ i' = i then a else ad K' i'
theorem os_ad_eq (ad : Nat → Nat → Nat) (K i a K' i' : Nat) : os_ad ad K i a K' i' = if K' = K ∧ i' = i then a else ad K' i' := rfl
/-- where a slot of a kind points to -/
def os_tg (K j : Nat) : Option Nat := match os_sc K with
  | .inl (_, fds) => fds.getD j none
  | .inr (_, x) => x
def os_fv (σ : os_S) (ad : Nat → Nat → Nat) (K i j : Nat) : Value := match os_tg K j with
  | none => if os_lg K = true then .long (os_g σ K j i).toInt64 else .int (os_g σ K j i)
  | some k => va_rf ((os_r σ K j i).map (ad k))
def os_at (D : va_G) (cA : Nat → ClassId) (σ : os_S) (ad : Nat → Nat → Nat) (H : Heap) (K i : Nat) : Prop := match os_sc K with
  | .inl (ci, _) => ∃ r : vw_C, os_cl[ci]? = some r ∧ t_OB (ad K i) (D.1 ci) r.2.2 (D.2 ci) H (os_fv σ ad K i)
  | .inr (t, _) => H[ad K i]? = some (arrV (cA t) (os_l σ K i) (os_fv σ ad K i))
/-- the heap holds the store -/
def os_W (D : va_G) (cA : Nat → ClassId) (bs : Nat) (σ : os_S) (ad : Nat → Nat → Nat) (H : Heap) : Prop :=
  (∀ K i, i < os_n σ K → os_at D cA σ ad H K i) ∧
  (∀ K i K' i', i < os_n σ K → i' < os_n σ K' → ad K i = ad K' i' → K = K' ∧ i = i') ∧
  (∀ K i, i < os_n σ K → ∀ j k t, os_tg K j = some k → os_r σ K j i = some t → t < os_n σ k) ∧
  (∀ K i, i < os_n σ K → bs ≤ ad K i)
theorem os_at.lt {D : va_G} {cA : Nat → ClassId} {σ : os_S} {ad : Nat → Nat → Nat} {H : Heap} {K i : Nat} (h : os_at D cA σ ad H K i) : ad K i < H.size := by
  unfold os_at at h
  split at h
  · obtain ⟨r, -, cell, h1, -⟩ := h
    exact (Array.getElem?_eq_some_iff.mp h1).1
  · exact (Array.getElem?_eq_some_iff.mp h).1
/-- a cell as it was, its slots' values as they were -/
theorem os_at.to {D : va_G} {cA : Nat → ClassId} {σ σ' : os_S} {ad ad' : Nat → Nat → Nat} {H H1 : Heap} {K i : Nat} (h : os_at D cA σ ad H K i) (ha : ad' K i = ad K i) (hH : H1[ad K i]? = H[ad K i]?) (hl : os_l σ' K i = os_l σ K i)
    (hv : ∀ j, os_fv σ' ad' K i j = os_fv σ ad K i j) : os_at D cA σ' ad' H1 K i := by
  have hf : os_fv σ' ad' K i = os_fv σ ad K i := funext hv
  unfold os_at at h ⊢
  cases hs : os_sc K with
  | inl x =>
    obtain ⟨ci, fds⟩ := x
    rw [hs] at h
    obtain ⟨r, h1, h2⟩ := h
    refine ⟨r, h1, ?_⟩
    rw [ha, hf]
    exact h2.kept hH
  | inr x =>
    obtain ⟨t, y⟩ := x
    rw [hs] at h
    show H1[ad' K i]? = some (arrV (cA t) (os_l σ' K i) (os_fv σ' ad' K i))
    rw [ha, hf, hl, hH]
    exact h
/-- which cells a method may change: the store's, and those that it makes -/
def os_A (σ : os_S) (ad : Nat → Nat → Nat) (sz : Nat) (q : Nat) : Prop := (∃ K i, i < os_n σ K ∧ q = ad K i) ∨ sz ≤ q
def os_ext (σ : os_S) (ad : Nat → Nat → Nat) (σ' : os_S) (ad' : Nat → Nat → Nat) (sz : Nat) : Prop :=
  (∀ K, os_n σ K ≤ os_n σ' K) ∧ (∀ K i, i < os_n σ K → ad' K i = ad K i) ∧ ∀ K i, os_n σ K ≤ i → i < os_n σ' K → sz ≤ ad' K i
theorem os_ext.rf {σ : os_S} {ad : Nat → Nat → Nat} {sz : Nat} : os_ext σ ad σ ad sz := ⟨fun _ => Nat.le_refl _, fun _ _ _ => rfl, fun _ _ h1 h2 => absurd h2 (Nat.not_lt.mpr h1)⟩
theorem os_ext.trans {σ σ1 σ2 : os_S} {ad ad1 ad2 : Nat → Nat → Nat} {sz sz1 : Nat} (h1 : os_ext σ ad σ1 ad1 sz) (h2 : os_ext σ1 ad1 σ2 ad2 sz1) (hz : sz ≤ sz1) : os_ext σ ad σ2 ad2 sz := by
  refine ⟨fun K => Nat.le_trans (h1.1 K) (h2.1 K), fun K i hi => ?_, fun K i ha hb => ?_⟩
  · rw [h2.2.1 K i (Nat.lt_of_lt_of_le hi (h1.1 K)), h1.2.1 K i hi]
  · by_cases hc : i < os_n σ1 K
    · rw [h2.2.1 K i hc]
      exact h1.2.2 K i ha hc
    · exact Nat.le_trans hz (h2.2.2 K i (Nat.not_lt.mp hc) hb)
theorem os_ext.A {σ σ1 : os_S} {ad ad1 : Nat → Nat → Nat} {sz sz1 : Nat} (h : os_ext σ ad σ1 ad1 sz) (hz : sz ≤ sz1) {q : Nat} (hq : os_A σ1 ad1 sz1 q) : os_A σ ad sz q := by
  rcases hq with ⟨K, i, hi, rfl⟩ | hq
  · by_cases hc : i < os_n σ K
    · exact Or.inl ⟨K, i, hc, h.2.1 K i hc⟩
    · exact Or.inr (h.2.2 K i (Nat.not_lt.mp hc) hi)
  · exact Or.inr (Nat.le_trans hz hq)
/-- an int slot is written -/
theorem os_W.sg {D : va_G} {cA : Nat → ClassId} {bs : Nat} {σ : os_S} {ad : Nat → Nat → Nat} {H H1 : Heap} {K j i : Nat} {v : Int32} (h : os_W D cA bs σ ad H) (hi : i < os_n σ K) (hc : os_at D cA (os_sg σ K j i v) ad H1 K i) (oq : ∀ q : Nat, q ≠ ad K i → H1[q]? = H[q]?) : os_W D cA bs (os_sg σ K j i v) ad H1 := by
  obtain ⟨h1, h2, h3, h4⟩ := h
  refine ⟨fun K' i' hi' => ?_, h2, h3, h4⟩
  by_cases he : ad K' i' = ad K i
  · obtain ⟨rfl, rfl⟩ := h2 K' i' K i hi' hi he
    exact hc
  · refine (h1 K' i' hi').to rfl (oq _ he) rfl (fun j' => ?_)
    unfold os_fv
    cases os_tg K' j' with
    | none =>
      have hg : os_g (os_sg σ K j i v) K' j' i' = os_g σ K' j' i' := by rw [os_g_sg, if_neg (fun z => he (by rw [z.1, z.2.2]))]
      show (if os_lg K' = true then Value.long (os_g (os_sg σ K j i v) K' j' i').toInt64 else .int (os_g (os_sg σ K j i v) K' j' i')) = _
      rw [hg]
    | some k => rfl
/-- a slot for a reference is written -/
theorem os_W.sr {D : va_G} {cA : Nat → ClassId} {bs : Nat} {σ : os_S} {ad : Nat → Nat → Nat} {H H1 : Heap} {K j i : Nat} {v : Option Nat} (h : os_W D cA bs σ ad H) (hi : i < os_n σ K) (hv : ∀ k t, os_tg K j = some k → v = some t → t < os_n σ k) (hc : os_at D cA (os_sr σ K j i v) ad H1 K i) (oq : ∀ q : Nat, q ≠ ad K i → H1[q]? = H[q]?) : os_W D cA bs (os_sr σ K j i v) ad H1 := by
  obtain ⟨h1, h2, h3, h4⟩ := h
  refine ⟨fun K' i' hi' => ?_, h2, fun K' i' hi' j' k t ht hr => ?_, h4⟩
  · by_cases he : ad K' i' = ad K i
    · obtain ⟨rfl, rfl⟩ := h2 K' i' K i hi' hi he
      exact hc
    · refine (h1 K' i' hi').to rfl (oq _ he) rfl (fun j' => ?_)
      unfold os_fv
      cases os_tg K' j' with
      | none => rfl
      | some k =>
        show va_rf ((os_r (os_sr σ K j i v) K' j' i').map (ad k)) = _
        rw [os_r_sr, if_neg (fun z => he (by rw [z.1, z.2.2]))]
  · rw [os_r_sr] at hr
    split at hr
    · rename_i z
      obtain ⟨rfl, rfl, rfl⟩ := z
      exact hv k t ht hr
    · exact h3 K' i' hi' j' k t ht hr
/-- a new object -/
theorem os_W.nw {D : va_G} {cA : Nat → ClassId} {bs : Nat} {σ : os_S} {ad : Nat → Nat → Nat} {H H1 : Heap} {K L : Nat} (h : os_W D cA bs σ ad H) (hb : bs ≤ H.size) (hc : os_at D cA (os_nw σ K L) (os_ad ad K (os_n σ K) H.size) H1 K (os_n σ K)) (oq : ∀ q : Nat, q < H.size → H1[q]? = H[q]?) :
    os_W D cA bs (os_nw σ K L) (os_ad ad K (os_n σ K) H.size) H1 := by
  obtain ⟨h1, h2, h3, h4⟩ := h
  have hold : ∀ K' i', i' < os_n (os_nw σ K L) K' → (K' = K ∧ i' = os_n σ K) ∨ (¬ (K' = K ∧ i' = os_n σ K) ∧ i' < os_n σ K') := by
    intro K' i' hi'
    rw [os_n_nw] at hi'
    by_cases z : K' = K
    · subst z
      rw [if_pos rfl] at hi'
      by_cases w : i' = os_n σ K'
      · exact Or.inl ⟨rfl, w⟩
      · exact Or.inr ⟨fun q => w q.2, by omega⟩
    · rw [if_neg z] at hi'
      exact Or.inr ⟨fun q => z q.1, hi'⟩
  have hup : ∀ k t, t < os_n σ k → t < os_n (os_nw σ K L) k := by
    intro k t ht
    rw [os_n_nw]
    split
    · rename_i z
      subst z
      omega
    · exact ht
  refine ⟨fun K' i' hi' => ?_, fun K' i' K2 i2 hi' hi2 he => ?_, fun K' i' hi' j k t ht hr => ?_, fun K' i' hi' => ?_⟩
  · rcases hold K' i' hi' with ⟨rfl, rfl⟩ | ⟨hne, hi'⟩
    · exact hc
    · refine (h1 K' i' hi').to (by rw [os_ad_eq, if_neg hne]) (oq _ (h1 K' i' hi').lt) (by rw [os_l_nw, if_neg hne]) (fun j => ?_)
      unfold os_fv
      cases htg : os_tg K' j with
      | none =>
        have hg : os_g (os_nw σ K L) K' j i' = os_g σ K' j i' := by rw [os_g_nw, if_neg hne]
        show (if os_lg K' = true then Value.long (os_g (os_nw σ K L) K' j i').toInt64 else .int (os_g (os_nw σ K L) K' j i')) = _
        rw [hg]
      | some k =>
        show va_rf ((os_r (os_nw σ K L) K' j i').map (os_ad ad K (os_n σ K) H.size k)) = _
        rw [os_r_nw, if_neg hne]
        cases hr : os_r σ K' j i' with
        | none => rfl
        | some t =>
          show va_rf (some (os_ad ad K (os_n σ K) H.size k t)) = va_rf (some (ad k t))
          have ht := h3 K' i' hi' j k t htg hr
          rw [os_ad_eq, if_neg (fun z => by obtain ⟨rfl, rfl⟩ := z; exact absurd ht (Nat.lt_irrefl _))]
  · rcases hold K' i' hi' with ⟨d1, d2⟩ | ⟨hne, g1⟩ <;> rcases hold K2 i2 hi2 with ⟨e1, e2⟩ | ⟨hne2, g2⟩
    · exact ⟨d1.trans e1.symm, d2.trans e2.symm⟩
    · rw [os_ad_eq, if_pos ⟨d1, d2⟩, os_ad_eq, if_neg hne2] at he
      have := (h1 K2 i2 g2).lt
      omega
    · rw [os_ad_eq, if_neg hne, os_ad_eq, if_pos ⟨e1, e2⟩] at he
      have := (h1 K' i' g1).lt
      omega
    · rw [os_ad_eq, if_neg hne, os_ad_eq, if_neg hne2] at he
      exact h2 K' i' K2 i2 g1 g2 he
  · rcases hold K' i' hi' with ⟨rfl, rfl⟩ | ⟨hne, hi'⟩
    · rw [os_r_nw, if_pos ⟨rfl, rfl⟩] at hr
      cases hr
    · rw [os_r_nw, if_neg hne] at hr
      exact hup _ _ (h3 K' i' hi' j k t ht hr)
  · rw [os_ad_eq]
    split
    · exact hb
    · rename_i hne
      rcases hold K' i' hi' with z | ⟨-, hi'⟩
      · exact absurd z hne
      · exact h4 K' i' hi'
theorem os_ext.nw {σ : os_S} {ad : Nat → Nat → Nat} {K L sz : Nat} : os_ext σ ad (os_nw σ K L) (os_ad ad K (os_n σ K) sz) sz := by
  refine ⟨fun K' => ?_, fun K' i hi => ?_, fun K' i h1 h2 => ?_⟩
  · rw [os_n_nw]; split
    · rename_i z; subst z; omega
    · exact Nat.le_refl _
  · rw [os_ad_eq, if_neg (fun z => by obtain ⟨rfl, rfl⟩ := z; exact absurd hi (Nat.lt_irrefl _))]
  · rw [os_n_nw] at h2
    split at h2
    · rename_i z; subst z
      rw [os_ad_eq, if_pos ⟨rfl, by omega⟩]
      exact Nat.le_refl _
    · omega
end
section
/-! ROWS OVER THE STORE: a row an instruction that reads, writes or makes -/
/-- where a static field of a class of the JDK lies, and that it holds null or a reference -/
def os_L (C n d : String) (bs : Nat) (U : State) : Prop := ∃ (c : ClassId) (k : Class) (i : Nat) (f : Field) (a : Nat) (cell : Cell) (v : Value), U.vm.findClass C = some c ∧ U.fieldFound? C n d = some (c, k, i, f) ∧ f.isStatic = true ∧ k.statics = some a ∧ U.heap[a]? = some cell ∧ cell.vm.isStatics = true ∧ cell.cls = c ∧ f.slot < cell.slots.size ∧ k.staticTypes[f.slot]? = some f.type ∧ a < bs ∧ cell.slots[f.slot]? = some v ∧ v.isRef = true
/-- what a walk knows of the tables, and of the cells that it never writes -/
def os_EV (D : va_G) (cA : Nat → ClassId) (bs : Nat) (U : State) : Prop :=
  (∀ w ∈ os_tb, w.before #[] U = true) ∧ va_K D os_cl (os_tys cA) U ∧ bs ≤ U.heap.size ∧ os_L Bundle.tN "UNASSIGNED_STACK" Bundle.steD bs U ∧ os_L Bundle.tN "SUPPRESSED_SENTINEL" Bundle.listD bs U ∧ ∀ q ∈ os_str, ∃ a, vk_R q.1 q.2.1 q.2.2 a U
def os_V (D : va_G) (cA : Nat → ClassId) (bs : Nat) (σ0 : os_S) (ad0 : Nat → Nat → Nat) (s : State) (σ : os_S) (ad : Nat → Nat → Nat) (H : Heap) (locs : List Loc) : Prop :=
  os_W D cA bs σ ad H ∧ os_ext σ0 ad0 σ ad s.heap.size ∧ va_S (os_A σ0 ad0 s.heap.size) s.heap H locs
theorem os_ext.inA {σ σ1 : os_S} {ad ad1 : Nat → Nat → Nat} {sz K i : Nat} (h : os_ext σ ad σ1 ad1 sz) (hi : i < os_n σ1 K) : os_A σ ad sz (ad1 K i) := by
  by_cases hc : i < os_n σ K
  · exact Or.inl ⟨K, i, hc, h.2.1 K i hc⟩
  · exact Or.inr (h.2.2 K i (Nat.not_lt.mp hc) hi)
section OSR
variable {p : Program} {l : Launch} {e : Env} {R : Room} {s : State} {m : MethodId} {args : Array Value} {below : List Frame} {meth : Method} {c : Code} {H : Heap} {locs : List Loc} {cells slots : Nat} {Q : State → Prop}
variable {cc : ByteArray} {pc : Nat} {ls : Array Slot} {rest : List Value} {D : va_G} {cA : Nat → ClassId} {bs : Nat} {σ σ0 : os_S} {ad ad0 : Nat → Nat → Nat} {tys : List (ClassId × FieldType)}
theorem os_slot {C : String} {T : u_T} {N ci K j i : Nat} {fds : List (Option Nat)} {Ts : List Cond} (hts : ∀ w ∈ Ts, w.before args s = true) (hin : ∀ w ∈ u_ws C T N, w ∈ Ts) (hK : va_K D os_cl tys s) (hW : os_W D cA bs σ ad H) (hs : os_sc K = .inl (ci, fds)) (hc : os_cl[ci]? = some (C, T, N)) (hj : j < N) (hi : i < os_n σ K) :
    ∃ (cell : Cell) (cf : ClassId) (kf : Class) (fi : Nat) (f : Field), s.fieldFound? (T j).1 (T j).2.1 (T j).2.2.1 = some (cf, kf, fi, f) ∧ f.isStatic = false ∧ f.slot = D.2 ci j ∧ H[ad K i]? = some cell ∧ cell.cls = D.1 ci ∧ cell.vm = .none ∧ ∀ k, k < N → cell.slots[D.2 ci k]? = some (os_fv σ ad K i k) := by
  have h := hW.1 K i hi
  unfold os_at at h
  rw [hs] at h
  obtain ⟨r, h1, cell, q1, q2, q3, q4⟩ := h
  have hr : r = (C, T, N) := Option.some.inj (h1.symm.trans hc)
  subst hr
  obtain ⟨hS, hfc, kC, hkC, hkind⟩ := hK.1 ci _ hc
  obtain ⟨cf, kf, fi, f, hi', hsl⟩ := hS j hj
  exact ⟨cell, cf, kf, fi, f, hi', (u_facts hfc hkC (u_lays hts hin hj) hi').1, hsl, q1, q2, q3, q4⟩
theorem os_get (hx : p.tables.exec = Jvm.exec) (hb : c.code = cc) {own C : String} {T : u_T} {N ci index K j i : Nat} {fds : List (Option Nat)} {Ts : List Cond} {v : Value} (hts : ∀ w ∈ Ts, w.before args s = true) (hin : ∀ w ∈ u_ws C T N, w ∈ Ts) (hown : s.vm.findClass own = some m.cls) (hK : va_K D os_cl tys s) (hV : os_V D cA bs σ0 ad0 s σ ad H locs)
    (hs : os_sc K = .inl (ci, fds)) (hc : os_cl[ci]? = some (C, T, N)) (hj : j < N) (hi : i < os_n σ K) (hlink : (Cond.fieldLink own index (T j).1 (T j).2.1 (T j).2.2.1).before args s = true) (hv : os_fv σ ad K i j = v) (hdg : decode cc pc = .ok (.getfield index, 3))
    (kk : W p l e R s m args below meth c H locs cells slots Q (F0 m (pc + 3) ls (v :: rest))) : W p l e R s m args below meth c H locs cells slots Q (F0 m pc ls (.ref (ad K i) :: rest)) := by
  obtain ⟨cell, cf, kf, fi, f, hi', hst, hsl, q1, q2, q3, q4⟩ := os_slot hts hin hK hV.1 hs hc hj hi
  exact W.getf hx hb hown hlink hi' hst q1 (by rw [q3]; exact fun h => by cases h) (by rw [hsl, q4 j hj, hv]) rfl rfl hdg kk
theorem os_getN (hx : p.tables.exec = Jvm.exec) (hb : c.code = cc) {own C host : String} {T : u_T} {N ci index K j i : Nat} {fds : List (Option Nat)} {Ts : List Cond} {v : Value} (hts : ∀ w ∈ Ts, w.before args s = true) (hin : ∀ w ∈ u_ws C T N, w ∈ Ts) (hown : s.vm.findClass own = some m.cls) (hK : va_K D os_cl tys s) (hV : os_V D cA bs σ0 ad0 s σ ad H locs)
    (hs : os_sc K = .inl (ci, fds)) (hc : os_cl[ci]? = some (C, T, N)) (hj : j < N) (hi : i < os_n σ K) (hlink : (Cond.fieldLinkNest own index (T j).1 (T j).2.1 (T j).2.2.1 host).before args s = true) (hv : os_fv σ ad K i j = v) (hdg : decode cc pc = .ok (.getfield index, 3))
    (kk : W p l e R s m args below meth c H locs cells slots Q (F0 m (pc + 3) ls (v :: rest))) : W p l e R s m args below meth c H locs cells slots Q (F0 m pc ls (.ref (ad K i) :: rest)) := by
  obtain ⟨cell, cf, kf, fi, f, hi', hst, hsl, q1, q2, q3, q4⟩ := os_slot hts hin hK hV.1 hs hc hj hi
  exact va_Wgetf hx hb hown hlink hi' hst q1 (by rw [q3]; exact fun h => by cases h) (by rw [hsl, q4 j hj, hv]) rfl rfl hdg kk
/-- an object's cell with one slot set -/
theorem os_atset {N ci K j i : Nat} {C : String} {T : u_T} {fds : List (Option Nat)} {σ' : os_S} {v : Value} {cell : Cell} {H1 : Heap} (hs : os_sc K = .inl (ci, fds)) (hc : os_cl[ci]? = some (C, T, N)) (hj : j < N) (hap : ∀ x y, x < N → y < N → x ≠ y → (D.2 ci) x ≠ (D.2 ci) y) (q2 : cell.cls = D.1 ci) (q3 : cell.vm = .none) (q4 : ∀ k, k < N → cell.slots[D.2 ci k]? = some (os_fv σ ad K i k)) (e1 : H1[ad K i]? = some (cell.setSlot (D.2 ci j) v))
    (h1 : os_fv σ' ad K i j = v) (h2 : ∀ k, k ≠ j → os_fv σ' ad K i k = os_fv σ ad K i k) : os_at D cA σ' ad H1 K i := by
  unfold os_at
  rw [hs]
  refine ⟨_, hc, t_OB.to (V := updV (os_fv σ ad K i) j v) ⟨_, e1, q2, q3, t_set q4 hap hj v⟩ (fun k _ => ?_)⟩
  by_cases hk : k = j
  · subst hk
    simp [updV, h1]
  · simp [updV, hk, h2 k hk]
theorem os_fv_sg {K i j k : Nat} {v : Int32} (hk : k ≠ j) : os_fv (os_sg σ K j i v) ad K i k = os_fv σ ad K i k := by
  unfold os_fv
  cases os_tg K k with
  | none =>
    have hg : os_g (os_sg σ K j i v) K k i = os_g σ K k i := by rw [os_g_sg, if_neg (fun z => hk z.2.1)]
    show (if os_lg K = true then Value.long (os_g (os_sg σ K j i v) K k i).toInt64 else .int (os_g (os_sg σ K j i v) K k i)) = _
    rw [hg]
  | some t => rfl
theorem os_fv_sgs {K i j : Nat} {v : Int32} (ht : os_tg K j = none) (hg : os_lg K = false) : os_fv (os_sg σ K j i v) ad K i j = .int v := by
  unfold os_fv
  rw [ht]
  have he : os_g (os_sg σ K j i v) K j i = v := by rw [os_g_sg, if_pos ⟨rfl, rfl, rfl⟩]
  show (if os_lg K = true then Value.long (os_g (os_sg σ K j i v) K j i).toInt64 else .int (os_g (os_sg σ K j i v) K j i)) = _
  rw [he, hg]
  rfl
theorem os_fv_sgl {K i j : Nat} {v : Int32} (ht : os_tg K j = none) (hg : os_lg K = true) : os_fv (os_sg σ K j i v) ad K i j = .long v.toInt64 := by
  unfold os_fv
  rw [ht]
  have he : os_g (os_sg σ K j i v) K j i = v := by rw [os_g_sg, if_pos ⟨rfl, rfl, rfl⟩]
  show (if os_lg K = true then Value.long (os_g (os_sg σ K j i v) K j i).toInt64 else .int (os_g (os_sg σ K j i v) K j i)) = _
  rw [he, hg]
  rfl
theorem os_fv_sr {K i j k : Nat} {v : Option Nat} (hk : k ≠ j) : os_fv (os_sr σ K j i v) ad K i k = os_fv σ ad K i k := by
  unfold os_fv
  cases os_tg K k with
  | none => rfl
  | some t =>
    show va_rf ((os_r (os_sr σ K j i v) K k i).map (ad t)) = _
    rw [os_r_sr, if_neg (fun z => hk z.2.1)]
theorem os_fv_srs {K i j k : Nat} {v : Option Nat} (ht : os_tg K j = some k) : os_fv (os_sr σ K j i v) ad K i j = va_rf (v.map (ad k)) := by
  unfold os_fv
  rw [ht]
  show va_rf ((os_r (os_sr σ K j i v) K j i).map (ad k)) = _
  rw [os_r_sr, if_pos ⟨rfl, rfl, rfl⟩]
theorem os_V.sg {K j i : Nat} {v : Int32} {H1 : Heap} {x : Nat} (hV : os_V D cA bs σ0 ad0 s σ ad H locs) (hi : i < os_n σ K) (hc : os_at D cA (os_sg σ K j i v) ad H1 K i) (e2 : H1.size = H.size) (e3 : ∀ q : Nat, q ≠ ad K i → H1[q]? = H[q]?) : os_V D cA bs σ0 ad0 s (os_sg σ K j i v) ad H1 (locs ++ [⟨ad K i, x⟩]) :=
  ⟨hV.1.sg hi hc e3, hV.2.1, hV.2.2.put e2 e3 (hV.2.1.inA hi)⟩
theorem os_V.sr {K j i : Nat} {v : Option Nat} {H1 : Heap} {x : Nat} (hV : os_V D cA bs σ0 ad0 s σ ad H locs) (hi : i < os_n σ K) (hv : ∀ k t, os_tg K j = some k → v = some t → t < os_n σ k) (hc : os_at D cA (os_sr σ K j i v) ad H1 K i) (e2 : H1.size = H.size) (e3 : ∀ q : Nat, q ≠ ad K i → H1[q]? = H[q]?) : os_V D cA bs σ0 ad0 s (os_sr σ K j i v) ad H1 (locs ++ [⟨ad K i, x⟩]) :=
  ⟨hV.1.sr hi hv hc e3, hV.2.1, hV.2.2.put e2 e3 (hV.2.1.inA hi)⟩
theorem os_putI (hx : p.tables.exec = Jvm.exec) (hb : c.code = cc) {own C : String} {T : u_T} {N ci index K j i : Nat} {fds : List (Option Nat)} {Ts : List Cond} {v : Int32} {ty : FieldType} (hts : ∀ w ∈ Ts, w.before args s = true) (hin : ∀ w ∈ u_ws C T N, w ∈ Ts) (ty0 : Nat → FieldType) (hty : ∀ k, k < N → parseFieldDescriptor (T k).2.2.1 = some (ty0 k)) (hnm : ∀ a, a < N → ∀ b, b < N → a ≠ b → (T a).2.1 ≠ (T b).2.1) (hown : s.vm.findClass own = some m.cls) (hK : va_K D os_cl tys s) (hV : os_V D cA bs σ0 ad0 s σ ad H locs)
    (hs : os_sc K = .inl (ci, fds)) (hc : os_cl[ci]? = some (C, T, N)) (hj : j < N) (hi : i < os_n σ K) (hlink : (Cond.fieldLink own index (T j).1 (T j).2.1 (T j).2.2.1).before args s = true) (hfin : (T j).2.2.2 = false) (htg : os_tg K j = none) (hlg : os_lg K = false) (hd : parseFieldDescriptor (T j).2.2.1 = some ty) (hn : narrow ty (.int v) = .int v) (hfit : fits ty (.int v) = true) (hdg : decode cc pc = .ok (.putfield index, 3))
    (kk : ∀ (H1 : Heap) (locs1 : List Loc), os_V D cA bs σ0 ad0 s (os_sg σ K j i v) ad H1 locs1 → W p l e R s m args below meth c H1 locs1 cells slots Q (F0 m (pc + 3) ls rest)) : W p l e R s m args below meth c H locs cells slots Q (F0 m pc ls (.int v :: .ref (ad K i) :: rest)) := by
  obtain ⟨cell, cf, kf, fi, f, hi', hst, hsl, q1, q2, q3, q4⟩ := os_slot hts hin hK hV.1 hs hc hj hi
  have hap := va_apart (own := own) hts hin ty0 hty hnm hK hc
  obtain ⟨hS, hfc, kC, hkC, hkind⟩ := hK.1 ci _ hc
  have hlay := hts _ (hin _ (u_in_lay hj))
  unfold u_lay at hlay
  rw [if_neg (by rw [hfin]; decide)] at hlay
  have h6 := u_store hfc hkC hkind hlay hi' hd hn hfit
  refine W.putK hx hb (f := f) ⟨hown, hlink, ⟨_, _, _, hi'⟩, hst⟩ (by rw [q2]; exact h6) q1 q3 (by rw [hsl]; exact k2_hasslot (q4 j hj)) rfl rfl hdg fun H' e1 e2 e3 => ?_
  rw [hsl] at e1
  exact kk H' _ (hV.sg hi (os_atset hs hc hj hap q2 q3 q4 e1 (os_fv_sgs htg hlg) (fun k hk => os_fv_sg hk)) e2 e3)
theorem os_putIN (hx : p.tables.exec = Jvm.exec) (hb : c.code = cc) {own C host : String} {T : u_T} {N ci index K j i : Nat} {fds : List (Option Nat)} {Ts : List Cond} {v : Int32} {ty : FieldType} (hts : ∀ w ∈ Ts, w.before args s = true) (hin : ∀ w ∈ u_ws C T N, w ∈ Ts) (ty0 : Nat → FieldType) (hty : ∀ k, k < N → parseFieldDescriptor (T k).2.2.1 = some (ty0 k)) (hnm : ∀ a, a < N → ∀ b, b < N → a ≠ b → (T a).2.1 ≠ (T b).2.1) (hown : s.vm.findClass own = some m.cls) (hK : va_K D os_cl tys s) (hV : os_V D cA bs σ0 ad0 s σ ad H locs)
    (hs : os_sc K = .inl (ci, fds)) (hc : os_cl[ci]? = some (C, T, N)) (hj : j < N) (hi : i < os_n σ K) (hlink : (Cond.fieldLinkNest own index (T j).1 (T j).2.1 (T j).2.2.1 host).before args s = true) (hfin : (T j).2.2.2 = false) (htg : os_tg K j = none) (hlg : os_lg K = false) (hd : parseFieldDescriptor (T j).2.2.1 = some ty) (hn : narrow ty (.int v) = .int v) (hfit : fits ty (.int v) = true) (hdg : decode cc pc = .ok (.putfield index, 3))
    (kk : ∀ (H1 : Heap) (locs1 : List Loc), os_V D cA bs σ0 ad0 s (os_sg σ K j i v) ad H1 locs1 → W p l e R s m args below meth c H1 locs1 cells slots Q (F0 m (pc + 3) ls rest)) : W p l e R s m args below meth c H locs cells slots Q (F0 m pc ls (.int v :: .ref (ad K i) :: rest)) := by
  obtain ⟨cell, cf, kf, fi, f, hi', hst, hsl, q1, q2, q3, q4⟩ := os_slot hts hin hK hV.1 hs hc hj hi
  have hap := va_apart (own := own) hts hin ty0 hty hnm hK hc
  obtain ⟨hS, hfc, kC, hkC, hkind⟩ := hK.1 ci _ hc
  have hlay := hts _ (hin _ (u_in_lay hj))
  unfold u_lay at hlay
  rw [if_neg (by rw [hfin]; decide)] at hlay
  have h6 := u_store hfc hkC hkind hlay hi' hd hn hfit
  refine va_WputK hx hb (f := f) hown hlink hi' hst (by rw [q2]; exact h6) q1 q3 (by rw [hsl]; exact k2_hasslot (q4 j hj)) rfl rfl hdg fun H' e1 e2 e3 => ?_
  rw [hsl] at e1
  exact kk H' _ (hV.sg hi (os_atset hs hc hj hap q2 q3 q4 e1 (os_fv_sgs htg hlg) (fun k hk => os_fv_sg hk)) e2 e3)
/-- a final field of an int, in its own constructor -/
theorem os_putIF (hx : p.tables.exec = Jvm.exec) (hb : c.code = cc) {own C : String} {T : u_T} {N ci index K j i : Nat} {fds : List (Option Nat)} {Ts : List Cond} {v : Int32} {ty : FieldType} (hts : ∀ w ∈ Ts, w.before args s = true) (hin : ∀ w ∈ u_ws C T N, w ∈ Ts) (ty0 : Nat → FieldType) (hty : ∀ k, k < N → parseFieldDescriptor (T k).2.2.1 = some (ty0 k)) (hnm : ∀ a, a < N → ∀ b, b < N → a ≠ b → (T a).2.1 ≠ (T b).2.1) (hown : s.vm.findClass own = some m.cls) (hK : va_K D os_cl tys s) (hV : os_V D cA bs σ0 ad0 s σ ad H locs)
    (hs : os_sc K = .inl (ci, fds)) (hc : os_cl[ci]? = some (C, T, N)) (hj : j < N) (hi : i < os_n σ K) (hlink : (Cond.fieldLink own index (T j).1 (T j).2.1 (T j).2.2.1).before args s = true) (hfin : (T j).2.2.2 = true) (hin2 : meth.name = "<init>") (hdecl : (T j).1 = own) (htg : os_tg K j = none) (hlg : os_lg K = false) (hd : parseFieldDescriptor (T j).2.2.1 = some ty) (hn : narrow ty (.int v) = .int v) (hfit : fits ty (.int v) = true) (hdg : decode cc pc = .ok (.putfield index, 3))
    (kk : ∀ (H1 : Heap) (locs1 : List Loc), os_V D cA bs σ0 ad0 s (os_sg σ K j i v) ad H1 locs1 → W p l e R s m args below meth c H1 locs1 cells slots Q (F0 m (pc + 3) ls rest)) : W p l e R s m args below meth c H locs cells slots Q (F0 m pc ls (.int v :: .ref (ad K i) :: rest)) := by
  obtain ⟨cell, cf, kf, fi, f, hi', hst, hsl, q1, q2, q3, q4⟩ := os_slot hts hin hK hV.1 hs hc hj hi
  have hap := va_apart (own := own) hts hin ty0 hty hnm hK hc
  obtain ⟨hS, hfc, kC, hkC, hkind⟩ := hK.1 ci _ hc
  have hlay := hts _ (hin _ (u_in_lay hj))
  unfold u_lay at hlay
  rw [if_pos hfin] at hlay
  have hcf : m.cls = cf := by
    obtain ⟨_, _, c', _, _, _, -, -, hf', -, -, -, hown2, -⟩ := Cond.laysFinal_spec hlay
    have e1 : c' = cf := by have := hi'.symm.trans hf'; simp at this; exact this.1.symm
    rw [hdecl] at hown2
    rw [← e1]; exact Option.some.inj (hown.symm.trans hown2)
  have h6 := u_fits hfc hkC hkind (Or.inr hlay) hi' hd hn hfit
  refine W.putFinK hx hb hown hlink hi' hst hcf hin2 (by rw [q2]; exact h6) q1 q3 (by rw [hsl]; exact k2_hasslot (q4 j hj)) rfl rfl hdg fun H' e1 e2 e3 => ?_
  rw [hsl] at e1
  exact kk H' _ (hV.sg hi (os_atset hs hc hj hap q2 q3 q4 e1 (os_fv_sgs htg hlg) (fun k hk => os_fv_sg hk)) e2 e3)
theorem os_rfit (C : String) (r : Option Nat) : narrow (.object C) (va_rf r) = va_rf r ∧ fits (.object C) (va_rf r) = true := by cases r <;> exact ⟨rfl, rfl⟩
theorem os_rfitA (t : FieldType) (r : Option Nat) : narrow (.array t) (va_rf r) = va_rf r ∧ fits (.array t) (va_rf r) = true := by cases r <;> exact ⟨rfl, rfl⟩
theorem os_putR (hx : p.tables.exec = Jvm.exec) (hb : c.code = cc) {own C : String} {T : u_T} {N ci index K j i kt : Nat} {fds : List (Option Nat)} {Ts : List Cond} {v : Option Nat} {x : Value} {ty : FieldType} (hts : ∀ w ∈ Ts, w.before args s = true) (hin : ∀ w ∈ u_ws C T N, w ∈ Ts) (ty0 : Nat → FieldType) (hty : ∀ k, k < N → parseFieldDescriptor (T k).2.2.1 = some (ty0 k)) (hnm : ∀ a, a < N → ∀ b, b < N → a ≠ b → (T a).2.1 ≠ (T b).2.1) (hown : s.vm.findClass own = some m.cls) (hK : va_K D os_cl tys s) (hV : os_V D cA bs σ0 ad0 s σ ad H locs)
    (hs : os_sc K = .inl (ci, fds)) (hc : os_cl[ci]? = some (C, T, N)) (hj : j < N) (hi : i < os_n σ K) (hlink : (Cond.fieldLink own index (T j).1 (T j).2.1 (T j).2.2.1).before args s = true) (hfin : (T j).2.2.2 = false) (htg : os_tg K j = some kt) (hxv : x = va_rf (v.map (ad kt))) (hvt : ∀ t, v = some t → t < os_n σ kt) (hd : parseFieldDescriptor (T j).2.2.1 = some ty) (hn : narrow ty x = x ∧ fits ty x = true) (hdg : decode cc pc = .ok (.putfield index, 3))
    (kk : ∀ (H1 : Heap) (locs1 : List Loc), os_V D cA bs σ0 ad0 s (os_sr σ K j i v) ad H1 locs1 → W p l e R s m args below meth c H1 locs1 cells slots Q (F0 m (pc + 3) ls rest)) : W p l e R s m args below meth c H locs cells slots Q (F0 m pc ls (x :: .ref (ad K i) :: rest)) := by
  obtain ⟨cell, cf, kf, fi, f, hi', hst, hsl, q1, q2, q3, q4⟩ := os_slot hts hin hK hV.1 hs hc hj hi
  have hap := va_apart (own := own) hts hin ty0 hty hnm hK hc
  obtain ⟨hS, hfc, kC, hkC, hkind⟩ := hK.1 ci _ hc
  have hlay := hts _ (hin _ (u_in_lay hj))
  unfold u_lay at hlay
  rw [if_neg (by rw [hfin]; decide)] at hlay
  have h6 := u_store hfc hkC hkind hlay hi' hd hn.1 hn.2
  refine W.putK hx hb (f := f) ⟨hown, hlink, ⟨_, _, _, hi'⟩, hst⟩ (by rw [q2]; exact h6) q1 q3 (by rw [hsl]; exact k2_hasslot (q4 j hj)) rfl rfl hdg fun H' e1 e2 e3 => ?_
  rw [hsl] at e1
  exact kk H' _ (hV.sr hi (fun k t h1 h2 => by rw [htg] at h1; cases h1; exact hvt t h2) (os_atset hs hc hj hap q2 q3 q4 e1 ((os_fv_srs htg).trans hxv.symm) (fun k hk => os_fv_sr hk)) e2 e3)
theorem os_putRF (hx : p.tables.exec = Jvm.exec) (hb : c.code = cc) {own C : String} {T : u_T} {N ci index K j i kt : Nat} {fds : List (Option Nat)} {Ts : List Cond} {v : Option Nat} {x : Value} {ty : FieldType} (hts : ∀ w ∈ Ts, w.before args s = true) (hin : ∀ w ∈ u_ws C T N, w ∈ Ts) (ty0 : Nat → FieldType) (hty : ∀ k, k < N → parseFieldDescriptor (T k).2.2.1 = some (ty0 k)) (hnm : ∀ a, a < N → ∀ b, b < N → a ≠ b → (T a).2.1 ≠ (T b).2.1) (hown : s.vm.findClass own = some m.cls) (hK : va_K D os_cl tys s) (hV : os_V D cA bs σ0 ad0 s σ ad H locs)
    (hs : os_sc K = .inl (ci, fds)) (hc : os_cl[ci]? = some (C, T, N)) (hj : j < N) (hi : i < os_n σ K) (hlink : (Cond.fieldLink own index (T j).1 (T j).2.1 (T j).2.2.1).before args s = true) (hfin : (T j).2.2.2 = true) (hin2 : meth.name = "<init>") (hdecl : (T j).1 = own) (htg : os_tg K j = some kt) (hxv : x = va_rf (v.map (ad kt))) (hvt : ∀ t, v = some t → t < os_n σ kt) (hd : parseFieldDescriptor (T j).2.2.1 = some ty) (hn : narrow ty x = x ∧ fits ty x = true) (hdg : decode cc pc = .ok (.putfield index, 3))
    (kk : ∀ (H1 : Heap) (locs1 : List Loc), os_V D cA bs σ0 ad0 s (os_sr σ K j i v) ad H1 locs1 → W p l e R s m args below meth c H1 locs1 cells slots Q (F0 m (pc + 3) ls rest)) : W p l e R s m args below meth c H locs cells slots Q (F0 m pc ls (x :: .ref (ad K i) :: rest)) := by
  obtain ⟨cell, cf, kf, fi, f, hi', hst, hsl, q1, q2, q3, q4⟩ := os_slot hts hin hK hV.1 hs hc hj hi
  have hap := va_apart (own := own) hts hin ty0 hty hnm hK hc
  obtain ⟨hS, hfc, kC, hkC, hkind⟩ := hK.1 ci _ hc
  have hlay := hts _ (hin _ (u_in_lay hj))
  unfold u_lay at hlay
  rw [if_pos hfin] at hlay
  have hcf : m.cls = cf := by
    obtain ⟨_, _, c', _, _, _, -, -, hf', -, -, -, hown2, -⟩ := Cond.laysFinal_spec hlay
    have e1 : c' = cf := by have := hi'.symm.trans hf'; simp at this; exact this.1.symm
    rw [hdecl] at hown2
    rw [← e1]; exact Option.some.inj (hown.symm.trans hown2)
  have h6 := u_fits hfc hkC hkind (Or.inr hlay) hi' hd hn.1 hn.2
  refine W.putFinK hx hb hown hlink hi' hst hcf hin2 (by rw [q2]; exact h6) q1 q3 (by rw [hsl]; exact k2_hasslot (q4 j hj)) rfl rfl hdg fun H' e1 e2 e3 => ?_
  rw [hsl] at e1
  exact kk H' _ (hV.sr hi (fun k t h1 h2 => by rw [htg] at h1; cases h1; exact hvt t h2) (os_atset hs hc hj hap q2 q3 q4 e1 ((os_fv_srs htg).trans hxv.symm) (fun k hk => os_fv_sr hk)) e2 e3)
/-- arrays -/
theorem os_arr {K i t : Nat} {x : Option Nat} (hW : os_W D cA bs σ ad H) (hs : os_sc K = .inr (t, x)) (hi : i < os_n σ K) : H[ad K i]? = some (arrV (cA t) (os_l σ K i) (os_fv σ ad K i)) := by
  have h := hW.1 K i hi
  unfold os_at at h
  rw [hs] at h
  exact h
theorem os_alen (hx : p.tables.exec = Jvm.exec) (hb : c.code = cc) {K i t t0 : Nat} {x : Option Nat} {ty : FieldType} {v : Int32} (hK : va_K D os_cl tys s) (hV : os_V D cA bs σ0 ad0 s σ ad H locs) (hs : os_sc K = .inr (t, x)) (ht : tys[t0]? = some (cA t, ty)) (hi : i < os_n σ K) (hv : Int32.ofNat (os_l σ K i) = v) (hdg : decode cc pc = .ok (.arraylength, 1))
    (kk : W p l e R s m args below meth c H locs cells slots Q (F0 m (pc + 1) ls (.int v :: rest))) : W p l e R s m args below meth c H locs cells slots Q (F0 m pc ls (.ref (ad K i) :: rest)) := by
  subst hv
  exact W.alen (n := Int32.ofNat (os_l σ K i)) hx hb (os_arr hV.1 hs hi) ((hK.2 t0 _ ht).1 _ _) (by rw [arrV_size] <;> rfl) rfl rfl hdg kk
theorem os_iald (hx : p.tables.exec = Jvm.exec) (hb : c.code = cc) {K i t t0 : Nat} {ix : Int32} (hK : va_K D os_cl tys s) (hV : os_V D cA bs σ0 ad0 s σ ad H locs) (hs : os_sc K = .inr (t, none)) (hlg : os_lg K = false) (ht : tys[t0]? = some (cA t, .int)) (hi : i < os_n σ K) (hin : vp_in ix (os_l σ K i)) (hdg : decode cc pc = .ok (.iaload, 1))
    (kk : W p l e R s m args below meth c H locs cells slots Q (F0 m (pc + 1) ls (.int (os_g σ K ix.toNatClampNeg i) :: rest))) : W p l e R s m args below meth c H locs cells slots Q (F0 m pc ls (.int ix :: .ref (ad K i) :: rest)) := by
  have hlt : ix.toNatClampNeg < os_l σ K i := Nat.not_le.mp fun q => hin (Or.inr q)
  have hfv : os_fv σ ad K i ix.toNatClampNeg = .int (os_g σ K ix.toNatClampNeg i) := by unfold os_fv os_tg; rw [hs]; simp [hlg]
  exact W.iald (v := .int (os_g σ K ix.toNatClampNeg i)) hx hb (os_arr hV.1 hs hi) ((hK.2 t0 _ ht).1 _ _) (fun q => by cases q) (by rw [arrV_size]; exact hin) (by rw [arrV_read _ _ hlt, hfv]) rfl rfl hdg kk
theorem os_aald (hx : p.tables.exec = Jvm.exec) (hb : c.code = cc) {K i t t0 kt : Nat} {C : String} {ix : Int32} (hK : va_K D os_cl tys s) (hV : os_V D cA bs σ0 ad0 s σ ad H locs) (hs : os_sc K = .inr (t, some kt)) (ht : tys[t0]? = some (cA t, .object C)) (hi : i < os_n σ K) (hin : vp_in ix (os_l σ K i)) (hdg : decode cc pc = .ok (.aaload, 1))
    (kk : W p l e R s m args below meth c H locs cells slots Q (F0 m (pc + 1) ls (va_rf ((os_r σ K ix.toNatClampNeg i).map (ad kt)) :: rest))) : W p l e R s m args below meth c H locs cells slots Q (F0 m pc ls (.int ix :: .ref (ad K i) :: rest)) := by
  have hlt : ix.toNatClampNeg < os_l σ K i := Nat.not_le.mp fun q => hin (Or.inr q)
  have hfv : os_fv σ ad K i ix.toNatClampNeg = va_rf ((os_r σ K ix.toNatClampNeg i).map (ad kt)) := by unfold os_fv os_tg; rw [hs]
  exact W.aald (v := va_rf ((os_r σ K ix.toNatClampNeg i).map (ad kt))) (ty := .object C) hx hb (os_arr hV.1 hs hi) ((hK.2 t0 _ ht).1 _ _) rfl (fun q => by cases q) (by rw [arrV_size]; exact hin) (by rw [arrV_read _ _ hlt, hfv]) rfl rfl hdg kk
theorem os_arrset {K i t j : Nat} {x : Option Nat} {σ' : os_S} {v : Value} {H1 : Heap} (hs : os_sc K = .inr (t, x)) (hl : os_l σ' K i = os_l σ K i) (e1 : H1[ad K i]? = some ((arrV (cA t) (os_l σ K i) (os_fv σ ad K i)).setSlot j v)) (h1 : os_fv σ' ad K i j = v) (h2 : ∀ k, k ≠ j → os_fv σ' ad K i k = os_fv σ ad K i k) : os_at D cA σ' ad H1 K i := by
  unfold os_at
  rw [hs]
  show H1[ad K i]? = some (arrV (cA t) (os_l σ' K i) (os_fv σ' ad K i))
  rw [e1, arrV_store, hl]
  congr 2
  funext k
  by_cases hk : k = j
  · subst hk
    simp [updV, h1]
  · simp [updV, hk, h2 k hk]
theorem os_iast (hx : p.tables.exec = Jvm.exec) (hb : c.code = cc) {K i t t0 : Nat} {ix v : Int32} (hK : va_K D os_cl tys s) (hV : os_V D cA bs σ0 ad0 s σ ad H locs) (hs : os_sc K = .inr (t, none)) (hlg : os_lg K = false) (ht : tys[t0]? = some (cA t, .int)) (hi : i < os_n σ K) (hin : vp_in ix (os_l σ K i)) (hdg : decode cc pc = .ok (.iastore, 1))
    (kk : ∀ (H1 : Heap) (locs1 : List Loc), os_V D cA bs σ0 ad0 s (os_sg σ K ix.toNatClampNeg i v) ad H1 locs1 → W p l e R s m args below meth c H1 locs1 cells slots Q (F0 m (pc + 1) ls rest)) : W p l e R s m args below meth c H locs cells slots Q (F0 m pc ls (.int v :: .int ix :: .ref (ad K i) :: rest)) := by
  have htg : os_tg K ix.toNatClampNeg = none := by unfold os_tg; rw [hs]
  refine W.iast hx hb (os_arr hV.1 hs hi) ((hK.2 t0 _ ht).1 _ _) (fun q => by cases q) (by rw [arrV_size]; exact hin) rfl rfl hdg fun H1 e1 e2 e3 => ?_
  exact kk H1 _ (hV.sg hi (os_arrset (σ := σ) (σ' := os_sg σ K ix.toNatClampNeg i v) hs rfl e1 (os_fv_sgs htg hlg) (fun k hk => os_fv_sg hk)) e2 e3)
theorem os_zald (hx : p.tables.exec = Jvm.exec) (hb : c.code = cc) {K i t t0 : Nat} {ix : Int32} (hK : va_K D os_cl tys s) (hV : os_V D cA bs σ0 ad0 s σ ad H locs) (hs : os_sc K = .inr (t, none)) (hlg : os_lg K = false) (ht : tys[t0]? = some (cA t, .boolean)) (hi : i < os_n σ K) (hin : vp_in ix (os_l σ K i)) (hdg : decode cc pc = .ok (.baload, 1))
    (kk : W p l e R s m args below meth c H locs cells slots Q (F0 m (pc + 1) ls (.int (os_g σ K ix.toNatClampNeg i) :: rest))) : W p l e R s m args below meth c H locs cells slots Q (F0 m pc ls (.int ix :: .ref (ad K i) :: rest)) := by
  have hlt : ix.toNatClampNeg < os_l σ K i := Nat.not_le.mp fun q => hin (Or.inr q)
  have hfv : os_fv σ ad K i ix.toNatClampNeg = .int (os_g σ K ix.toNatClampNeg i) := by unfold os_fv os_tg; rw [hs]; simp [hlg]
  exact W.zald (v := .int (os_g σ K ix.toNatClampNeg i)) hx hb (os_arr hV.1 hs hi) ((hK.2 t0 _ ht).1 _ _) (fun q => by cases q) (by rw [arrV_size]; exact hin) (by rw [arrV_read _ _ hlt, hfv]) rfl rfl hdg kk
theorem os_zast (hx : p.tables.exec = Jvm.exec) (hb : c.code = cc) {K i t t0 : Nat} {ix v : Int32} (hK : va_K D os_cl tys s) (hV : os_V D cA bs σ0 ad0 s σ ad H locs) (hs : os_sc K = .inr (t, none)) (hlg : os_lg K = false) (ht : tys[t0]? = some (cA t, .boolean)) (hi : i < os_n σ K) (hin : vp_in ix (os_l σ K i)) (hv : narrow .boolean (.int v) = .int v) (hdg : decode cc pc = .ok (.bastore, 1))
    (kk : ∀ (H1 : Heap) (locs1 : List Loc), os_V D cA bs σ0 ad0 s (os_sg σ K ix.toNatClampNeg i v) ad H1 locs1 → W p l e R s m args below meth c H1 locs1 cells slots Q (F0 m (pc + 1) ls rest)) : W p l e R s m args below meth c H locs cells slots Q (F0 m pc ls (.int v :: .int ix :: .ref (ad K i) :: rest)) := by
  have htg : os_tg K ix.toNatClampNeg = none := by unfold os_tg; rw [hs]
  refine W.zast hx hb (os_arr hV.1 hs hi) ((hK.2 t0 _ ht).1 _ _) (fun q => by cases q) (by rw [arrV_size]; exact hin) rfl rfl hdg fun H1 e1 e2 e3 => ?_
  rw [hv] at e1
  exact kk H1 _ (hV.sg hi (os_arrset (σ := σ) (σ' := os_sg σ K ix.toNatClampNeg i v) hs rfl e1 (os_fv_sgs htg hlg) (fun k hk => os_fv_sg hk)) e2 e3)
theorem os_lald (hx : p.tables.exec = Jvm.exec) (hb : c.code = cc) {K i t t0 : Nat} {ix : Int32} (hK : va_K D os_cl tys s) (hV : os_V D cA bs σ0 ad0 s σ ad H locs) (hs : os_sc K = .inr (t, none)) (hlg : os_lg K = true) (ht : tys[t0]? = some (cA t, .long)) (hi : i < os_n σ K) (hin : vp_in ix (os_l σ K i)) (hdg : decode cc pc = .ok (.laload, 1))
    (kk : W p l e R s m args below meth c H locs cells slots Q (F0 m (pc + 1) ls (.long (os_g σ K ix.toNatClampNeg i).toInt64 :: rest))) : W p l e R s m args below meth c H locs cells slots Q (F0 m pc ls (.int ix :: .ref (ad K i) :: rest)) := by
  have hlt : ix.toNatClampNeg < os_l σ K i := Nat.not_le.mp fun q => hin (Or.inr q)
  have hfv : os_fv σ ad K i ix.toNatClampNeg = .long (os_g σ K ix.toNatClampNeg i).toInt64 := by unfold os_fv os_tg; rw [hs]; simp [hlg]
  exact W.lald (v := .long (os_g σ K ix.toNatClampNeg i).toInt64) hx hb (os_arr hV.1 hs hi) ((hK.2 t0 _ ht).1 _ _) (fun q => by cases q) (by rw [arrV_size]; exact hin) (by rw [arrV_read _ _ hlt, hfv]) rfl rfl hdg kk
theorem os_last (hx : p.tables.exec = Jvm.exec) (hb : c.code = cc) {K i t t0 : Nat} {ix v : Int32} (hK : va_K D os_cl tys s) (hV : os_V D cA bs σ0 ad0 s σ ad H locs) (hs : os_sc K = .inr (t, none)) (hlg : os_lg K = true) (ht : tys[t0]? = some (cA t, .long)) (hi : i < os_n σ K) (hin : vp_in ix (os_l σ K i)) (hdg : decode cc pc = .ok (.lastore, 1))
    (kk : ∀ (H1 : Heap) (locs1 : List Loc), os_V D cA bs σ0 ad0 s (os_sg σ K ix.toNatClampNeg i v) ad H1 locs1 → W p l e R s m args below meth c H1 locs1 cells slots Q (F0 m (pc + 1) ls rest)) : W p l e R s m args below meth c H locs cells slots Q (F0 m pc ls (.long v.toInt64 :: .int ix :: .ref (ad K i) :: rest)) := by
  have htg : os_tg K ix.toNatClampNeg = none := by unfold os_tg; rw [hs]
  refine W.last hx hb (os_arr hV.1 hs hi) ((hK.2 t0 _ ht).1 _ _) (fun q => by cases q) (by rw [arrV_size]; exact hin) rfl rfl hdg fun H1 e1 e2 e3 => ?_
  exact kk H1 _ (hV.sg hi (os_arrset (σ := σ) (σ' := os_sg σ K ix.toNatClampNeg i v) hs rfl e1 (os_fv_sgl htg hlg) (fun k hk => os_fv_sg hk)) e2 e3)
theorem os_aastN (hx : p.tables.exec = Jvm.exec) (hb : c.code = cc) {K i t t0 kt : Nat} {C : String} {ix : Int32} (hK : va_K D os_cl tys s) (hV : os_V D cA bs σ0 ad0 s σ ad H locs) (hs : os_sc K = .inr (t, some kt)) (ht : tys[t0]? = some (cA t, .object C)) (hi : i < os_n σ K) (hin : vp_in ix (os_l σ K i)) (hdg : decode cc pc = .ok (.aastore, 1))
    (kk : ∀ (H1 : Heap) (locs1 : List Loc), os_V D cA bs σ0 ad0 s (os_sr σ K ix.toNatClampNeg i none) ad H1 locs1 → W p l e R s m args below meth c H1 locs1 cells slots Q (F0 m (pc + 1) ls rest)) : W p l e R s m args below meth c H locs cells slots Q (F0 m pc ls (.null :: .int ix :: .ref (ad K i) :: rest)) := by
  have htg : os_tg K ix.toNatClampNeg = some kt := by unfold os_tg; rw [hs]
  refine va_WaastN (C := C) hx hb (os_arr hV.1 hs hi) ((hK.2 t0 _ ht).1 _ _) (fun q => by cases q) (by rw [arrV_size]; exact hin) rfl rfl hdg fun H1 e1 e2 e3 => ?_
  exact kk H1 _ (hV.sr hi (fun k t _ h => by cases h) (os_arrset (σ := σ) (σ' := os_sr σ K ix.toNatClampNeg i none) hs rfl e1 ((os_fv_srs htg).trans rfl) (fun k hk => os_fv_sr hk)) e2 e3)
theorem os_aast (hx : p.tables.exec = Jvm.exec) (hb : c.code = cc) {K i t t0 kt ck x : Nat} {r : vw_C} {fds : List (Option Nat)} {ix : Int32} (hK : va_K D os_cl tys s) (hV : os_V D cA bs σ0 ad0 s σ ad H locs) (hs : os_sc K = .inr (t, some kt)) (hsk : os_sc kt = .inl (ck, fds)) (hc : os_cl[ck]? = some r) (ht : tys[t0]? = some (cA t, .object r.1)) (hi : i < os_n σ K) (hxt : x < os_n σ kt) (hin : vp_in ix (os_l σ K i)) (hdg : decode cc pc = .ok (.aastore, 1))
    (kk : ∀ (H1 : Heap) (locs1 : List Loc), os_V D cA bs σ0 ad0 s (os_sr σ K ix.toNatClampNeg i (some x)) ad H1 locs1 → W p l e R s m args below meth c H1 locs1 cells slots Q (F0 m (pc + 1) ls rest)) : W p l e R s m args below meth c H locs cells slots Q (F0 m pc ls (.ref (ad kt x) :: .int ix :: .ref (ad K i) :: rest)) := by
  have htg : os_tg K ix.toNatClampNeg = some kt := by unfold os_tg; rw [hs]
  have hlt : ix.toNatClampNeg < os_l σ K i := Nat.not_le.mp fun q => hin (Or.inr q)
  have h0 : ¬ ix < 0 := fun q => hin (Or.inl q)
  have hv := hV.1.1 kt x hxt
  unfold os_at at hv
  rw [hsk] at hv
  obtain ⟨r', hr', cellV, g1, g2, g3, -⟩ := hv
  have hcls := (hK.1 ck r hc).2
  obtain ⟨kA, comp, k1, k2, k3, -⟩ := (hK.2 t0 _ ht).2
  have hcomp : comp = D.1 ck := Option.some.inj (k3.symm.trans hcls.1)
  subst hcomp
  obtain ⟨kC, hkC, -⟩ := hcls.2
  refine W.aast hx hb (os_arr hV.1 hs hi) (fun q h => by cases h) (fun h => by cases h) k1 k2 rfl hkC ⟨h0, by rw [arrV_size]; exact hlt⟩ g1 (fun q h => by rw [g3] at h; cases h) (by rw [g2]; exact hkC) (by rw [g2]; exact va_assign hcls) rfl rfl hdg fun H1 e1 e2 e3 => ?_
  exact kk H1 _ (hV.sr hi (fun k t h1 h2 => by rw [htg] at h1; cases h1; cases h2; exact hxt) (os_arrset (σ := σ) (σ' := os_sr σ K ix.toNatClampNeg i (some x)) hs rfl e1 ((os_fv_srs htg).trans rfl) (fun k hk => os_fv_sr hk)) e2 e3)
end OSR
end
section
/-! CONTRACTS OVER THE STORE: a method returns or throws -/
/-- how a method ended: with a value or nothing, or with an exception of a class -/
abbrev os_O : Type := Option Value ⊕ String
def os_res (st : State) (o : Outcome) (t : State) (r : os_O) : Prop := match r with
  | .inl v => o = .returned v
  | .inr E => ∃ (q : Addr) (ce : Cell), o = .threw q ∧ t.heap[q]? = some ce ∧ ce.vm = .none ∧ st.vm.findClass E = some ce.cls
def os_Q (D : va_G) (cA : Nat → ClassId) (bs : Nat) (σ : os_S) (ad : Nat → Nat → Nat) (rm : Room) (Post : os_O → os_S → (Nat → Nat → Nat) → Prop) (st : State) (o : Outcome) (t : State) : Prop :=
  ∃ (r : os_O) (σ' : os_S) (ad' : Nat → Nat → Nat), os_res st o t r ∧ Post r σ' ad' ∧ os_W D cA bs σ' ad' t.heap ∧ os_ext σ ad σ' ad' st.heap.size ∧ st.WarmedH t.vm ∧
    ∃ L, st.sameButNew ({ t with vm := st.vm } : State) L rm.cells rm.slots ∧ ∀ q ∈ L, os_A σ ad st.heap.size q.base
def os_Met (l : Launch) (y : MethodName) (b : ByteArray) (nL : Nat) (ret : Option FieldType) (rm : Room) (D : va_G) (cA : Nat → ClassId) (bs : Nat) (av : List Value) (σ : os_S) (ad : Nat → Nat → Nat) (Post : os_O → os_S → (Nat → Nat → Nat) → Prop) : Prop :=
  MetFree l y (headSpec [Cond.code y b nL ret] rm) (fun args U => args = av.toArray ∧ os_EV D cA bs U ∧ os_W D cA bs σ ad U.heap) (fun _ _ _ _ _ => True) (fun _ st o t => os_Q D cA bs σ ad rm Post st o t)
def os_End (D : va_G) (cA : Nat → ClassId) (bs : Nat) (below : List Frame) (s : State) (σ0 : os_S) (ad0 : Nat → Nat → Nat) (rm : Room) (Post : os_O → os_S → (Nat → Nat → Nat) → Prop) : State → Prop := fun t =>
  ∃ o, t.status = .running ∧ Ended t below o ∧ os_Q D cA bs σ0 ad0 rm Post s o t
theorem os_frame {s U : State} {locs : List Loc} {k n : Nat} (h : s.sameButNew ({ U with vm := s.vm } : State) locs k n) : s.heap.size ≤ U.heap.size ∧ ∀ q : Nat, q < s.heap.size → (∀ z ∈ locs, z.base ≠ q) → U.heap[q]? = s.heap[q]? := by
  obtain ⟨-, h2, -, -, -, h6⟩ := h
  refine ⟨h2, fun q hq hz => ?_⟩
  obtain ⟨c9, e1, e2, e3, e4⟩ := h6 q _ (Array.getElem?_eq_getElem hq)
  have hs : c9.slots = (s.heap[q]).slots := Array.ext_getElem? fun i => e4 i fun hm => hz _ hm rfl
  have h9 : c9 = s.heap[q] := by
    rw [hs] at e2
    exact e2
  have e5 : U.heap[q]? = some c9 := e1
  rw [e5, h9, Array.getElem?_eq_getElem hq]
theorem os_L.moved {C n d : String} {bs : Nat} {u U : State} (hvm : u.vm.Alike U.vm) (hh : ∀ q : Nat, q < bs → U.heap[q]? = u.heap[q]?) (h : os_L C n d bs u) : os_L C n d bs U := by
  obtain ⟨c, k, i, f, a, cell, v, h1, h2, h3, h4, h5, h6, h7, h8, h9, h10, h11, h12⟩ := h
  obtain ⟨k', hi', he⟩ := State.fieldFound?_setVm hvm h2
  exact ⟨c, k', i, f, a, cell, v, by rw [hvm.findClass]; exact h1, hi', h3, by rw [he]; exact h4, by rw [hh a h10]; exact h5, h6, h7, h8, by rw [he]; exact h9, h10, h11, h12⟩
theorem os_L.lays {C n d : String} {bs : Nat} {s : State} {args : Array Value} (h : os_L C n d bs s) : (Cond.laysStatic C n d).before args s = true := by
  obtain ⟨c, k, i, f, a, cell, v, h1, h2, h3, h4, h5, h6, h7, h8, h9, -⟩ := h
  show (Cond.laysStatic C n d).holds args s none s [] = true
  exact Cond.laysStatic_of h1 h2 h3 h4 h5 h6 h7 h8 h9
theorem os_L.isRef {C n d : String} {bs : Nat} {s : State} {args : Array Value} (h : os_L C n d bs s) : (Cond.isRef (.static C n d)).before args s = true := by
  obtain ⟨c, k, i, f, a, cell, v, h1, h2, h3, h4, h5, h6, h7, h8, h9, h10, h11, h12⟩ := h
  have he : (Term.static C n d).eval args s none [] s = some v := by
    simp [Term.eval, State.fieldNamed?, h2, h3, h4, h5, h6, h11]
  simp only [Cond.before, Cond.holds, Cond.value, he]
  cases v <;> simp_all [Value.isRef]
theorem os_okw {w : Cond} (h : os_ok w = true) {a a' : Array Value} {s U : State} (hW : s.WarmedH U.vm) (hb : w.before a s = true) : w.before a' U = true := by
  unfold os_ok at h
  rw [Bool.or_eq_true] at h
  rcases h with h | h
  · exact word_at hW (good_of_word h) hb
  · cases w with
    | fieldLinkNest x i b n d z => exact va_Nw.use rfl (va_Nw.warmF hW (va_Nw.of rfl hb))
    | methodLinkNest x i b z => exact va_Nw.use rfl (va_Nw.warmM hW (va_Nw.of rfl hb))
    | castable x y => exact va_Nw.use rfl (va_Nw.warmC hW (va_Nw.of rfl hb))
    | declares x => exact va_Nw.use rfl (va_Nw.warmD hW (va_Nw.of rfl hb))
    | arrayOver t =>
      cases t with
      | object C => exact va_AO.use (va_AO.moved hW.alike (va_AO.of hb))
      | _ => simp at h
    | _ => simp at h
theorem os_EV.moved {D : va_G} {cA : Nat → ClassId} {bs : Nat} {u U : State} (h : os_EV D cA bs u) (hW : u.WarmedH U.vm) (hz : u.heap.size ≤ U.heap.size) (hh : ∀ q : Nat, q < bs → U.heap[q]? = u.heap[q]?) : os_EV D cA bs U := by
  obtain ⟨h1, h2, h3, h4, h5, h6⟩ := h
  refine ⟨fun w hw => os_okw (os_tb_ok w hw) hW (h1 w hw), va_K.moved hW.alike h2, Nat.le_trans h3 hz, h4.moved hW.alike hh, h5.moved hW.alike hh, fun q hq => ?_⟩
  obtain ⟨a, ha⟩ := h6 q hq
  exact ⟨a, vk_R.warm hW ha⟩
theorem os_EV.hts {D : va_G} {cA : Nat → ClassId} {bs : Nat} {u : State} (h : os_EV D cA bs u) {args : Array Value} : ∀ w ∈ os_tb, w.before args u = true := fun w hw => os_okw (os_tb_ok w hw) (State.WarmedH.refl u) (h.1 w hw)
theorem os_V.rf {D : va_G} {cA : Nat → ClassId} {bs : Nat} {s : State} {σ : os_S} {ad : Nat → Nat → Nat} (h : os_W D cA bs σ ad s.heap) : os_V D cA bs σ ad s σ ad s.heap [] := ⟨h, os_ext.rf, va_S.rf⟩
/-- the cells below bs stay -/
theorem os_V.low {D : va_G} {cA : Nat → ClassId} {bs : Nat} {s : State} {σ σ0 : os_S} {ad ad0 : Nat → Nat → Nat} {H : Heap} {locs : List Loc} (hV : os_V D cA bs σ0 ad0 s σ ad H locs) (hb : bs ≤ s.heap.size) : ∀ q : Nat, q < bs → H[q]? = s.heap[q]? := by
  intro q hq
  refine hV.2.2.2.1 q (Nat.lt_of_lt_of_le hq hb) (fun hA => ?_)
  rcases hA with ⟨K, i, hi, rfl⟩ | hA
  · have h1 := hV.2.1.2.1 K i hi
    have h2 := hV.1.2.2.2 K i (Nat.lt_of_lt_of_le hi (hV.2.1.1 K))
    omega
  · omega
section OSB
variable {l : Launch}
theorem os_ofW {y : MethodName} {rm : Room} {D : va_G} {cA : Nat → ClassId} {bs : Nat} {av : List Value} {σ : os_S} {ad : Nat → Nat → Nat} {Post : os_O → os_S → (Nat → Nat → Nat) → Prop} {cc : ByteArray} {maxL : Nat} {ret : Option FieldType}
    (hy : plainName y.cls = true)
    (body : ∀ p e s m below meth c, p.tables.exec = Jvm.exec → c.code = cc → meth.sig.returnType = ret → c.maxLocals = maxL → s.vm.findClass y.cls = some m.cls → meth.locks = false → meth.name = y.name → (∀ x ∈ c.exceptionTable.toList, False) → os_EV D cA bs s → os_V D cA bs σ ad s σ ad s.heap [] →
      W p l e rm s m av.toArray below meth c s.heap [] 0 0 (os_End D cA bs below s σ ad rm Post) (entryFrame m av.toArray maxL)) : os_Met l y cc maxL ret rm D cA bs av σ ad Post := by
  refine MetFree.of_bodyS (code := cc) (maxLocals := maxL) (ret := ret) hy ?_ ?_
  · intro args s m h hn
    obtain ⟨meth, c, h1, h2, h3, h4, h5, h6, -, -⟩ := Cond.code_spec hn (atoms_spec (ws := [Cond.code y cc maxL ret]) h _ List.mem_cons_self)
    exact ⟨meth, c, h1, h2, h3, h4, h5, h6⟩
  · intro p e s m args below meth c s₁ B hml hP _
    obtain ⟨rfl, hE, hW⟩ := hP
    have hh0 : s₁.heap = s.heap := by rw [B.state]; rfl
    have ht : ∀ x ∈ c.exceptionTable.toList, False := by
      obtain ⟨meth9, c9, h1, h2, -, -, -, -, h7, -⟩ := Cond.code_spec B.named (atoms_spec (ws := [Cond.code y cc maxL ret]) B.pre _ List.mem_cons_self)
      cases Option.some.inj (h1.symm.trans B.method)
      cases Option.some.inj (h2.symm.trans (Stand.of_body B).code)
      intro x hx
      rw [Array.isEmpty_iff.mp h7] at hx
      cases hx
    obtain ⟨t, a1, o, b1, b2, b3⟩ := body p e s m below meth c B.exec B.bytes B.returns hml (findClass_of_methodNamed B.named) B.notSynchronized (name_of_methodNamed B.named B.method).1 ht hE (os_V.rf hW) s₁ hh0 (Stand.of_body B)
    exact ⟨t, o, a1, b1, b2, b3⟩
end OSB
section OSC
variable {p : Program} {l : Launch} {e : Env} {R : Room} {s : State} {m : MethodId} {args : Array Value} {below : List Frame} {meth : Method} {c : Code} {H : Heap} {locs : List Loc} {cells slots : Nat} {Q : State → Prop}
variable {cc : ByteArray} {pc : Nat} {ls : Array Slot} {rest st0 : List Value} {D : va_G} {cA : Nat → ClassId} {bs : Nat} {σ σ0 : os_S} {ad ad0 : Nat → Nat → Nat}
variable {rm : Room} {Post : os_O → os_S → (Nat → Nat → Nat) → Prop}
/-- the ends -/
theorem os_fin {v : Option Value} {g : JFrame} (hV : os_V D cA bs σ0 ad0 s σ ad H locs) (hp : Post (.inl v) σ ad) (hc : cells ≤ rm.cells) (hs : slots ≤ rm.slots)
    (k : W p l e R s m args below meth c H locs cells slots (MQ below (fun _ st o t => o = .returned v ∧ t.heap = H ∧ st.WarmedH t.vm) args s cells slots (os_A σ0 ad0 s.heap.size)) g) : W p l e R s m args below meth c H locs cells slots (os_End D cA bs below s σ0 ad0 rm Post) g := by
  intro T hT X
  obtain ⟨t, a1, o, b1, b2, ⟨rfl, b4, b5⟩, L, b6, b7⟩ := k T hT X
  exact ⟨t, a1, _, b1, b2, .inl v, σ, ad, rfl, hp, by rw [b4]; exact hV.1, hV.2.1, b5, L, b6.2.2.mono hc hs, b7⟩
theorem os_iret {v : Int32} (hx : p.tables.exec = Jvm.exec) (hb : c.code = cc) (hr : meth.sig.returnType = some .int) (hlocks : meth.locks = false) (hV : os_V D cA bs σ0 ad0 s σ ad H locs) (hc : cells ≤ rm.cells) (hs : slots ≤ rm.slots) (hdg : decode cc pc = .ok (.ireturn, 1)) (hp : Post (.inl (some (.int v))) σ ad) : W p l e R s m args below meth c H locs cells slots (os_End D cA bs below s σ0 ad0 rm Post) (F0 m pc ls [.int v]) :=
  os_fin hV hp hc hs (W.iret hx hb hr (fun t h1 h2 => ⟨rfl, h1, h2⟩) hV.2.2.2.2 hdg hlocks)
theorem os_zret {v : Int32} {ty : FieldType} (hx : p.tables.exec = Jvm.exec) (hb : c.code = cc) (hr : meth.sig.returnType = some ty) (hn : narrow ty (.int v) = .int v) (hlocks : meth.locks = false) (hV : os_V D cA bs σ0 ad0 s σ ad H locs) (hc : cells ≤ rm.cells) (hs : slots ≤ rm.slots) (hdg : decode cc pc = .ok (.ireturn, 1)) (hp : Post (.inl (some (.int v))) σ ad) : W p l e R s m args below meth c H locs cells slots (os_End D cA bs below s σ0 ad0 rm Post) (F0 m pc ls [.int v]) :=
  os_fin hV hp hc hs (W.zret hx hb hr hn (fun t h1 h2 => ⟨rfl, h1, h2⟩) hV.2.2.2.2 hdg hlocks)
theorem os_vret (hx : p.tables.exec = Jvm.exec) (hb : c.code = cc) (hr : meth.sig.returnType = none) (hlocks : meth.locks = false) (hV : os_V D cA bs σ0 ad0 s σ ad H locs) (hc : cells ≤ rm.cells) (hs : slots ≤ rm.slots) (hdg : decode cc pc = .ok (.return_, 1)) (hp : Post (.inl none) σ ad) : W p l e R s m args below meth c H locs cells slots (os_End D cA bs below s σ0 ad0 rm Post) (F0 m pc ls []) :=
  os_fin hV hp hc hs (W.vret hx hb hr (fun t h1 h2 => ⟨rfl, h1, h2⟩) hV.2.2.2.2 hdg hlocks)
theorem os_aret {v : Value} {rt : FieldType} (hx : p.tables.exec = Jvm.exec) (hb : c.code = cc) (hr : meth.sig.returnType = some rt) (hrt : (∃ n, rt = .object n) ∨ ∃ t, rt = .array t) (hv : v = .null ∨ ∃ a, v = .ref a) (hlocks : meth.locks = false) (hV : os_V D cA bs σ0 ad0 s σ ad H locs) (hc : cells ≤ rm.cells) (hs : slots ≤ rm.slots) (hdg : decode cc pc = .ok (.areturn, 1)) (hp : Post (.inl (some v)) σ ad) : W p l e R s m args below meth c H locs cells slots (os_End D cA bs below s σ0 ad0 rm Post) (F0 m pc ls [v]) :=
  os_fin hV hp hc hs (W.aret hx hb hr hrt hv (fun t h1 h2 => ⟨rfl, h1, h2⟩) hV.2.2.2.2 hdg hlocks)
end OSC
end
section
/-! CALLS: by contract, with both ends; exceptions that leave, that are caught, that are thrown here -/
section OSD
variable {p : Program} {l : Launch} {e : Env} {R : Room} {s : State} {m : MethodId} {args : Array Value} {below : List Frame} {meth : Method} {c : Code} {H : Heap} {locs : List Loc} {cells slots : Nat} {Q : State → Prop}
variable {cc : ByteArray} {pc : Nat} {ls : Array Slot} {rest st0 : List Value} {D : va_G} {cA : Nat → ClassId} {bs : Nat} {σ σ0 : os_S} {ad ad0 : Nat → Nat → Nat}
variable {rm : Room} {Post : os_O → os_S → (Nat → Nat → Nat) → Prop}
/-- an exception q stands above the frame g -/
def os_WX (p : Program) (l : Launch) (e : Env) (R : Room) (s : State) (m : MethodId) (args : Array Value) (below : List Frame) (meth : Method) (c : Code) (H : Heap) (locs : List Loc) (cells slots : Nat) (Q : State → Prop) (g : JFrame) (q : Addr) : Prop :=
  ∀ T : State, T.heap = H → Stand p l e R s m args below meth c T locs cells slots → ∃ t, Steps p.tables e below ((T.setTop g).pushFrame (.throwing q)) t ∧ Q t
/-- an instruction that invokes y with av -/
def os_In (p : Program) (l : Launch) (e : Env) (R : Room) (s : State) (m : MethodId) (args : Array Value) (below : List Frame) (meth : Method) (c : Code) (H : Heap) (locs : List Loc) (cells slots : Nat) (g : JFrame) (rest : List Value) (y : MethodName) (av : List Value) : Prop :=
  ∀ T : State, T.heap = H → Stand p l e R s m args below meth c T locs cells slots → ∃ (vm₁ : Vm) (mk : MethodId) (ig : Instr), Stand p l e R s m args below meth c (T.setVm vm₁) locs cells slots ∧ (T.setVm vm₁).methodNamed? y = some mk ∧ decode c.code g.pc = .ok (ig, 3) ∧
    ∀ target, Steps p.tables e below (doInvoke e ((T.setVm vm₁).setTop { g with stack := rest }) [] mk av.toArray).1 target → Steps p.tables e below (T.setTop g) target
theorem os_call {y : MethodName} {b : ByteArray} {nL' : Nat} {ret' : Option FieldType} {rm' : Room} {av : List Value} {Post' : os_O → os_S → (Nat → Nat → Nat) → Prop} (hM : os_Met l y b nL' ret' rm' D cA bs av σ ad Post') (hE : os_EV D cA bs s) (hV : os_V D cA bs σ0 ad0 s σ ad H locs)
    (hcode : Cond.code y b nL' ret' ∈ os_tb) (hini : Cond.initialized y.cls ∈ os_tb) (hIn : os_In p l e R s m args below meth c H locs cells slots (F0 m pc ls st0) rest y av)
    (hsize : ls.size = c.maxLocals) (hst : (rest.map fun v => v.category).sum ≤ 8) (hf : rm'.frames + 1 ≤ R.frames) (hlo : 8 + (nL' + 11) + rm'.locals ≤ R.locals) (hcc : cells + rm'.cells ≤ R.cells) (hss : slots + rm'.slots ≤ R.slots)
    (kr : ∀ (v : Option Value) (σ' : os_S) (ad' : Nat → Nat → Nat) (H1 : Heap) (locs1 : List Loc), Post' (.inl v) σ' ad' → os_ext σ ad σ' ad' H.size → os_V D cA bs σ0 ad0 s σ' ad' H1 locs1 → W p l e R s m args below meth c H1 locs1 (cells + rm'.cells) (slots + rm'.slots) Q (F0 m (pc + 3) ls (v.toList ++ rest)))
    (kx : ∀ (E : String) (q : Addr) (ce : Cell) (σ' : os_S) (ad' : Nat → Nat → Nat) (H1 : Heap) (locs1 : List Loc), Post' (.inr E) σ' ad' → os_ext σ ad σ' ad' H.size → os_V D cA bs σ0 ad0 s σ' ad' H1 locs1 → H1[q]? = some ce → ce.vm = .none → s.vm.findClass E = some ce.cls →
      os_WX p l e R s m args below meth c H1 locs1 (cells + rm'.cells) (slots + rm'.slots) Q (F0 m pc ls rest) q) : W p l e R s m args below meth c H locs cells slots Q (F0 m pc ls st0) := by
  intro T hT X
  obtain ⟨vm₁, mk, ig, X₁, hn, hdg, hstep⟩ := hIn T hT X
  generalize hU : T.setVm vm₁ = U at X₁ hn hstep
  have hUh : U.heap = H := by rw [← hU]; exact hT
  have hstep : ∀ target, Steps p.tables e below (doInvoke e (U.setTop (F0 m pc ls rest)) [] mk av.toArray).1 target → Steps p.tables e below (T.setTop (F0 m pc ls st0)) target := hstep
  obtain ⟨g, hgd⟩ : ∃ z, z = F0 m pc ls rest := ⟨_, rfl⟩
  have hgm : g.method = m := by rw [hgd]
  have hgl : g.locals.size = c.maxLocals := by rw [hgd]; exact hsize
  have hgp : g.pc = pc := by rw [hgd]
  have hgs : 2 * g.monitorRoom + (g.stack.map fun v => v.category).sum ≤ 8 := by
    rw [hgd]
    show 2 * 0 + (rest.map fun v => v.category).sum ≤ 8
    omega
  rw [← hgd] at hstep
  have hEU : os_EV D cA bs U := hE.moved X₁.warmed (by rw [hUh]; exact hV.2.2.1) (fun q hq => by rw [hUh]; exact hV.low hE.2.2.1 q hq)
  have h1 : (headSpec [Cond.code y b nL' ret'] rm').pre.before av.toArray U = true := atoms_intro fun w hw => by
    rw [List.mem_singleton] at hw
    subst hw
    exact hEU.hts _ hcode
  have h2 : (Cond.code y b nL' ret').before av.toArray U = true := hEU.hts _ hcode
  have h3 : (Cond.initialized y.cls).before av.toArray U = true := hEU.hts _ hini
  obtain ⟨methY, cY, hmY, hcY, -, hlY, -, -, -, -⟩ := Cond.code_spec hn h2
  obtain ⟨kY, hkY, -⟩ := className_of_methodNamed hn
  have hinitY : kY.init = .initialized := Cond.initialized_spec (findClass_of_methodNamed hn) hkY h3
  have h : At U g.method c below := by rw [hgm]; exact X₁.here
  have hdg' : decode c.code g.pc = .ok (ig, 3) := by rw [hgp]; exact hdg
  have happ : (headSpec [Cond.code y b nL' ret'] rm').appliesLoose y e.platform (U.calling g mk av.toArray) = true :=
    Spec.appliesLoose_calling (g := g) h hdg' hn hkY hinitY
      (X₁.room_calling (g := g) (R' := (headSpec [Cond.code y b nL' ret'] rm').room) hgl hmY hcY hf (by rw [hlY]; show _ + rm'.locals ≤ R.locals; omega) hcc hss) h1
  obtain ⟨mid, hmid⟩ := h.above
  have hfr : (U.setTop g).frames = (.java g :: mid) ++ below := by rw [State.frames_setTop' g h.top, hmid]; rfl
  have hEc : os_EV D cA bs (U.calling g mk av.toArray) := hEU.moved (U := U.calling g mk av.toArray) (State.WarmedH.refl U) (Nat.le_refl _) (fun _ _ => rfl)
  have hWc : os_W D cA bs σ ad (U.calling g mk av.toArray).heap := by
    show os_W D cA bs σ ad U.heap
    rw [hUh]; exact hV.1
  obtain ⟨o, s₂, hsteps, -, hend, hq⟩ := Steps.callFree hM p X₁.admits X₁.cas X₁.clock (acts := []) hfr happ ⟨rfl, hEc, hWc⟩ trivial
  have hq' : os_Q D cA bs σ ad rm' Post' (U.calling g mk av.toArray) o s₂ := hq
  rw [State.frames_setTop' g h.top] at hend
  obtain ⟨g₀, hg0⟩ := Option.isSome_iff_exists.mp h.top
  obtain ⟨r, hr⟩ := State.topJava?_eq_some.mp hg0
  have hr' : (({ U with heap := s₂.heap, slotsUsed := s₂.slotsUsed } : State).setVm s₂.vm).frames = .java g₀ :: r := hr
  obtain ⟨ro, σ', ad', hres, hpost, hW', hext, hW₂, L, hsm, hL⟩ := hq'
  have hext' : os_ext σ ad σ' ad' H.size := by rw [← hUh]; exact hext
  have hWs : U.WarmedH s₂.vm := hW₂
  obtain ⟨fr1, fr2⟩ := os_frame hsm
  have fr1 : U.heap.size ≤ s₂.heap.size := fr1
  have fr2 : ∀ q : Nat, q < U.heap.size → (∀ z ∈ L, z.base ≠ q) → s₂.heap[q]? = U.heap[q]? := fr2
  obtain ⟨e2, q2, q3, q4, q5, q6⟩ := id hsm
  have e3 : s₂ = ({ (U.calling g mk av.toArray).setFrames s₂.frames with heap := s₂.heap, slotsUsed := s₂.slotsUsed } : State).setVm s₂.vm := by
    have : s₂ = ({ s₂ with vm := (U.calling g mk av.toArray).vm } : State).setVm s₂.vm := rfl
    rw [e2] at this
    exact this
  have hsame : U.sameButNew ({ U with heap := s₂.heap, slotsUsed := s₂.slotsUsed } : State) L rm'.cells rm'.slots := by
    refine ⟨?_, q2, q3, q4, q5, q6⟩
    obtain ⟨t, ht, -⟩ := State.frames_cons hr
    show ({ U with heap := s₂.heap, slotsUsed := s₂.slotsUsed } : State) = { U.setFrames U.frames with heap := s₂.heap, slotsUsed := s₂.slotsUsed }
    rw [State.setFrames_self ht]
  have XB : Stand p l e R s m args below meth c (({ U with heap := s₂.heap, slotsUsed := s₂.slotsUsed } : State).setVm s₂.vm) (locs ++ L) (cells + rm'.cells) (slots + rm'.slots) :=
    ⟨X₁.admits, X₁.cas, X₁.clock, X₁.frames, X₁.room, X₁.hears, X₁.method, X₁.code, (X₁.here.setHeapUsed s₂.heap s₂.slotsUsed).setVm hWs.alike, X₁.tail, State.WarmedH.trans X₁.warmed hWs, X₁.limits, X₁.bytes, X₁.same.trans (hsame.setVm s.vm)⟩
  have hA1 : ∀ q, os_A σ ad U.heap.size q → os_A σ0 ad0 s.heap.size q := fun q hq => hV.2.1.A (by rw [hUh]; exact hV.2.2.1) hq
  have hV' : os_V D cA bs σ0 ad0 s σ' ad' s₂.heap (locs ++ L) := by
    refine ⟨hW', hV.2.1.trans hext' hV.2.2.1, Nat.le_trans hV.2.2.1 (by rw [← hUh]; exact fr1), fun q h1 h2 => ?_, fun q hq => ?_⟩
    · rw [fr2 q (by rw [hUh]; exact Nat.lt_of_lt_of_le h1 hV.2.2.1) (fun z hz hzq => h2 (by rw [← hzq]; exact hA1 _ (hL z hz))), hUh]
      exact hV.2.2.2.1 q h1 h2
    · rcases List.mem_append.mp hq with h | h
      · exact hV.2.2.2.2 q h
      · exact hA1 _ (hL q h)
  cases ro with
  | inl v =>
    have ho : o = .returned v := hres
    subst ho
    obtain ⟨c₂, i₂, len₂, hc₂, hd₂, hf₂⟩ := hend
    have hccq : c₂ = c := by
      have h1 : s₂.code? g.method = U.code? g.method := by
        rw [State.code?_eq, State.code?_eq, hWs.alike.method?]
      exact Option.some.inj (hc₂.symm.trans (h1.trans h.code))
    subst hccq
    have hlen : len₂ = 3 := by rw [hdg'] at hd₂; cases hd₂; rfl
    subst hlen
    have hs₂ : s₂ = (({ U with heap := s₂.heap, slotsUsed := s₂.slotsUsed } : State).setVm s₂.vm).setTop { g with pc := g.pc + 3, stack := v.toList ++ g.stack } := by
      refine e3.trans ?_
      rw [hf₂, State.calling_eq h.top, State.setFrames_setFrames, State.setTop_of_frames _ hr', hr]
      rfl
    obtain ⟨t2, a1, b1⟩ := kr v σ' ad' s₂.heap (locs ++ L) hpost hext' hV' (({ U with heap := s₂.heap, slotsUsed := s₂.slotsUsed } : State).setVm s₂.vm) rfl XB
    refine ⟨t2, hstep t2 ?_, b1⟩
    refine hsteps.trans ?_
    rw [hs₂]
    rw [hgd]
    exact a1
  | inr E =>
    obtain ⟨q, ce, ho, hce, hcv, hcl⟩ := hres
    subst ho
    have hf₂ : s₂.frames = .throwing q :: .java g :: U.frames.tail := hend
    have hs₂ : s₂ = ((({ U with heap := s₂.heap, slotsUsed := s₂.slotsUsed } : State).setVm s₂.vm).setTop g).pushFrame (.throwing q) := by
      refine e3.trans ?_
      rw [hf₂, State.calling_eq h.top, State.setFrames_setFrames, State.pushFrame, State.frames_setTop _ hr', State.setTop_of_frames _ hr', State.setFrames_setFrames, hr]
      rfl
    have hcl' : s.vm.findClass E = some ce.cls := by
      have h9 : U.vm.findClass E = some ce.cls := hcl
      rw [X₁.warmed.alike.findClass] at h9
      exact h9
    obtain ⟨t2, a1, b1⟩ := kx E q ce σ' ad' s₂.heap (locs ++ L) hpost hext' hV' hce hcv hcl' (({ U with heap := s₂.heap, slotsUsed := s₂.slotsUsed } : State).setVm s₂.vm) rfl XB
    refine ⟨t2, hstep t2 ?_, b1⟩
    refine hsteps.trans ?_
    rw [hs₂]
    rw [hgd]
    exact a1
/-- not caught here: it leaves -/
theorem os_out {E : String} {q : Addr} {ce : Cell} (hout : ∀ x ∈ c.exceptionTable.toList, False) (hlocks : meth.locks = false) (hV : os_V D cA bs σ0 ad0 s σ ad H locs) (hce : H[q]? = some ce) (hcv : ce.vm = .none) (hcl : s.vm.findClass E = some ce.cls) (hc : cells ≤ rm.cells) (hs : slots ≤ rm.slots) (hp : Post (.inr E) σ ad) :
    os_WX p l e R s m args below meth c H locs cells slots (os_End D cA bs below s σ0 ad0 rm Post) (F0 m pc ls rest) q := by
  intro T hT X
  obtain ⟨st1, hrun, hend, hW, hsm⟩ := X.leaveThrown q (g := F0 m pc ls rest) rfl rfl rfl (fun x hx => (hout x hx).elim) hlocks
  refine ⟨_, st1, .threw q, hrun, hend, .inr E, σ, ad, ⟨q, ce, rfl, ?_, hcv, hcl⟩, hp, ?_, hV.2.1, hW, locs, hsm.mono hc hs, hV.2.2.2.2⟩
  · show T.heap[q]? = some ce
    rw [hT]; exact hce
  · show os_W D cA bs σ ad T.heap
    rw [hT]; exact hV.1
/-- the six ways to invoke -/
theorem os_inV {own C : String} {index : Nat} {y : MethodName} {bytes : ByteArray} {maxL : Nat} {ret : Option FieldType} {b : Addr} {As : List Value} {n : Nat} (hx : p.tables.exec = Jvm.exec) (hb : c.code = cc) (hown : s.vm.findClass own = some m.cls)
    (hlink : (Cond.methodLink own index y).before args s = true) (hinst : (Cond.instanceMethod y).before args s = true) (hsel : (Cond.selects C y y).before args s = true) (hcode : (Cond.code y bytes maxL ret).before args s = true)
    (hy : y.cls ≠ "java/lang/invoke/MethodHandle" ∧ y.cls ≠ "java/lang/invoke/VarHandle" ∧ (parseMethodDescriptor y.desc).map (fun d => d.parameters.length) = some n) (hn : As.length = n)
    (hrecv : ∃ cellB : Cell, H[b]? = some cellB ∧ cellB.vm.isStatics = false ∧ s.vm.findClass C = some cellB.cls) (hst : st0 = As.reverse ++ .ref b :: rest) (hdg : decode cc pc = .ok (.invokevirtual index, 3)) :
    os_In p l e R s m args below meth c H locs cells slots (F0 m pc ls st0) rest y (.ref b :: As) := by
  intro T hT X
  obtain ⟨mk, methM, hnamed, hmethM, hstM, habM⟩ := Cond.instanceMethod_spec hinst
  obtain ⟨methM', cM, hmethM', -, -, -, -, -, -, hsigM⟩ := Cond.code_spec hnamed hcode
  cases hmethM.symm.trans hmethM'
  obtain ⟨cellB, hcB, hoB, hclB⟩ := hrecv
  obtain ⟨c2, r2, m2, q1, q2, q3, q4, kP, hkP, hkPi⟩ := Cond.selects_spec hsel
  cases hclB.symm.trans q1
  cases (State.methodFound?_of_named hnamed ⟨hy.1, hy.2.1⟩).symm.trans q2
  cases hnamed.symm.trans q3
  have hselP : selectMethod e.platform s.vm cellB.cls mk = .method mk := by rw [Launch.admits_selectMethod X.admits]; exact q4
  have hlen : As.length = methM.sig.parameters.length := by
    have h2 := hy.2.2
    rw [hsigM] at h2
    exact hn.trans (Option.some.inj h2).symm
  obtain ⟨vm₁, X₁, hstep₁⟩ := X.invokevirtual hx hown hlink hnamed hmethM hstM hkP hkPi ⟨hy.1, hy.2.1⟩ (a := b) (cell := cellB) (by rw [hT]; exact hcB)
    (fun z h => by rw [h] at hoB; cases hoB) hselP hmethM habM hkP hkPi (g := F0 m pc ls st0) rfl (argsL := As) (rest := rest) hlen hst (by rw [hb]; exact hdg)
  exact ⟨vm₁, mk, _, X₁, X₁.named hnamed, by rw [hb]; exact hdg, fun target h => hstep₁ _ fun acts => by rw [doInvoke_state]; exact h⟩
theorem os_inVN {own C host : String} {index : Nat} {y : MethodName} {bytes : ByteArray} {maxL : Nat} {ret : Option FieldType} {b : Addr} {As : List Value} {n : Nat} (hx : p.tables.exec = Jvm.exec) (hb : c.code = cc) (hown : s.vm.findClass own = some m.cls)
    (hlink : (Cond.methodLinkNest own index y host).before args s = true) (hinst : (Cond.instanceMethod y).before args s = true) (hsel : (Cond.selects C y y).before args s = true) (hcode : (Cond.code y bytes maxL ret).before args s = true)
    (hy : y.cls ≠ "java/lang/invoke/MethodHandle" ∧ y.cls ≠ "java/lang/invoke/VarHandle" ∧ (parseMethodDescriptor y.desc).map (fun d => d.parameters.length) = some n) (hn : As.length = n)
    (hrecv : ∃ cellB : Cell, H[b]? = some cellB ∧ cellB.vm.isStatics = false ∧ s.vm.findClass C = some cellB.cls) (hst : st0 = As.reverse ++ .ref b :: rest) (hdg : decode cc pc = .ok (.invokevirtual index, 3)) :
    os_In p l e R s m args below meth c H locs cells slots (F0 m pc ls st0) rest y (.ref b :: As) := by
  intro T hT X
  obtain ⟨mk, methM, hnamed, hmethM, hstM, habM⟩ := Cond.instanceMethod_spec hinst
  obtain ⟨methM', cM, hmethM', -, -, -, -, -, -, hsigM⟩ := Cond.code_spec hnamed hcode
  cases hmethM.symm.trans hmethM'
  obtain ⟨cellB, hcB, hoB, hclB⟩ := hrecv
  obtain ⟨c2, r2, m2, q1, q2, q3, q4, kP, hkP, hkPi⟩ := Cond.selects_spec hsel
  cases hclB.symm.trans q1
  cases (State.methodFound?_of_named hnamed ⟨hy.1, hy.2.1⟩).symm.trans q2
  cases hnamed.symm.trans q3
  have hselP : selectMethod e.platform s.vm cellB.cls mk = .method mk := by rw [Launch.admits_selectMethod X.admits]; exact q4
  have hlen : As.length = methM.sig.parameters.length := by
    have h2 := hy.2.2
    rw [hsigM] at h2
    exact hn.trans (Option.some.inj h2).symm
  obtain ⟨vm₁, X₁, hstep₁⟩ := X.invokevirtualNest hx hown hlink hnamed hmethM hstM hkP hkPi ⟨hy.1, hy.2.1⟩ (a := b) (cell := cellB) (by rw [hT]; exact hcB)
    (fun z h => by rw [h] at hoB; cases hoB) hselP hmethM habM hkP hkPi (g := F0 m pc ls st0) rfl (argsL := As) (rest := rest) hlen hst (by rw [hb]; exact hdg)
  exact ⟨vm₁, mk, _, X₁, X₁.named hnamed, by rw [hb]; exact hdg, fun target h => hstep₁ _ fun acts => by rw [doInvoke_state]; exact h⟩
theorem os_inS {own : String} {index : Nat} {y : MethodName} {bytes : ByteArray} {maxL : Nat} {ret : Option FieldType} {As : List Value} {n : Nat} (hx : p.tables.exec = Jvm.exec) (hb : c.code = cc) (hown : s.vm.findClass own = some m.cls)
    (hlink : (Cond.methodLink own index y).before args s = true) (hstat : (Cond.static y).before args s = true) (hinit : (Cond.initialized y.cls).before args s = true) (hcode : (Cond.code y bytes maxL ret).before args s = true)
    (hy : y.cls ≠ "java/lang/invoke/MethodHandle" ∧ y.cls ≠ "java/lang/invoke/VarHandle" ∧ (parseMethodDescriptor y.desc).map (fun d => d.parameters.length) = some n) (hn : As.length = n)
    (hst : st0 = As.reverse ++ rest) (hdg : decode cc pc = .ok (.invokestatic index, 3)) :
    os_In p l e R s m args below meth c H locs cells slots (F0 m pc ls st0) rest y As := by
  intro T hT X
  obtain ⟨mk, hnamed⟩ := Cond.code_named hcode
  obtain ⟨methM, cM, hmethM, -, -, -, -, -, -, hsigM⟩ := Cond.code_spec hnamed hcode
  have hstatic : methM.isStatic = true := Cond.static_spec hnamed hmethM hstat
  obtain ⟨kP, hkP, -⟩ := className_of_methodNamed hnamed
  have hinitP : kP.init = .initialized := Cond.initialized_spec (findClass_of_methodNamed hnamed) hkP hinit
  have hlen : As.length = methM.sig.parameters.length := by
    have h2 := hy.2.2
    rw [hsigM] at h2
    exact hn.trans (Option.some.inj h2).symm
  obtain ⟨vm₁, X₁, hstep₁⟩ := X.invokestatic hx hown hlink hnamed hmethM hstatic hkP hinitP ⟨hy.1, hy.2.1⟩ (g := F0 m pc ls st0) rfl (argsL := As) (rest := rest) hlen hst (by rw [hb]; exact hdg)
  exact ⟨vm₁, mk, _, X₁, X₁.named hnamed, by rw [hb]; exact hdg, fun target h => hstep₁ _ fun acts => by rw [doInvoke_state]; exact h⟩
theorem os_inSN {own host : String} {index : Nat} {y : MethodName} {bytes : ByteArray} {maxL : Nat} {ret : Option FieldType} {As : List Value} {n : Nat} (hx : p.tables.exec = Jvm.exec) (hb : c.code = cc) (hown : s.vm.findClass own = some m.cls)
    (hlink : (Cond.methodLinkNest own index y host).before args s = true) (hstat : (Cond.static y).before args s = true) (hinit : (Cond.initialized y.cls).before args s = true) (hcode : (Cond.code y bytes maxL ret).before args s = true)
    (hy : y.cls ≠ "java/lang/invoke/MethodHandle" ∧ y.cls ≠ "java/lang/invoke/VarHandle" ∧ (parseMethodDescriptor y.desc).map (fun d => d.parameters.length) = some n) (hn : As.length = n)
    (hst : st0 = As.reverse ++ rest) (hdg : decode cc pc = .ok (.invokestatic index, 3)) :
    os_In p l e R s m args below meth c H locs cells slots (F0 m pc ls st0) rest y As := by
  intro T hT X
  obtain ⟨mk, hnamed⟩ := Cond.code_named hcode
  obtain ⟨methM, cM, hmethM, -, -, -, -, -, -, hsigM⟩ := Cond.code_spec hnamed hcode
  have hstatic : methM.isStatic = true := Cond.static_spec hnamed hmethM hstat
  obtain ⟨kP, hkP, -⟩ := className_of_methodNamed hnamed
  have hinitP : kP.init = .initialized := Cond.initialized_spec (findClass_of_methodNamed hnamed) hkP hinit
  have hlen : As.length = methM.sig.parameters.length := by
    have h2 := hy.2.2
    rw [hsigM] at h2
    exact hn.trans (Option.some.inj h2).symm
  obtain ⟨vm₁, X₁, hstep₁⟩ := X.invokestaticNest hx hown hlink hnamed hmethM hstatic hkP hinitP ⟨hy.1, hy.2.1⟩ (g := F0 m pc ls st0) rfl (argsL := As) (rest := rest) hlen hst (by rw [hb]; exact hdg)
  exact ⟨vm₁, mk, _, X₁, X₁.named hnamed, by rw [hb]; exact hdg, fun target h => hstep₁ _ fun acts => by rw [doInvoke_state]; exact h⟩
theorem os_inI {own : String} {index : Nat} {y : MethodName} {bytes : ByteArray} {maxL : Nat} {b : Addr} {As : List Value} {n : Nat} (hx : p.tables.exec = Jvm.exec) (hb : c.code = cc) (hown : s.vm.findClass own = some m.cls)
    (hlink : (Cond.methodLink own index y).before args s = true) (hy1 : y.name = "<init>") (hinst : (Cond.instanceMethod y).before args s = true) (hcode : (Cond.code y bytes maxL none).before args s = true)
    (hy : y.cls ≠ "java/lang/invoke/MethodHandle" ∧ y.cls ≠ "java/lang/invoke/VarHandle" ∧ (parseMethodDescriptor y.desc).map (fun d => d.parameters.length) = some n) (hn : As.length = n)
    (hst : st0 = As.reverse ++ .ref b :: rest) (hdg : decode cc pc = .ok (.invokespecial index, 3)) :
    os_In p l e R s m args below meth c H locs cells slots (F0 m pc ls st0) rest y (.ref b :: As) := by
  intro T hT X
  have hpl : e.platform.magicAccessors = ({} : Platform).magicAccessors := by rw [X.admits.platform]
  have hlen : ∀ sig, parseMethodDescriptor y.desc = some sig → As.length = sig.parameters.length := fun sig h => by
    have h2 := hy.2.2
    rw [h] at h2
    exact hn.trans (Option.some.inj h2).symm
  obtain ⟨mk, methM, cM, kP, vm₁, hnamed, hmethM, hcodeM, -, hlocalsM, -, hkP, -, hW₁, hstep₁⟩ := Steps.initColdArgs (e := e) X.here hx X.warmed hpl hown hy1 ⟨hy.1, hy.2.1⟩ hlink hinst hcode (f := F0 m pc ls st0) rfl hlen hst (by rw [hb]; exact hdg)
  have X₁ := X.noted hW₁
  exact ⟨vm₁, mk, _, X₁, X₁.named hnamed, by rw [hb]; exact hdg, fun target h => hstep₁ _ fun acts => by rw [doInvoke_state]; exact h⟩
theorem os_inIN {own host : String} {index : Nat} {y : MethodName} {bytes : ByteArray} {maxL : Nat} {b : Addr} {As : List Value} {n : Nat} (hx : p.tables.exec = Jvm.exec) (hb : c.code = cc) (hown : s.vm.findClass own = some m.cls)
    (hlink : (Cond.methodLinkNest own index y host).before args s = true) (hy1 : y.name = "<init>") (hinst : (Cond.instanceMethod y).before args s = true) (hcode : (Cond.code y bytes maxL none).before args s = true)
    (hy : y.cls ≠ "java/lang/invoke/MethodHandle" ∧ y.cls ≠ "java/lang/invoke/VarHandle" ∧ (parseMethodDescriptor y.desc).map (fun d => d.parameters.length) = some n) (hn : As.length = n)
    (hst : st0 = As.reverse ++ .ref b :: rest) (hdg : decode cc pc = .ok (.invokespecial index, 3)) :
    os_In p l e R s m args below meth c H locs cells slots (F0 m pc ls st0) rest y (.ref b :: As) := by
  intro T hT X
  have hpl : e.platform.magicAccessors = ({} : Platform).magicAccessors := by rw [X.admits.platform]
  have hlen : ∀ sig, parseMethodDescriptor y.desc = some sig → As.length = sig.parameters.length := fun sig h => by
    have h2 := hy.2.2
    rw [h] at h2
    exact hn.trans (Option.some.inj h2).symm
  obtain ⟨mk, methM, cM, kP, vm₁, hnamed, hmethM, hcodeM, -, hlocalsM, -, hkP, -, hW₁, hstep₁⟩ := Steps.initColdArgsNest (e := e) X.here hx X.warmed hpl hown hy1 ⟨hy.1, hy.2.1⟩ hlink hinst hcode (f := F0 m pc ls st0) rfl hlen hst (by rw [hb]; exact hdg)
  have X₁ := X.noted hW₁
  exact ⟨vm₁, mk, _, X₁, X₁.named hnamed, by rw [hb]; exact hdg, fun target h => hstep₁ _ fun acts => by rw [doInvoke_state]; exact h⟩
theorem os_recv {K i ci : Nat} {r : vw_C} {fds : List (Option Nat)} {tys : List (ClassId × FieldType)} (hK : va_K D os_cl tys s) (hV : os_V D cA bs σ0 ad0 s σ ad H locs) (hs : os_sc K = .inl (ci, fds)) (hc : os_cl[ci]? = some r) (hi : i < os_n σ K) : ∃ cellB : Cell, H[ad K i]? = some cellB ∧ cellB.vm.isStatics = false ∧ s.vm.findClass r.1 = some cellB.cls := by
  have h := hV.1.1 K i hi
  unfold os_at at h
  rw [hs] at h
  obtain ⟨r', h1, cell, g1, g2, g3, -⟩ := h
  exact ⟨cell, g1, by rw [g3]; rfl, by rw [g2]; exact (hK.1 ci r hc).2.1⟩
end OSD
end
section
/-! ROWS THAT MAKE: objects, arrays, exceptions -/
section OSM
variable {p : Program} {l : Launch} {e : Env} {R : Room} {s : State} {m : MethodId} {args : Array Value} {below : List Frame} {meth : Method} {c : Code} {H : Heap} {locs : List Loc} {cells slots : Nat} {Q : State → Prop}
variable {cc : ByteArray} {pc : Nat} {ls : Array Slot} {rest st0 : List Value} {D : va_G} {cA : Nat → ClassId} {bs : Nat} {σ σ0 : os_S} {ad ad0 : Nat → Nat → Nat} {tys : List (ClassId × FieldType)}
variable {rm : Room} {Post : os_O → os_S → (Nat → Nat → Nat) → Prop}
def os_df (K k : Nat) : Value := match os_tg K k with
  | none => if os_lg K = true then .long 0 else .int 0
  | some _ => .null
theorem os_fv_nw {K L k : Nat} {ad' : Nat → Nat → Nat} : os_fv (os_nw σ K L) ad' K (os_n σ K) k = os_df K k := by
  unfold os_fv os_df
  cases os_tg K k with
  | none =>
    have he : os_g (os_nw σ K L) K k (os_n σ K) = 0 := by rw [os_g_nw, if_pos ⟨rfl, rfl⟩]
    show (if os_lg K = true then Value.long (os_g (os_nw σ K L) K k (os_n σ K)).toInt64 else .int (os_g (os_nw σ K L) K k (os_n σ K))) = _
    rw [he]
    rfl
  | some t =>
    show va_rf ((os_r (os_nw σ K L) K k (os_n σ K)).map (ad' t)) = _
    rw [os_r_nw, if_pos ⟨rfl, rfl⟩]
    rfl
theorem os_V.nw {K L : Nat} {H1 : Heap} (hV : os_V D cA bs σ0 ad0 s σ ad H locs) (hbs : bs ≤ s.heap.size) (hat : os_at D cA (os_nw σ K L) (os_ad ad K (os_n σ K) H.size) H1 K (os_n σ K)) (z1 : H1.size = H.size + 1) (o1 : ∀ q : Nat, q < H.size → H1[q]? = H[q]?) : os_V D cA bs σ0 ad0 s (os_nw σ K L) (os_ad ad K (os_n σ K) H.size) H1 locs :=
  ⟨hV.1.nw (Nat.le_trans hbs hV.2.2.1) hat o1, hV.2.1.trans os_ext.nw hV.2.2.1, Nat.le_trans hV.2.2.1 (by omega), fun x h1 h2 => (o1 x (Nat.lt_of_lt_of_le h1 hV.2.2.1)).trans (hV.2.2.2.1 x h1 h2), hV.2.2.2.2⟩
theorem os_new (hx : p.tables.exec = Jvm.exec) (hb : c.code = cc) {own C : String} {T : u_T} {N ci index K : Nat} {fds : List (Option Nat)} {Ts : List Cond} (hts : ∀ w ∈ Ts, w.before args s = true) (hin : ∀ w ∈ u_ws C T N, w ∈ Ts) (ty0 : Nat → FieldType) (hty : ∀ k, k < N → parseFieldDescriptor (T k).2.2.1 = some (ty0 k)) (hown : s.vm.findClass own = some m.cls)
    (hcl : (Cond.classLink own index C).before args s = true) (hinst : (Cond.instantiable C N).before args s = true) (hini : (Cond.initialized C).before args s = true) (hK : va_K D os_cl tys s) (hbs : bs ≤ s.heap.size) (hV : os_V D cA bs σ0 ad0 s σ ad H locs)
    (hs : os_sc K = .inl (ci, fds)) (hc : os_cl[ci]? = some (C, T, N)) (hdf : ∀ k, k < N → defaultValue (ty0 k) = os_df K k) (hcells : cells + 1 ≤ R.cells) (hslots : slots + N ≤ R.slots) (hdg : decode cc pc = .ok (.new index, 3))
    (kk : ∀ (ad' : Nat → Nat → Nat) (H1 : Heap), os_V D cA bs σ0 ad0 s (os_nw σ K 0) ad' H1 locs → (∀ K' i, i < os_n σ K' → ad' K' i = ad K' i) → W p l e R s m args below meth c H1 locs (cells + 1) (slots + N) Q (F0 m (pc + 3) ls (.ref (ad' K (os_n σ K)) :: rest))) : W p l e R s m args below meth c H locs cells slots Q (F0 m pc ls rest) := by
  have hKn := hK.1 ci _ hc
  refine W.newcK hx hb hown hcl hinst hini rfl hdg hcells hslots hKn.2.1 rfl fun H1 kC hkC e1 z1 o1 => ?_
  have hat : os_at D cA (os_nw σ K 0) (os_ad ad K (os_n σ K) H.size) H1 K (os_n σ K) := by
    unfold os_at
    rw [hs]
    refine ⟨_, hc, ?_⟩
    rw [os_ad_eq, if_pos ⟨rfl, rfl⟩]
    exact (u_born ty0 hts hin hKn hkC e1 hty).to (fun k hk => (hdf k hk).trans os_fv_nw.symm)
  have hk := kk _ H1 (hV.nw hbs hat z1 o1) (fun K' i hi => (os_ext.nw (σ := σ) (ad := ad) (K := K) (L := 0) (sz := H.size)).2.1 K' i hi)
  rw [os_ad_eq, if_pos ⟨rfl, rfl⟩] at hk
  exact hk
theorem os_newi (hx : p.tables.exec = Jvm.exec) (hb : c.code = cc) {atype : ArrayType} {ty : FieldType} {K t t0 : Nat} {n : Int32} {N' : Nat} (hat : newarray.typeOf atype = ty) (harr : (Cond.arrayClass ty).before args s = true) (hra : ∀ (U : State) (c9 : ClassId), va_RA U c9 ty = (U.vm.findClass ("[" ++ ty.toString) = some c9)) (hK : va_K D os_cl tys s) (hbs : bs ≤ s.heap.size) (hV : os_V D cA bs σ0 ad0 s σ ad H locs) (hs : os_sc K = .inr (t, none)) (ht : tys[t0]? = some (cA t, ty)) (hdf : ∀ k, defaultValue ty = os_df K k)
    (hn : ¬ n < 0) (hN : n.toNatClampNeg = N') (hbytes : N' * componentBytes ty ≤ 536870912) (hcells : cells + 1 ≤ R.cells) (hslots : slots + N' ≤ R.slots) (hdg : decode cc pc = .ok (.newarray atype, 2))
    (kk : ∀ (ad' : Nat → Nat → Nat) (H1 : Heap), os_V D cA bs σ0 ad0 s (os_nw σ K N') ad' H1 locs → (∀ K' i, i < os_n σ K' → ad' K' i = ad K' i) → W p l e R s m args below meth c H1 locs (cells + 1) (slots + N') Q (F0 m (pc + 2) ls (.ref (ad' K (os_n σ K)) :: rest))) : W p l e R s m args below meth c H locs cells slots Q (F0 m pc ls (.int n :: rest)) := by
  subst hat
  refine va_newaK hx hb harr rfl hdg rfl hn hN hbytes hcells hslots rfl fun H1 cI e1 z1 o1 hAr hNm => ?_
  have hcI : cI = cA t := by
    have h9 := (hK.2 t0 _ ht).2
    rw [hra] at h9
    exact Option.some.inj (hNm.symm.trans h9)
  have hat2 : os_at D cA (os_nw σ K N') (os_ad ad K (os_n σ K) H.size) H1 K (os_n σ K) := by
    unfold os_at
    rw [hs]
    show H1[os_ad ad K (os_n σ K) H.size K (os_n σ K)]? = some (arrV (cA t) (os_l (os_nw σ K N') K (os_n σ K)) (os_fv (os_nw σ K N') (os_ad ad K (os_n σ K) H.size) K (os_n σ K)))
    rw [os_ad_eq, if_pos ⟨rfl, rfl⟩, e1, hcI, os_l_nw, if_pos ⟨rfl, rfl⟩]
    congr 2
    funext k
    rw [os_fv_nw, hdf k]
  have hk := kk _ H1 (hV.nw hbs hat2 z1 o1) (fun K' i hi => (os_ext.nw (σ := σ) (ad := ad) (K := K) (L := N') (sz := H.size)).2.1 K' i hi)
  rw [os_ad_eq, if_pos ⟨rfl, rfl⟩] at hk
  exact hk
theorem os_newq (hx : p.tables.exec = Jvm.exec) (hb : c.code = cc) {own C : String} {index K t t0 kt : Nat} {n : Int32} {N' : Nat} (hown : s.vm.findClass own = some m.cls) (hclink : (Cond.classLink own index C).before args s = true) (hover : (Cond.arrayOver (.object C)).before args s = true) (hK : va_K D os_cl tys s) (hbs : bs ≤ s.heap.size) (hV : os_V D cA bs σ0 ad0 s σ ad H locs) (hs : os_sc K = .inr (t, some kt)) (ht : tys[t0]? = some (cA t, .object C))
    (hn : ¬ n < 0) (hN : n.toNatClampNeg = N') (hbytes : N' * 4 ≤ 536870912) (hcells : cells + 1 ≤ R.cells) (hslots : slots + N' ≤ R.slots) (hdg : decode cc pc = .ok (.anewarray index, 3))
    (kk : ∀ (ad' : Nat → Nat → Nat) (H1 : Heap), os_V D cA bs σ0 ad0 s (os_nw σ K N') ad' H1 locs → (∀ K' i, i < os_n σ K' → ad' K' i = ad K' i) → W p l e R s m args below meth c H1 locs (cells + 1) (slots + N') Q (F0 m (pc + 3) ls (.ref (ad' K (os_n σ K)) :: rest))) : W p l e R s m args below meth c H locs cells slots Q (F0 m pc ls (.int n :: rest)) := by
  subst hN
  refine W.anew hx hb hown hclink hover rfl hdg rfl hn hbytes hcells hslots fun cI kA comp f1 f2 f3 f4 => ?_
  generalize hH1 : H.push ({ cls := cI, slots := Array.replicate n.toNatClampNeg .null, vm := .none } : Cell) = H1
  have z1 : H1.size = H.size + 1 := by rw [← hH1, Array.size_push]
  have e1 : H1[H.size]? = some (arrV cI n.toNatClampNeg (fun _ => .null)) := by rw [← hH1, Array.getElem?_push_size, ← arrV_new]
  have o1 : ∀ q : Nat, q < H.size → H1[q]? = H[q]? := fun q hq => by rw [← hH1, Array.getElem?_push, if_neg (Nat.ne_of_lt hq)]
  have hcI : cI = cA t := by
    obtain ⟨_, _, _, _, _, h9⟩ := (hK.2 t0 _ ht).2
    exact Option.some.inj (f1.symm.trans h9)
  have hat2 : os_at D cA (os_nw σ K n.toNatClampNeg) (os_ad ad K (os_n σ K) H.size) H1 K (os_n σ K) := by
    unfold os_at
    rw [hs]
    show H1[os_ad ad K (os_n σ K) H.size K (os_n σ K)]? = some (arrV (cA t) (os_l (os_nw σ K n.toNatClampNeg) K (os_n σ K)) (os_fv (os_nw σ K n.toNatClampNeg) (os_ad ad K (os_n σ K) H.size) K (os_n σ K)))
    rw [os_ad_eq, if_pos ⟨rfl, rfl⟩, e1, hcI, os_l_nw, if_pos ⟨rfl, rfl⟩]
    congr 2
    funext k
    rw [os_fv_nw]
    unfold os_df os_tg
    rw [hs]
  have hk := kk _ H1 (hV.nw hbs hat2 z1 o1) (fun K' i hi => (os_ext.nw (σ := σ) (ad := ad) (K := K) (L := n.toNatClampNeg) (sz := H.size)).2.1 K' i hi)
  rw [os_ad_eq, if_pos ⟨rfl, rfl⟩] at hk
  exact hk
/-- the words of a throw but the four that speak of the heap -/
def os_no (w : Cond) : Bool := decide (w ≠ .isRef (.static Bundle.tN "UNASSIGNED_STACK" Bundle.steD)) && decide (w ≠ .isRef (.static Bundle.tN "SUPPRESSED_SENTINEL" Bundle.listD)) && decide (w ≠ .laysStatic Bundle.tN "UNASSIGNED_STACK" Bundle.steD) && decide (w ≠ .laysStatic Bundle.tN "SUPPRESSED_SENTINEL" Bundle.listD)
theorem os_own {args : Array Value} {s : State} {D : va_G} {cA : Nat → ClassId} {bs : Nat} {L : List Cond} (hE : os_EV D cA bs s) (h1 : ∀ w ∈ L.filter os_no, w ∈ os_tb) : ∀ w ∈ L, w.before args s = true := by
  intro w hw
  by_cases e1 : w = .isRef (.static Bundle.tN "UNASSIGNED_STACK" Bundle.steD)
  · rw [e1]; exact hE.2.2.2.1.isRef
  · by_cases e2 : w = .isRef (.static Bundle.tN "SUPPRESSED_SENTINEL" Bundle.listD)
    · rw [e2]; exact hE.2.2.2.2.1.isRef
    · by_cases e3 : w = .laysStatic Bundle.tN "UNASSIGNED_STACK" Bundle.steD
      · rw [e3]; exact hE.2.2.2.1.lays
      · by_cases e4 : w = .laysStatic Bundle.tN "SUPPRESSED_SENTINEL" Bundle.listD
        · rw [e4]; exact hE.2.2.2.2.1.lays
        · exact hE.hts w (h1 w (List.mem_filter.mpr ⟨hw, by unfold os_no; rw [decide_eq_true e1, decide_eq_true e2, decide_eq_true e3, decide_eq_true e4]; rfl⟩))
/-- the frame as if its method were called anew in this heap -/
theorem os_rebase {T : State} (X : Stand p l e R s m args below meth c T locs cells slots) {R' : Room} (hf : R'.frames ≤ R.frames) (hl : R'.locals ≤ R.locals) (hc : cells + R'.cells ≤ R.cells) (hs : slots + R'.slots ≤ R.slots) :
    Stand p l e R' ((T.setVm s.vm).setFrames (.invoking m args :: below)) m args below meth c T [] 0 0 := by
  have htop : (T.setVm s.vm).topJava?.isSome := X.here.top
  have hF : ((T.setVm s.vm).setFrames (.invoking m args :: below)).frames = .invoking m args :: below := State.frames_setFrames _ (State.cur_lt_of_top htop)
  obtain ⟨g₀, hg0⟩ := Option.isSome_iff_exists.mp htop
  obtain ⟨r, hr⟩ := State.topJava?_eq_some.mp hg0
  obtain ⟨th, ht, -⟩ := State.frames_cons hr
  have hdrop : ((T.heap.toList.drop T.heap.size).map (·.slots.size)).sum = 0 := by
    rw [List.drop_eq_nil_of_le (Nat.le_of_eq Array.length_toList)]
    rfl
  refine ⟨X.admits, X.cas, X.clock, hF, ?_, X.hears, X.method, X.code, X.here, X.tail, X.warmed, ?_, ?_, ?_, Nat.le_refl _, Nat.le_refl _, ?_, ?_, fun a c9 h9 => ⟨c9, h9, rfl, rfl, fun _ _ => rfl⟩⟩
  · have h := X.room
    have hU : ((T.setVm s.vm).setFrames (.invoking m args :: below)).localsInUse = s.localsInUse := by
      rw [State.localsInUse_invoking hF (meth := meth) (c := c) X.method X.code, State.localsInUse_invoking X.frames X.method X.code]
    have hl9 : e.platform.stackLimits (T.setVm s.vm).me = e.platform.stackLimits s.me := X.limits
    have hb9 : (T.setVm s.vm).me.stackBytes = s.me.stackBytes := X.bytes
    have q1 := X.heapSize
    have q2 := X.used
    simp only [State.hasRoom, Bool.and_eq_true, decide_eq_true_eq] at h ⊢
    obtain ⟨⟨⟨⟨h1, h2, h3, h4, h5, h6⟩, h7⟩, h8⟩, h9⟩ := h
    rw [X.frames, List.length_cons] at h2 h3
    simp only [hF, hU, List.length_cons, State.stackLimits_setFrames, State.stackBytes_setFrames, hl9, hb9]
    refine ⟨⟨⟨⟨by omega, by omega, by omega, by omega, by omega, h6⟩, ?_⟩, ?_⟩, X.book⟩
    · show T.heap.size + R'.cells ≤ e.platform.maxCells
      omega
    · show T.slotsUsed + R'.slots ≤ e.platform.maxSlots
      omega
  · rw [State.stackLimits_setFrames]; exact X.limits.trans X.limits.symm
  · rw [State.stackBytes_setFrames]; rfl
  · show T.setVm s.vm = { ((T.setVm s.vm).setFrames (.invoking m args :: below)).setFrames (T.setVm s.vm).frames with heap := T.heap, slotsUsed := T.slotsUsed }
    rw [State.setFrames_setFrames, State.setFrames_self ht]
    rfl
  · show T.slotsUsed = T.slotsUsed + ((T.heap.toList.drop T.heap.size).map (·.slots.size)).sum
    rw [hdrop]; rfl
  · show ((T.heap.toList.drop T.heap.size).map (·.slots.size)).sum ≤ 0
    rw [hdrop]; exact Nat.le_refl _
/-- 'throw new E("text")': new; dup; ldc; invokespecial; athrow, in a body without handlers; w is 2, with a wide index 3 -/
theorem os_throw {own cls text : String} {names : List String} {ik is ic : Nat} (hx : p.tables.exec = Jvm.exec) (hb : c.code = cc) (hl : l.stackTraces = false) (hown : s.vm.findClass own = some m.cls) (hcls : Bundle.fit cls = true) (hnames : ∀ n ∈ names, Bundle.fit n = true)
    (hE : os_EV D cA bs s) (hV : os_V D cA bs σ0 ad0 s σ ad H locs) (hk : Cond.classLink own ik cls ∈ os_tb) (hini : Cond.initialized cls ∈ os_tb) (hstr : (own, is, text) ∈ os_str) (hat : ∀ w ∈ (Bundle.ownAtoms own ic cls names).filter os_no, w ∈ os_tb)
    (hsize : ls.size = c.maxLocals) (d0 : decode cc pc = .ok (.new ik, 3)) (d3 : decode cc (pc + 3) = .ok (.dup, 1)) (d4 : decode cc (pc + 4) = .ok (.ldc is, 2)) (d6 : decode cc (pc + 6) = .ok (.invokespecial ic, 3)) (d9 : decode cc (pc + 9) = .ok (.athrow, 1))
    (hout : ∀ x ∈ c.exceptionTable.toList, False) (hlocks : meth.locks = false) (hRf : names.length + 3 < R.frames) (hRl : (rest.map fun v => v.category).sum + (13 * (names.length + 1) + 43) ≤ R.locals) (hRc : cells + 1 ≤ R.cells) (hRs : slots + 6 ≤ R.slots) (hc : cells + 1 ≤ rm.cells) (hs : slots + 6 ≤ rm.slots) (hp : Post (.inr cls) σ ad) :
    W p l e R s m args below meth c H locs cells slots (os_End D cA bs below s σ0 ad0 rm Post) (F0 m pc ls rest) := by
  intro T hT X
  have htr : e.platform.stackTraces = false := (show e.platform.stackTraces = l.stackTraces by rw [X.admits.platform]).trans hl
  have Y := os_rebase X (R' := { frames := R.frames, locals := R.locals, cells := 1, slots := 6 }) (Nat.le_refl _) (Nat.le_refl _) hRc hRs
  obtain ⟨s', hA⟩ : ∃ z, z = (T.setVm s.vm).setFrames (.invoking m args :: below) := ⟨_, rfl⟩
  rw [← hA] at Y
  have hvm : s'.vm = s.vm := by rw [hA]; rfl
  have hhp : s'.heap = H := by rw [hA]; exact hT
  have hW0 : s.WarmedH s'.vm := by rw [hvm]; exact State.WarmedH.refl s
  have hE' : os_EV D cA bs s' := hE.moved hW0 (by rw [hhp]; exact hV.2.2.1) (fun q hq => by rw [hhp]; exact hV.low hE.2.2.1 q hq)
  have h : ∀ w ∈ Bundle.ownAtoms own ic cls names, w.before args s' = true := os_own hE' hat
  have hown' : s'.vm.findClass own = some m.cls := by rw [hvm]; exact hown
  have hins : (Cond.instantiable cls 6).before args s' = true := h _ (by simp [Bundle.ownAtoms])
  obtain ⟨vm₁, cX, kX, hfX, hkX, -, -, X₁, st1⟩ := Y.newCold hx (own := own) (C := cls) (index := ik) (n := 6) hown' (hE'.hts _ hk) hins (hE'.hts _ hini)
    (g := F0 m pc ls rest) rfl (by rw [hb]; exact d0) (Nat.le_refl _) (Nat.le_refl _)
  generalize hT1 : (T.setVm vm₁).pushCell { cls := cX, slots := kX.instanceTypes.map defaultValue, vm := .none } = T1 at X₁ st1
  have hcat : (Value.ref T.heap.size).category = 1 := rfl
  have hcellA : T1.heap[T.heap.size]? = some (freshCell cX kX) := by rw [← hT1]; exact State.heap_pushCell_size _ _
  have d3' : decode c.code (pc + 3) = .ok (.dup, 1) := by rw [hb]; exact d3
  have d4' : decode c.code (pc + 4) = .ok (.ldc is, 2) := by rw [hb]; exact d4
  obtain ⟨sa, hstr'⟩ := hE'.2.2.2.2.2 _ hstr
  obtain ⟨U, hsteps, hrun, hend, hW, hsame, ce, hce, hO⟩ := X₁.ctorThrowS hx htr (own := own) (cls := cls) (names := names) (ic := ic) hown' hcls hnames h (fun x hx => nomatch hx) hfX hkX hcellA (by rw [hhp, hT]; exact Nat.le_refl _) (msg := .ref sa) rfl
    (g := { method := m, pc := pc + 6, locals := ls, stack := .ref sa :: .ref T.heap.size :: .ref T.heap.size :: rest, locked := none }) rfl hsize rfl rfl (rest := rest) rfl
    (by rw [hb]; exact d6) (by rw [hb]; exact d9) (fun x hx => (hout x hx).elim) hRf (by simp only [List.map_cons, List.sum_cons, hcat]; omega) hlocks
  obtain ⟨f1, f2⟩ := os_frame hsame
  rw [hhp] at f1 f2
  have hWs : s.WarmedH U.vm := State.WarmedH.trans hW0 hW
  have hcl : s.vm.findClass cls = some ce.cls := by
    have h9 := hO.cls
    rw [hvm] at h9
    exact h9
  have hall : s.sameButNew ({ U with vm := s.vm } : State) locs rm.cells rm.slots := by
    subst hA
    obtain ⟨e1, e2⟩ := hsame
    rw [State.setFrames_setFrames] at e1
    have h2 : (T.setVm s.vm).sameButNew ({ U with vm := s.vm } : State) [] (0 + 1) (0 + 6) := ⟨e1, e2⟩
    have h3 := X.same.trans h2
    rw [List.append_nil] at h3
    exact h3.mono hc hs
  have hWU : os_W D cA bs σ ad U.heap := by
    obtain ⟨w1, w2, w3, w4⟩ := hV.1
    exact ⟨fun K i hi => (w1 K i hi).to rfl (f2 _ (w1 K i hi).lt (fun z hz => nomatch hz)) rfl (fun _ => rfl), w2, w3, w4⟩
  refine ⟨U, ?_, .threw T.heap.size, hrun, hend, .inr cls, σ, ad, ⟨T.heap.size, ce, rfl, hce, hO.vm, hcl⟩, hp, hWU, hV.2.1, hWs, locs, hall, hV.2.2.2.2⟩
  refine st1 _ ?_
  show Steps p.tables e below (T1.setTop { method := m, pc := pc + 3, locals := ls, stack := .ref T.heap.size :: rest, locked := none }) _
  jvm_step X₁.here [X₁.here.top, hx, d3', Value.category]
  exact X₁.ldcString hx (own := own) (text := text) (index := is) (a := sa) hown' hstr'.1 hstr'.2
    (g := { method := m, pc := pc + 4, locals := ls, stack := .ref T.heap.size :: .ref T.heap.size :: rest, locked := none }) rfl d4' _ hsteps
end OSM
end
section
/-! AN EXCEPTION IS CAUGHT: the search goes through the rows of the table, each row's class cold or warm -/
/-- the search from S ends at a handler, the tables then being vm' -/
def os_Fd (e : Env) (S : State) (f : JFrame) (a : Addr) (pc : Nat) (vm' : Vm) : Prop :=
  ∀ (Q : Handler → Pre) (E : CtlPost) (d : Bool) (acts : List Action), wp (findHandler f a) Q E e d acts S ↔ Q (.found pc) d acts (S.setVm vm')
theorem os_goYes {Q : Handler → Pre} {E : CtlPost} {e : Env} {d : Bool} {acts : List Action} {s : State} {f : JFrame} {a : Addr} {x : ExceptionTableEntry} {t : List ExceptionTableEntry} {c : ClassId} {cell : Cell} (hx : covers x f.pc = true) (h0 : x.catchType ≠ 0)
    (hl : s.vm.ClassLinks e.platform f.method.cls x.catchType c) (hcell : s.heap[a]? = some cell) (hobj : ∀ k, cell.vm ≠ .statics k) (hk : ∃ k, s.vm.classes[cell.cls]? = some k) (hc : ∃ k, s.vm.classes[c]? = some k) (hfit : s.vm.assignable cell.cls c = true) :
    wp (findHandler.go f a (x :: t)) Q E e d acts s ↔ Q (.found x.handlerPc) d acts (s.setVm (s.vm.noted f.method.cls x.catchType (.cls c))) := by
  simp only [covers] at hx
  obtain ⟨ha, ht⟩ := (resolveClass_links e.toSetting hl).op (op := VmOp.resolveClass f.method.cls x.catchType) rfl
  have hal : s.vm.Alike (s.vm.noted f.method.cls x.catchType (.cls c)) := (Vm.Alike.refl s.vm).noted _ _ _
  obtain ⟨k1, hk1⟩ := hk
  obtain ⟨k2, hk2⟩ := hc
  obtain ⟨k1', hk1', -⟩ := hal.2.2 _ _ hk1
  obtain ⟨k2', hk2', -⟩ := hal.2.2 _ _ hk2
  have hf : (s.vm.noted f.method.cls x.catchType (.cls c)).assignable cell.cls c = true := by rw [hal.assignable]; exact hfit
  simp [findHandler.go, hx, h0, ha, ht, hcell, hobj, hk1', hk2', hf, VmOp.dirties, VmOp.acts]
theorem os_goNo {Q : Handler → Pre} {E : CtlPost} {e : Env} {d : Bool} {acts : List Action} {s : State} {f : JFrame} {a : Addr} {x : ExceptionTableEntry} {t : List ExceptionTableEntry} {c : ClassId} {cell : Cell} (hx : covers x f.pc = true) (h0 : x.catchType ≠ 0)
    (hl : s.vm.ClassLinks e.platform f.method.cls x.catchType c) (hcell : s.heap[a]? = some cell) (hobj : ∀ k, cell.vm ≠ .statics k) (hk : ∃ k, s.vm.classes[cell.cls]? = some k) (hc : ∃ k, s.vm.classes[c]? = some k) (hno : s.vm.assignable cell.cls c = false) :
    wp (findHandler.go f a (x :: t)) Q E e d acts s ↔ wp (findHandler.go f a t) Q E e d acts (s.setVm (s.vm.noted f.method.cls x.catchType (.cls c))) := by
  simp only [covers] at hx
  obtain ⟨ha, ht⟩ := (resolveClass_links e.toSetting hl).op (op := VmOp.resolveClass f.method.cls x.catchType) rfl
  have hal : s.vm.Alike (s.vm.noted f.method.cls x.catchType (.cls c)) := (Vm.Alike.refl s.vm).noted _ _ _
  obtain ⟨k1, hk1⟩ := hk
  obtain ⟨k2, hk2⟩ := hc
  obtain ⟨k1', hk1', -⟩ := hal.2.2 _ _ hk1
  obtain ⟨k2', hk2', -⟩ := hal.2.2 _ _ hk2
  have hf : (s.vm.noted f.method.cls x.catchType (.cls c)).assignable cell.cls c = false := by rw [hal.assignable]; exact hno
  simp [findHandler.go, hx, h0, ha, ht, hcell, hobj, hk1', hk2', hf, VmOp.dirties, VmOp.acts]
/-- a row that is passed: it doesn't cover the place, or its class takes no such object -/
def os_pass (e : Env) (s0 : State) (f : JFrame) (th : ClassId) (y : ExceptionTableEntry) : Prop := covers y f.pc = false ∨ (y.catchType ≠ 0 ∧ ∃ c, s0.vm.ClassLinks e.platform f.method.cls y.catchType c ∧ s0.vm.assignable th c = false)
theorem os_goAll {e : Env} {s0 : State} {f : JFrame} {a : Addr} {cell : Cell} (hobj : ∀ k, cell.vm ≠ .statics k) (hk0 : ∃ k, s0.vm.classes[cell.cls]? = some k) (x : ExceptionTableEntry) (rest : List ExceptionTableEntry) (hx : covers x f.pc = true) (h0 : x.catchType ≠ 0) {c : ClassId} (hl : s0.vm.ClassLinks e.platform f.method.cls x.catchType c) (hfit : s0.vm.assignable cell.cls c = true) :
    ∀ (pre : List ExceptionTableEntry) (S : State), s0.WarmedH S.vm → S.heap[a]? = some cell → (∀ y ∈ pre, os_pass e s0 f cell.cls y) →
      ∃ vm', s0.WarmedH vm' ∧ ∀ (Q : Handler → Pre) (E : CtlPost) (d : Bool) (acts : List Action), wp (findHandler.go f a (pre ++ x :: rest)) Q E e d acts S ↔ Q (.found x.handlerPc) d acts (S.setVm vm') := by
  obtain ⟨k0, hk0⟩ := hk0
  intro pre
  induction pre with
  | nil =>
    intro S hW hcell _
    obtain ⟨k0', hk0', -⟩ := hW.alike.2.2 _ _ hk0
    obtain ⟨dk, _, _, kt, hd, _, _, _, _, hkt, _, hopen⟩ := hl.here
    obtain ⟨kt', hkt', -⟩ := hW.alike.2.2 _ _ hkt
    exact ⟨_, hW.noted hd hopen (State.rightAt_cls hl), fun Q E d acts => os_goYes hx h0 (hW.classLinks hl) hcell hobj ⟨k0', hk0'⟩ ⟨kt', hkt'⟩ (by rw [hW.alike.assignable]; exact hfit)⟩
  | cons y ys ih =>
    intro S hW hcell hpass
    obtain ⟨k0', hk0', -⟩ := hW.alike.2.2 _ _ hk0
    have hrest : ∀ z ∈ ys, os_pass e s0 f cell.cls z := fun z hz => hpass z (List.mem_cons_of_mem _ hz)
    by_cases hcov : covers y f.pc = true
    · rcases hpass y List.mem_cons_self with h | ⟨hy0, c1, hl1, hno⟩
      · rw [h] at hcov; cases hcov
      · obtain ⟨dk, _, _, kt, hd, _, _, _, _, hkt, _, hopen⟩ := hl1.here
        obtain ⟨kt', hkt', -⟩ := hW.alike.2.2 _ _ hkt
        obtain ⟨vm', hW', hq⟩ := ih (S.setVm (S.vm.noted f.method.cls y.catchType (.cls c1))) (hW.noted hd hopen (State.rightAt_cls hl1)) hcell hrest
        exact ⟨vm', hW', fun Q E d acts => by
          rw [List.cons_append, os_goNo hcov hy0 (hW.classLinks hl1) hcell hobj ⟨k0', hk0'⟩ ⟨kt', hkt'⟩ (by rw [hW.alike.assignable]; exact hno)]
          exact hq Q E d acts⟩
    · obtain ⟨vm', hW', hq⟩ := ih S hW hcell hrest
      exact ⟨vm', hW', fun Q E d acts => by
        rw [List.cons_append, W.findHandler_go_skip (by simpa using hcov)]
        exact hq Q E d acts⟩
theorem os_stepCatch {e : Env} {s : State} {a : Addr} {f : JFrame} {r : List Frame} {pc : Nat} {vm' : Vm} (hfind : os_Fd e s f a pc vm') :
    (stepThrowing e s a (.java f :: r)).Is ((s.setVm vm').setFrames (.java { f with pc := pc, stack := [.ref a] } :: r)) [] := by
  simp only [stepThrowing, searchFrame, vmDo]
  generalize hr : Sem.go _ e false [] s = res
  obtain ⟨as, rfl, ha⟩ := Sem.eq_ok_of hr (a := Handler.found pc) (s' := s.setVm vm') (acts' := []) (by simp [hfind _ _ _ _])
  exact ⟨rfl, ha⟩
theorem os_stepsCatch {tb : Tables} {e : Env} {s target : State} {g : JFrame} {c : Code} {below : List Frame} {a : Addr} (h : At s g.method c below) {pc : Nat} {vm' : Vm}
    (hfind : os_Fd e ((s.setTop g).pushFrame (.throwing a)) g a pc vm') (hrest : Steps tb e below ((s.setVm vm').setTop { g with pc := pc, stack := [.ref a] }) target) :
    Steps tb e below ((s.setTop g).pushFrame (.throwing a)) target := by
  obtain ⟨hgo, hw⟩ := h.throwing a
  refine Steps.head hgo hw ?_
  rw [stepThread_throwing (frames_entered h.top _), (os_stepCatch (s := (s.setTop g).pushFrame (.throwing a)) hfind).1]
  obtain ⟨g₀, hg⟩ := Option.isSome_iff_exists.mp h.top
  obtain ⟨r, hr⟩ := State.topJava?_eq_some.mp hg
  have hr' : (s.setVm vm').frames = .java g₀ :: r := hr
  have hfv : ∀ (u : State) (F G : List Frame), ((u.setFrames F).setVm vm').setFrames G = (u.setVm vm').setFrames G := fun u F G => by
    have h1 : (u.setFrames F).setVm vm' = (u.setVm vm').setFrames F := rfl
    rw [h1, State.setFrames_setFrames]
  rw [State.setTop_of_frames _ hr'] at hrest
  rw [hr, List.tail_cons, State.pushFrame, hfv, State.setTop_of_frames _ hr, hfv]
  exact hrest
section OSK
variable {p : Program} {l : Launch} {e : Env} {R : Room} {s : State} {m : MethodId} {args : Array Value} {below : List Frame} {meth : Method} {c : Code} {H : Heap} {locs : List Loc} {cells slots : Nat} {Q : State → Prop} {pc : Nat} {ls : Array Slot} {rest : List Value}
/-- caught by the row x of this method's table; the rows ahead don't take it -/
theorem os_catch {own name E : String} {ce : Cell} {q : Addr} (hown : s.vm.findClass own = some m.cls) (pre : List ExceptionTableEntry) (x : ExceptionTableEntry) (suf : List ExceptionTableEntry) (hsplit : c.exceptionTable.toList = pre ++ x :: suf)
    (hpass : ∀ z ∈ pre, covers z pc = false ∨ (z.catchType ≠ 0 ∧ ∃ nm : String, (Cond.classLink own z.catchType nm).before args s = true ∧ va_Nc E nm s)) (hx : covers x pc = true) (h0 : x.catchType ≠ 0)
    (hlink : (Cond.classLink own x.catchType name).before args s = true) (hcast : (Cond.castable E name).before args s = true) (hcell : H[q]? = some ce) (hv : ce.vm = .none) (hcl : s.vm.findClass E = some ce.cls)
    (kk : W p l e R s m args below meth c H locs cells slots Q (F0 m x.handlerPc ls [.ref q])) : os_WX p l e R s m args below meth c H locs cells slots Q (F0 m pc ls rest) q := by
  intro T hT X
  have hpl : e.platform.magicAccessors = ({} : Platform).magicAccessors := by rw [X.admits.platform]
  obtain ⟨c3, c4, hc3, hc4, hasg⟩ := Cond.castable_spec hcast
  cases Option.some.inj (hc3.symm.trans hcl)
  obtain ⟨c5, hc5, hcl5⟩ := Cond.classLink_spec hown hlink e.platform hpl
  cases Option.some.inj (hc4.symm.trans hc5)
  have hobj : ∀ k, ce.vm ≠ .statics k := fun k h => by rw [hv] at h; cases h
  obtain ⟨vm', hW', hq⟩ := os_goAll (e := e) (s0 := s) (f := F0 m pc ls rest) (a := q) hobj (by obtain ⟨k9, h9, -⟩ := Vm.findClass_spec hcl; exact ⟨k9, h9⟩) x suf hx h0 hcl5 hasg pre ((T.setTop (F0 m pc ls rest)).pushFrame (.throwing q)) X.warmed (by show T.heap[q]? = _; rw [hT]; exact hcell)
    (fun z hz => by
      rcases hpass z hz with h | ⟨hz0, nm, hl1, hn1⟩
      · exact Or.inl h
      · obtain ⟨c6, hc6, hcl6⟩ := Cond.classLink_spec hown hl1 e.platform hpl
        obtain ⟨a8, b8, h1, h2, h3⟩ := hn1
        cases Option.some.inj (h1.symm.trans hcl)
        cases Option.some.inj (h2.symm.trans hc6)
        exact Or.inr ⟨hz0, _, hcl6, h3⟩)
  have hfd : os_Fd e ((T.setTop (F0 m pc ls rest)).pushFrame (.throwing q)) (F0 m pc ls rest) q x.handlerPc vm' := fun Q E d acts => by
    rw [W.findHandler_eq (meth := meth) (code := c) X.method' X.code, hsplit]
    exact hq Q E d acts
  obtain ⟨t, a1, b1⟩ := kk (T.setVm vm') hT (X.noted hW')
  exact ⟨t, os_stepsCatch X.here hfd a1, b1⟩
end OSK
end
section
/-! THE WORDS, by their places: printed by wip/gen/names.py -/
theorem k_0 : (Jvm.Cond.initialized "RobotFaultsLaw") ∈ os_tb := os_in (i := 33) (by decide +kernel) (by decide +kernel)
theorem k_1 : (Jvm.Cond.initialized "RobotFaults") ∈ os_tb := os_in (i := 34) (by decide +kernel) (by decide +kernel)
theorem k_2 : (Jvm.Cond.initialized "RobotFaults$Track") ∈ os_tb := os_in (i := 35) (by decide +kernel) (by decide +kernel)
theorem k_3 : (Jvm.Cond.initialized "RobotFaults$Rule") ∈ os_tb := os_in (i := 36) (by decide +kernel) (by decide +kernel)
theorem k_4 : (Jvm.Cond.initialized "RobotFaultsModel") ∈ os_tb := os_in (i := 37) (by decide +kernel) (by decide +kernel)
theorem k_5 : (Jvm.Cond.initialized "java/lang/Throwable") ∈ os_tb := os_in (i := 38) (by decide +kernel) (by decide +kernel)
theorem k_6 : (Jvm.Cond.initialized "java/lang/Exception") ∈ os_tb := os_in (i := 39) (by decide +kernel) (by decide +kernel)
theorem k_7 : (Jvm.Cond.initialized "java/lang/RuntimeException") ∈ os_tb := os_in (i := 40) (by decide +kernel) (by decide +kernel)
theorem k_8 : (Jvm.Cond.initialized "java/lang/UnsupportedOperationException") ∈ os_tb := os_in (i := 41) (by decide +kernel) (by decide +kernel)
theorem k_9 : (Jvm.Cond.initialized "java/util/NoSuchElementException") ∈ os_tb := os_in (i := 42) (by decide +kernel) (by decide +kernel)
theorem k_10 : (Jvm.Cond.initialized "java/lang/IllegalArgumentException") ∈ os_tb := os_in (i := 43) (by decide +kernel) (by decide +kernel)
theorem k_11 : (Jvm.Cond.initialized "RobotFaults$Robot") ∈ os_tb := os_in (i := 44) (by decide +kernel) (by decide +kernel)
theorem k_12 : (Jvm.Cond.initialized "java/lang/IllegalStateException") ∈ os_tb := os_in (i := 45) (by decide +kernel) (by decide +kernel)
theorem k_13 : (Jvm.Cond.initialized "RobotFaults$Fault") ∈ os_tb := os_in (i := 46) (by decide +kernel) (by decide +kernel)
theorem k_14 : (Jvm.Cond.initialized "RobotFaults$Alarm") ∈ os_tb := os_in (i := 47) (by decide +kernel) (by decide +kernel)
theorem k_15 : (Jvm.Cond.initialized "java/lang/Integer") ∈ os_tb := os_in (i := 48) (by decide +kernel) (by decide +kernel)
theorem k_16 : (Jvm.Cond.initialized "RobotFaults$Planted") ∈ os_tb := os_in (i := 49) (by decide +kernel) (by decide +kernel)
theorem k_17 : (Jvm.Cond.initialized "java/lang/Math") ∈ os_tb := os_in (i := 50) (by decide +kernel) (by decide +kernel)
theorem k_18 : (Jvm.Cond.classLink "RobotFaultsLaw" (8 : Nat) "RobotFaults") ∈ os_tb := os_in (i := 51) (by decide +kernel) (by decide +kernel)
theorem k_19 : (Jvm.Cond.instantiable "RobotFaults" (11 : Nat)) ∈ os_tb := os_in (i := 52) (by decide +kernel) (by decide +kernel)
theorem k_20 : (Jvm.Cond.methodLink "RobotFaultsLaw" (81 : Nat) ({ cls := "RobotFaults", name := "<init>", desc := "()V" } : Jvm.MethodName)) ∈ os_tb := os_in (i := 53) (by decide +kernel) (by decide +kernel)
theorem k_21 : (Jvm.Cond.instanceMethod ({ cls := "RobotFaults", name := "<init>", desc := "()V" } : Jvm.MethodName)) ∈ os_tb := os_in (i := 54) (by decide +kernel) (by decide +kernel)
theorem k_22 : (Jvm.Cond.code ({ cls := "RobotFaults", name := "<init>", desc := "()V" } : Jvm.MethodName) prog_1_method_1_code (2 : Nat) (Option.none : Option Jvm.ClassFile.FieldType)) ∈ os_tb := os_in (i := 55) (by decide +kernel) (by decide +kernel)
theorem k_23 : (Jvm.Cond.methodLink "RobotFaults" (1 : Nat) ({ cls := "java/lang/Object", name := "<init>", desc := "()V" } : Jvm.MethodName)) ∈ os_tb := os_in (i := 56) (by decide +kernel) (by decide +kernel)
theorem k_24 : (Jvm.Cond.instanceMethod ({ cls := "java/lang/Object", name := "<init>", desc := "()V" } : Jvm.MethodName)) ∈ os_tb := os_in (i := 57) (by decide +kernel) (by decide +kernel)
theorem k_25 : (Jvm.Cond.code ({ cls := "java/lang/Object", name := "<init>", desc := "()V" } : Jvm.MethodName) object_method_1_code (1 : Nat) (Option.none : Option Jvm.ClassFile.FieldType)) ∈ os_tb := os_in (i := 58) (by decide +kernel) (by decide +kernel)
theorem k_26 : (Jvm.Cond.classLink "RobotFaults" (7 : Nat) "RobotFaults$Track") ∈ os_tb := os_in (i := 59) (by decide +kernel) (by decide +kernel)
theorem k_27 : (Jvm.Cond.instantiable "RobotFaults$Track" (2 : Nat)) ∈ os_tb := os_in (i := 60) (by decide +kernel) (by decide +kernel)
theorem k_28 : (Jvm.Cond.methodLinkNest "RobotFaults" (9 : Nat) ({ cls := "RobotFaults$Track", name := "<init>", desc := "()V" } : Jvm.MethodName) "RobotFaults") ∈ os_tb := os_in (i := 61) (by decide +kernel) (by decide +kernel)
theorem k_29 : (Jvm.Cond.instanceMethod ({ cls := "RobotFaults$Track", name := "<init>", desc := "()V" } : Jvm.MethodName)) ∈ os_tb := os_in (i := 62) (by decide +kernel) (by decide +kernel)
theorem k_30 : (Jvm.Cond.code ({ cls := "RobotFaults$Track", name := "<init>", desc := "()V" } : Jvm.MethodName) prog_7_method_1_code (1 : Nat) (Option.none : Option Jvm.ClassFile.FieldType)) ∈ os_tb := os_in (i := 63) (by decide +kernel) (by decide +kernel)
theorem k_31 : (Jvm.Cond.methodLink "RobotFaults$Track" (3 : Nat) ({ cls := "java/lang/Object", name := "<init>", desc := "()V" } : Jvm.MethodName)) ∈ os_tb := os_in (i := 64) (by decide +kernel) (by decide +kernel)
theorem k_32 : (Jvm.Cond.fieldLink "RobotFaults$Track" (9 : Nat) "RobotFaults$Track" "neighbours" "[I") ∈ os_tb := os_in (i := 65) (by decide +kernel) (by decide +kernel)
theorem k_33 : (Jvm.Cond.fieldLink "RobotFaults$Track" (15 : Nat) "RobotFaults$Track" "size" "I") ∈ os_tb := os_in (i := 66) (by decide +kernel) (by decide +kernel)
theorem k_39 : (Jvm.Cond.arrayClass Jvm.ClassFile.FieldType.int) ∈ os_tb := os_in (i := 72) (by decide +kernel) (by decide +kernel)
theorem k_40 : (Jvm.Cond.classLink "RobotFaults" (16 : Nat) "RobotFaults$Rule") ∈ os_tb := os_in (i := 73) (by decide +kernel) (by decide +kernel)
theorem k_41 : (Jvm.Cond.arrayOver (Jvm.ClassFile.FieldType.object "RobotFaults$Rule")) ∈ os_tb := os_in (i := 74) (by decide +kernel) (by decide +kernel)
theorem k_42 : (Jvm.Cond.classLink "RobotFaults" (22 : Nat) "RobotFaults$Robot") ∈ os_tb := os_in (i := 75) (by decide +kernel) (by decide +kernel)
theorem k_43 : (Jvm.Cond.arrayOver (Jvm.ClassFile.FieldType.object "RobotFaults$Robot")) ∈ os_tb := os_in (i := 76) (by decide +kernel) (by decide +kernel)
theorem k_44 : (Jvm.Cond.classLink "RobotFaults" (28 : Nat) "RobotFaults$Fault") ∈ os_tb := os_in (i := 77) (by decide +kernel) (by decide +kernel)
theorem k_45 : (Jvm.Cond.arrayOver (Jvm.ClassFile.FieldType.object "RobotFaults$Fault")) ∈ os_tb := os_in (i := 78) (by decide +kernel) (by decide +kernel)
theorem k_46 : (Jvm.Cond.classLink "RobotFaults" (34 : Nat) "RobotFaults$Alarm") ∈ os_tb := os_in (i := 79) (by decide +kernel) (by decide +kernel)
theorem k_47 : (Jvm.Cond.arrayOver (Jvm.ClassFile.FieldType.object "RobotFaults$Alarm")) ∈ os_tb := os_in (i := 80) (by decide +kernel) (by decide +kernel)
theorem k_48 : (Jvm.Cond.classLink "RobotFaults" (40 : Nat) "RobotFaults$Planted") ∈ os_tb := os_in (i := 81) (by decide +kernel) (by decide +kernel)
theorem k_49 : (Jvm.Cond.arrayOver (Jvm.ClassFile.FieldType.object "RobotFaults$Planted")) ∈ os_tb := os_in (i := 82) (by decide +kernel) (by decide +kernel)
theorem k_50 : (Jvm.Cond.instantiable "RobotFaults$Rule" (3 : Nat)) ∈ os_tb := os_in (i := 83) (by decide +kernel) (by decide +kernel)
theorem k_51 : (Jvm.Cond.methodLinkNest "RobotFaults" (46 : Nat) ({ cls := "RobotFaults$Rule", name := "<init>", desc := "()V" } : Jvm.MethodName) "RobotFaults") ∈ os_tb := os_in (i := 84) (by decide +kernel) (by decide +kernel)
theorem k_52 : (Jvm.Cond.instanceMethod ({ cls := "RobotFaults$Rule", name := "<init>", desc := "()V" } : Jvm.MethodName)) ∈ os_tb := os_in (i := 85) (by decide +kernel) (by decide +kernel)
theorem k_53 : (Jvm.Cond.code ({ cls := "RobotFaults$Rule", name := "<init>", desc := "()V" } : Jvm.MethodName) prog_6_method_1_code (1 : Nat) (Option.none : Option Jvm.ClassFile.FieldType)) ∈ os_tb := os_in (i := 86) (by decide +kernel) (by decide +kernel)
theorem k_54 : (Jvm.Cond.methodLink "RobotFaults$Rule" (1 : Nat) ({ cls := "java/lang/Object", name := "<init>", desc := "()V" } : Jvm.MethodName)) ∈ os_tb := os_in (i := 87) (by decide +kernel) (by decide +kernel)
theorem k_55 : (Jvm.Cond.fieldLink "RobotFaults$Rule" (7 : Nat) "RobotFaults$Rule" "persons" "I") ∈ os_tb := os_in (i := 88) (by decide +kernel) (by decide +kernel)
theorem k_56 : (Jvm.Cond.fieldLinkNest "RobotFaults" (327 : Nat) "RobotFaults$Rule" "persons" "I" "RobotFaults") ∈ os_tb := os_in (i := 89) (by decide +kernel) (by decide +kernel)
theorem k_57 : (Jvm.Cond.fieldLink "RobotFaults$Rule" (13 : Nat) "RobotFaults$Rule" "test" "Z") ∈ os_tb := os_in (i := 90) (by decide +kernel) (by decide +kernel)
theorem k_58 : (Jvm.Cond.fieldLinkNest "RobotFaults" (338 : Nat) "RobotFaults$Rule" "test" "Z" "RobotFaults") ∈ os_tb := os_in (i := 91) (by decide +kernel) (by decide +kernel)
theorem k_59 : (Jvm.Cond.fieldLink "RobotFaults$Rule" (17 : Nat) "RobotFaults$Rule" "rank" "I") ∈ os_tb := os_in (i := 92) (by decide +kernel) (by decide +kernel)
theorem k_60 : (Jvm.Cond.fieldLinkNest "RobotFaults" (333 : Nat) "RobotFaults$Rule" "rank" "I" "RobotFaults") ∈ os_tb := os_in (i := 93) (by decide +kernel) (by decide +kernel)
theorem k_68 : (Jvm.Cond.fieldLink "RobotFaults" (10 : Nat) "RobotFaults" "track" "LRobotFaults$Track;") ∈ os_tb := os_in (i := 101) (by decide +kernel) (by decide +kernel)
theorem k_69 : (Jvm.Cond.fieldLink "RobotFaults" (18 : Nat) "RobotFaults" "rules" "[LRobotFaults$Rule;") ∈ os_tb := os_in (i := 102) (by decide +kernel) (by decide +kernel)
theorem k_70 : (Jvm.Cond.fieldLink "RobotFaults" (24 : Nat) "RobotFaults" "robots" "[LRobotFaults$Robot;") ∈ os_tb := os_in (i := 103) (by decide +kernel) (by decide +kernel)
theorem k_71 : (Jvm.Cond.fieldLink "RobotFaults" (30 : Nat) "RobotFaults" "faults" "[LRobotFaults$Fault;") ∈ os_tb := os_in (i := 104) (by decide +kernel) (by decide +kernel)
theorem k_72 : (Jvm.Cond.fieldLink "RobotFaults" (36 : Nat) "RobotFaults" "alarms" "[LRobotFaults$Alarm;") ∈ os_tb := os_in (i := 105) (by decide +kernel) (by decide +kernel)
theorem k_73 : (Jvm.Cond.fieldLink "RobotFaults" (42 : Nat) "RobotFaults" "plants" "[LRobotFaults$Planted;") ∈ os_tb := os_in (i := 106) (by decide +kernel) (by decide +kernel)
theorem k_74 : (Jvm.Cond.fieldLink "RobotFaults" (75 : Nat) "RobotFaults" "robotCount" "I") ∈ os_tb := os_in (i := 107) (by decide +kernel) (by decide +kernel)
theorem k_75 : (Jvm.Cond.fieldLink "RobotFaults" (283 : Nat) "RobotFaults" "faultCount" "I") ∈ os_tb := os_in (i := 108) (by decide +kernel) (by decide +kernel)
theorem k_76 : (Jvm.Cond.fieldLink "RobotFaults" (289 : Nat) "RobotFaults" "alarmCount" "I") ∈ os_tb := os_in (i := 109) (by decide +kernel) (by decide +kernel)
theorem k_77 : (Jvm.Cond.fieldLink "RobotFaults" (197 : Nat) "RobotFaults" "plantCount" "I") ∈ os_tb := os_in (i := 110) (by decide +kernel) (by decide +kernel)
theorem k_78 : (Jvm.Cond.fieldLink "RobotFaults" (158 : Nat) "RobotFaults" "time" "I") ∈ os_tb := os_in (i := 111) (by decide +kernel) (by decide +kernel)
theorem k_102 : (Jvm.Cond.methodLink "RobotFaultsLaw" (154 : Nat) ({ cls := "RobotFaults", name := "first", desc := "()I" } : Jvm.MethodName)) ∈ os_tb := os_in (i := 135) (by decide +kernel) (by decide +kernel)
theorem k_103 : (Jvm.Cond.instanceMethod ({ cls := "RobotFaults", name := "first", desc := "()I" } : Jvm.MethodName)) ∈ os_tb := os_in (i := 136) (by decide +kernel) (by decide +kernel)
theorem k_104 : (Jvm.Cond.selects "RobotFaults" ({ cls := "RobotFaults", name := "first", desc := "()I" } : Jvm.MethodName) ({ cls := "RobotFaults", name := "first", desc := "()I" } : Jvm.MethodName)) ∈ os_tb := os_in (i := 137) (by decide +kernel) (by decide +kernel)
theorem k_105 : (Jvm.Cond.code ({ cls := "RobotFaults", name := "first", desc := "()I" } : Jvm.MethodName) prog_1_method_21_code (5 : Nat) (Option.some Jvm.ClassFile.FieldType.int)) ∈ os_tb := os_in (i := 138) (by decide +kernel) (by decide +kernel)
theorem k_106 : (Jvm.Cond.methodLink "RobotFaults" (224 : Nat) ({ cls := "RobotFaults$Alarm", name := "isAcknowledged", desc := "()Z" } : Jvm.MethodName)) ∈ os_tb := os_in (i := 139) (by decide +kernel) (by decide +kernel)
theorem k_107 : (Jvm.Cond.instanceMethod ({ cls := "RobotFaults$Alarm", name := "isAcknowledged", desc := "()Z" } : Jvm.MethodName)) ∈ os_tb := os_in (i := 140) (by decide +kernel) (by decide +kernel)
theorem k_108 : (Jvm.Cond.selects "RobotFaults$Alarm" ({ cls := "RobotFaults$Alarm", name := "isAcknowledged", desc := "()Z" } : Jvm.MethodName) ({ cls := "RobotFaults$Alarm", name := "isAcknowledged", desc := "()Z" } : Jvm.MethodName)) ∈ os_tb := os_in (i := 141) (by decide +kernel) (by decide +kernel)
theorem k_109 : (Jvm.Cond.code ({ cls := "RobotFaults$Alarm", name := "isAcknowledged", desc := "()Z" } : Jvm.MethodName) prog_2_method_2_code (1 : Nat) (Option.some Jvm.ClassFile.FieldType.boolean)) ∈ os_tb := os_in (i := 142) (by decide +kernel) (by decide +kernel)
theorem k_110 : (Jvm.Cond.methodLink "RobotFaults" (276 : Nat) ({ cls := "RobotFaults$Alarm", name := "comesBefore", desc := "(LRobotFaults$Alarm;)Z" } : Jvm.MethodName)) ∈ os_tb := os_in (i := 143) (by decide +kernel) (by decide +kernel)
theorem k_111 : (Jvm.Cond.instanceMethod ({ cls := "RobotFaults$Alarm", name := "comesBefore", desc := "(LRobotFaults$Alarm;)Z" } : Jvm.MethodName)) ∈ os_tb := os_in (i := 144) (by decide +kernel) (by decide +kernel)
theorem k_112 : (Jvm.Cond.selects "RobotFaults$Alarm" ({ cls := "RobotFaults$Alarm", name := "comesBefore", desc := "(LRobotFaults$Alarm;)Z" } : Jvm.MethodName) ({ cls := "RobotFaults$Alarm", name := "comesBefore", desc := "(LRobotFaults$Alarm;)Z" } : Jvm.MethodName)) ∈ os_tb := os_in (i := 145) (by decide +kernel) (by decide +kernel)
theorem k_113 : (Jvm.Cond.code ({ cls := "RobotFaults$Alarm", name := "comesBefore", desc := "(LRobotFaults$Alarm;)Z" } : Jvm.MethodName) prog_2_method_7_code (2 : Nat) (Option.some Jvm.ClassFile.FieldType.boolean)) ∈ os_tb := os_in (i := 146) (by decide +kernel) (by decide +kernel)
theorem k_114 : (Jvm.Cond.methodLink "RobotFaultsLaw" (158 : Nat) ({ cls := "RobotFaults", name := "count", desc := "(I)I" } : Jvm.MethodName)) ∈ os_tb := os_in (i := 147) (by decide +kernel) (by decide +kernel)
theorem k_115 : (Jvm.Cond.instanceMethod ({ cls := "RobotFaults", name := "count", desc := "(I)I" } : Jvm.MethodName)) ∈ os_tb := os_in (i := 148) (by decide +kernel) (by decide +kernel)
theorem k_116 : (Jvm.Cond.selects "RobotFaults" ({ cls := "RobotFaults", name := "count", desc := "(I)I" } : Jvm.MethodName) ({ cls := "RobotFaults", name := "count", desc := "(I)I" } : Jvm.MethodName)) ∈ os_tb := os_in (i := 149) (by decide +kernel) (by decide +kernel)
theorem k_117 : (Jvm.Cond.code ({ cls := "RobotFaults", name := "count", desc := "(I)I" } : Jvm.MethodName) prog_1_method_22_code (2 : Nat) (Option.some Jvm.ClassFile.FieldType.int)) ∈ os_tb := os_in (i := 150) (by decide +kernel) (by decide +kernel)
theorem k_118 : (Jvm.Cond.methodLink "RobotFaults" (280 : Nat) ({ cls := "RobotFaults$Track", name := "size", desc := "()I" } : Jvm.MethodName)) ∈ os_tb := os_in (i := 151) (by decide +kernel) (by decide +kernel)
theorem k_119 : (Jvm.Cond.instanceMethod ({ cls := "RobotFaults$Track", name := "size", desc := "()I" } : Jvm.MethodName)) ∈ os_tb := os_in (i := 152) (by decide +kernel) (by decide +kernel)
theorem k_120 : (Jvm.Cond.selects "RobotFaults$Track" ({ cls := "RobotFaults$Track", name := "size", desc := "()I" } : Jvm.MethodName) ({ cls := "RobotFaults$Track", name := "size", desc := "()I" } : Jvm.MethodName)) ∈ os_tb := os_in (i := 153) (by decide +kernel) (by decide +kernel)
theorem k_121 : (Jvm.Cond.code ({ cls := "RobotFaults$Track", name := "size", desc := "()I" } : Jvm.MethodName) prog_7_method_2_code (1 : Nat) (Option.some Jvm.ClassFile.FieldType.int)) ∈ os_tb := os_in (i := 154) (by decide +kernel) (by decide +kernel)
theorem k_122 : (Jvm.Cond.methodLink "RobotFaults" (286 : Nat) ({ cls := "RobotFaults", name := "openFaultCount", desc := "()I" } : Jvm.MethodName)) ∈ os_tb := os_in (i := 155) (by decide +kernel) (by decide +kernel)
theorem k_124 : (Jvm.Cond.instanceMethod ({ cls := "RobotFaults", name := "openFaultCount", desc := "()I" } : Jvm.MethodName)) ∈ os_tb := os_in (i := 157) (by decide +kernel) (by decide +kernel)
theorem k_125 : (Jvm.Cond.code ({ cls := "RobotFaults", name := "openFaultCount", desc := "()I" } : Jvm.MethodName) prog_1_method_44_code (6 : Nat) (Option.some Jvm.ClassFile.FieldType.int)) ∈ os_tb := os_in (i := 158) (by decide +kernel) (by decide +kernel)
theorem k_126 : (Jvm.Cond.methodLink "RobotFaults" (147 : Nat) ({ cls := "RobotFaults$Fault", name := "isOpen", desc := "()Z" } : Jvm.MethodName)) ∈ os_tb := os_in (i := 159) (by decide +kernel) (by decide +kernel)
theorem k_127 : (Jvm.Cond.instanceMethod ({ cls := "RobotFaults$Fault", name := "isOpen", desc := "()Z" } : Jvm.MethodName)) ∈ os_tb := os_in (i := 160) (by decide +kernel) (by decide +kernel)
theorem k_128 : (Jvm.Cond.selects "RobotFaults$Fault" ({ cls := "RobotFaults$Fault", name := "isOpen", desc := "()Z" } : Jvm.MethodName) ({ cls := "RobotFaults$Fault", name := "isOpen", desc := "()Z" } : Jvm.MethodName)) ∈ os_tb := os_in (i := 161) (by decide +kernel) (by decide +kernel)
theorem k_129 : (Jvm.Cond.code ({ cls := "RobotFaults$Fault", name := "isOpen", desc := "()Z" } : Jvm.MethodName) prog_3_method_2_code (1 : Nat) (Option.some Jvm.ClassFile.FieldType.boolean)) ∈ os_tb := os_in (i := 162) (by decide +kernel) (by decide +kernel)
theorem k_130 : (Jvm.Cond.methodLink "RobotFaults" (292 : Nat) ({ cls := "RobotFaults", name := "unheardAlarmCount", desc := "()I" } : Jvm.MethodName)) ∈ os_tb := os_in (i := 163) (by decide +kernel) (by decide +kernel)
theorem k_132 : (Jvm.Cond.instanceMethod ({ cls := "RobotFaults", name := "unheardAlarmCount", desc := "()I" } : Jvm.MethodName)) ∈ os_tb := os_in (i := 165) (by decide +kernel) (by decide +kernel)
theorem k_133 : (Jvm.Cond.code ({ cls := "RobotFaults", name := "unheardAlarmCount", desc := "()I" } : Jvm.MethodName) prog_1_method_45_code (6 : Nat) (Option.some Jvm.ClassFile.FieldType.int)) ∈ os_tb := os_in (i := 166) (by decide +kernel) (by decide +kernel)
theorem k_134 : (Jvm.Cond.methodLink "RobotFaults" (295 : Nat) ({ cls := "RobotFaults", name := "openSeconds", desc := "()I" } : Jvm.MethodName)) ∈ os_tb := os_in (i := 167) (by decide +kernel) (by decide +kernel)
theorem k_136 : (Jvm.Cond.instanceMethod ({ cls := "RobotFaults", name := "openSeconds", desc := "()I" } : Jvm.MethodName)) ∈ os_tb := os_in (i := 169) (by decide +kernel) (by decide +kernel)
theorem k_137 : (Jvm.Cond.code ({ cls := "RobotFaults", name := "openSeconds", desc := "()I" } : Jvm.MethodName) prog_1_method_46_code (6 : Nat) (Option.some Jvm.ClassFile.FieldType.int)) ∈ os_tb := os_in (i := 170) (by decide +kernel) (by decide +kernel)
theorem k_138 : (Jvm.Cond.methodLink "RobotFaults" (384 : Nat) ({ cls := "RobotFaults$Fault", name := "openSecondsUntil", desc := "(I)I" } : Jvm.MethodName)) ∈ os_tb := os_in (i := 171) (by decide +kernel) (by decide +kernel)
theorem k_139 : (Jvm.Cond.instanceMethod ({ cls := "RobotFaults$Fault", name := "openSecondsUntil", desc := "(I)I" } : Jvm.MethodName)) ∈ os_tb := os_in (i := 172) (by decide +kernel) (by decide +kernel)
theorem k_140 : (Jvm.Cond.selects "RobotFaults$Fault" ({ cls := "RobotFaults$Fault", name := "openSecondsUntil", desc := "(I)I" } : Jvm.MethodName) ({ cls := "RobotFaults$Fault", name := "openSecondsUntil", desc := "(I)I" } : Jvm.MethodName)) ∈ os_tb := os_in (i := 173) (by decide +kernel) (by decide +kernel)
theorem k_141 : (Jvm.Cond.code ({ cls := "RobotFaults$Fault", name := "openSecondsUntil", desc := "(I)I" } : Jvm.MethodName) prog_3_method_4_code (2 : Nat) (Option.some Jvm.ClassFile.FieldType.int)) ∈ os_tb := os_in (i := 174) (by decide +kernel) (by decide +kernel)
theorem k_142 : (Jvm.Cond.methodLink "RobotFaults$Fault" (59 : Nat) ({ cls := "RobotFaults$Fault", name := "isOpen", desc := "()Z" } : Jvm.MethodName)) ∈ os_tb := os_in (i := 175) (by decide +kernel) (by decide +kernel)
theorem k_143 : (Jvm.Cond.methodLink "RobotFaultsLaw" (85 : Nat) ({ cls := "RobotFaultsLaw", name := "piece", desc := "(LRobotFaults;[J)I" } : Jvm.MethodName)) ∈ os_tb := os_in (i := 176) (by decide +kernel) (by decide +kernel)
theorem k_144 : (Jvm.Cond.static ({ cls := "RobotFaultsLaw", name := "piece", desc := "(LRobotFaults;[J)I" } : Jvm.MethodName)) ∈ os_tb := os_in (i := 177) (by decide +kernel) (by decide +kernel)
theorem k_146 : (Jvm.Cond.classLink "RobotFaultsLaw" (13 : Nat) "java/lang/UnsupportedOperationException") ∈ os_tb := os_in (i := 179) (by decide +kernel) (by decide +kernel)
theorem k_147 : (Jvm.Cond.methodLink "RobotFaultsLaw" (7 : Nat) ({ cls := "RobotFaults", name := "piece", desc := "()I" } : Jvm.MethodName)) ∈ os_tb := os_in (i := 180) (by decide +kernel) (by decide +kernel)
theorem k_148 : (Jvm.Cond.instanceMethod ({ cls := "RobotFaults", name := "piece", desc := "()I" } : Jvm.MethodName)) ∈ os_tb := os_in (i := 181) (by decide +kernel) (by decide +kernel)
theorem k_149 : (Jvm.Cond.selects "RobotFaults" ({ cls := "RobotFaults", name := "piece", desc := "()I" } : Jvm.MethodName) ({ cls := "RobotFaults", name := "piece", desc := "()I" } : Jvm.MethodName)) ∈ os_tb := os_in (i := 182) (by decide +kernel) (by decide +kernel)
theorem k_150 : (Jvm.Cond.code ({ cls := "RobotFaults", name := "piece", desc := "()I" } : Jvm.MethodName) prog_1_method_2_code (1 : Nat) (Option.some Jvm.ClassFile.FieldType.int)) ∈ os_tb := os_in (i := 183) (by decide +kernel) (by decide +kernel)
theorem k_151 : (Jvm.Cond.methodLink "RobotFaults" (47 : Nat) ({ cls := "RobotFaults$Track", name := "isFull", desc := "()Z" } : Jvm.MethodName)) ∈ os_tb := os_in (i := 184) (by decide +kernel) (by decide +kernel)
theorem k_152 : (Jvm.Cond.instanceMethod ({ cls := "RobotFaults$Track", name := "isFull", desc := "()Z" } : Jvm.MethodName)) ∈ os_tb := os_in (i := 185) (by decide +kernel) (by decide +kernel)
theorem k_153 : (Jvm.Cond.selects "RobotFaults$Track" ({ cls := "RobotFaults$Track", name := "isFull", desc := "()Z" } : Jvm.MethodName) ({ cls := "RobotFaults$Track", name := "isFull", desc := "()Z" } : Jvm.MethodName)) ∈ os_tb := os_in (i := 186) (by decide +kernel) (by decide +kernel)
theorem k_154 : (Jvm.Cond.code ({ cls := "RobotFaults$Track", name := "isFull", desc := "()Z" } : Jvm.MethodName) prog_7_method_3_code (1 : Nat) (Option.some Jvm.ClassFile.FieldType.boolean)) ∈ os_tb := os_in (i := 187) (by decide +kernel) (by decide +kernel)
theorem k_155 : (Jvm.Cond.classLink "RobotFaults" (51 : Nat) "java/lang/UnsupportedOperationException") ∈ os_tb := os_in (i := 188) (by decide +kernel) (by decide +kernel)
theorem k_156 : (Jvm.Cond.instantiable "java/lang/UnsupportedOperationException" (6 : Nat)) ∈ os_tb := os_in (i := 189) (by decide +kernel) (by decide +kernel)
theorem k_157 : (Jvm.Cond.castable "java/lang/UnsupportedOperationException" "java/lang/UnsupportedOperationException") ∈ os_tb := os_in (i := 190) (by decide +kernel) (by decide +kernel)
theorem k_158 : (Jvm.Cond.declares ({ cls := "java/lang/RuntimeException", name := "<init>", desc := "()V" } : Jvm.MethodName)) ∈ os_tb := os_in (i := 191) (by decide +kernel) (by decide +kernel)
theorem k_159 : (Jvm.Cond.declares ({ cls := "java/lang/RuntimeException", name := "<init>", desc := "(Ljava/lang/String;)V" } : Jvm.MethodName)) ∈ os_tb := os_in (i := 192) (by decide +kernel) (by decide +kernel)
theorem k_160 : (Jvm.Cond.declares ({ cls := "java/lang/Exception", name := "<init>", desc := "()V" } : Jvm.MethodName)) ∈ os_tb := os_in (i := 193) (by decide +kernel) (by decide +kernel)
theorem k_161 : (Jvm.Cond.declares ({ cls := "java/lang/Exception", name := "<init>", desc := "(Ljava/lang/String;)V" } : Jvm.MethodName)) ∈ os_tb := os_in (i := 194) (by decide +kernel) (by decide +kernel)
theorem k_162 : (Jvm.Cond.declares ({ cls := "java/lang/Throwable", name := "<init>", desc := "()V" } : Jvm.MethodName)) ∈ os_tb := os_in (i := 195) (by decide +kernel) (by decide +kernel)
theorem k_163 : (Jvm.Cond.declares ({ cls := "java/lang/Throwable", name := "<init>", desc := "(Ljava/lang/String;)V" } : Jvm.MethodName)) ∈ os_tb := os_in (i := 196) (by decide +kernel) (by decide +kernel)
theorem k_164 : (Jvm.Cond.selects "java/lang/UnsupportedOperationException" ({ cls := "java/lang/Throwable", name := "fillInStackTrace", desc := "(I)Ljava/lang/Throwable;" } : Jvm.MethodName) ({ cls := "java/lang/Throwable", name := "fillInStackTrace", desc := "(I)Ljava/lang/Throwable;" } : Jvm.MethodName)) ∈ os_tb := os_in (i := 197) (by decide +kernel) (by decide +kernel)
theorem k_165 : (Jvm.Cond.selects "java/lang/UnsupportedOperationException" ({ cls := "java/lang/Throwable", name := "fillInStackTrace", desc := "()Ljava/lang/Throwable;" } : Jvm.MethodName) ({ cls := "java/lang/Throwable", name := "fillInStackTrace", desc := "()Ljava/lang/Throwable;" } : Jvm.MethodName)) ∈ os_tb := os_in (i := 198) (by decide +kernel) (by decide +kernel)
theorem k_176 : (Jvm.Cond.fieldLink "java/lang/Throwable" (198 : Nat) "java/lang/Throwable" "backtrace" "Ljava/lang/Object;") ∈ os_tb := os_in (i := 209) (by decide +kernel) (by decide +kernel)
theorem k_178 : (Jvm.Cond.instanceMethod ({ cls := "java/lang/Throwable", name := "<init>", desc := "()V" } : Jvm.MethodName)) ∈ os_tb := os_in (i := 211) (by decide +kernel) (by decide +kernel)
theorem k_179 : (Jvm.Cond.code ({ cls := "java/lang/Throwable", name := "<init>", desc := "()V" } : Jvm.MethodName) prog_17_method_1_code (1 : Nat) (Option.none : Option Jvm.ClassFile.FieldType)) ∈ os_tb := os_in (i := 212) (by decide +kernel) (by decide +kernel)
theorem k_180 : (Jvm.Cond.methodLink "java/lang/Throwable" (1 : Nat) ({ cls := "java/lang/Object", name := "<init>", desc := "()V" } : Jvm.MethodName)) ∈ os_tb := os_in (i := 213) (by decide +kernel) (by decide +kernel)
theorem k_181 : (Jvm.Cond.fieldLink "java/lang/Throwable" (13 : Nat) "java/lang/Throwable" "UNASSIGNED_STACK" "[Ljava/lang/StackTraceElement;") ∈ os_tb := os_in (i := 214) (by decide +kernel) (by decide +kernel)
theorem k_183 : (Jvm.Cond.fieldLink "java/lang/Throwable" (20 : Nat) "java/lang/Throwable" "SUPPRESSED_SENTINEL" "Ljava/util/List;") ∈ os_tb := os_in (i := 216) (by decide +kernel) (by decide +kernel)
theorem k_185 : (Jvm.Cond.methodLink "java/lang/Throwable" (27 : Nat) ({ cls := "java/lang/Throwable", name := "fillInStackTrace", desc := "()Ljava/lang/Throwable;" } : Jvm.MethodName)) ∈ os_tb := os_in (i := 218) (by decide +kernel) (by decide +kernel)
theorem k_186 : (Jvm.Cond.instanceMethod ({ cls := "java/lang/Throwable", name := "fillInStackTrace", desc := "()Ljava/lang/Throwable;" } : Jvm.MethodName)) ∈ os_tb := os_in (i := 219) (by decide +kernel) (by decide +kernel)
theorem k_188 : (Jvm.Cond.selects "java/lang/IllegalArgumentException" ({ cls := "java/lang/Throwable", name := "fillInStackTrace", desc := "()Ljava/lang/Throwable;" } : Jvm.MethodName) ({ cls := "java/lang/Throwable", name := "fillInStackTrace", desc := "()Ljava/lang/Throwable;" } : Jvm.MethodName)) ∈ os_tb := os_in (i := 221) (by decide +kernel) (by decide +kernel)
theorem k_189 : (Jvm.Cond.selects "java/lang/IllegalStateException" ({ cls := "java/lang/Throwable", name := "fillInStackTrace", desc := "()Ljava/lang/Throwable;" } : Jvm.MethodName) ({ cls := "java/lang/Throwable", name := "fillInStackTrace", desc := "()Ljava/lang/Throwable;" } : Jvm.MethodName)) ∈ os_tb := os_in (i := 222) (by decide +kernel) (by decide +kernel)
theorem k_190 : (Jvm.Cond.selects "java/util/NoSuchElementException" ({ cls := "java/lang/Throwable", name := "fillInStackTrace", desc := "()Ljava/lang/Throwable;" } : Jvm.MethodName) ({ cls := "java/lang/Throwable", name := "fillInStackTrace", desc := "()Ljava/lang/Throwable;" } : Jvm.MethodName)) ∈ os_tb := os_in (i := 223) (by decide +kernel) (by decide +kernel)
theorem k_192 : (Jvm.Cond.methodLink "java/lang/Throwable" (202 : Nat) ({ cls := "java/lang/Throwable", name := "fillInStackTrace", desc := "(I)Ljava/lang/Throwable;" } : Jvm.MethodName)) ∈ os_tb := os_in (i := 225) (by decide +kernel) (by decide +kernel)
theorem k_194 : (Jvm.Cond.instanceMethod ({ cls := "java/lang/Throwable", name := "fillInStackTrace", desc := "(I)Ljava/lang/Throwable;" } : Jvm.MethodName)) ∈ os_tb := os_in (i := 227) (by decide +kernel) (by decide +kernel)
theorem k_195 : (Jvm.Cond.instantiable "java/lang/Throwable" (6 : Nat)) ∈ os_tb := os_in (i := 228) (by decide +kernel) (by decide +kernel)
theorem k_198 : (Jvm.Cond.methodLink "RobotFaults" (55 : Nat) ({ cls := "java/lang/UnsupportedOperationException", name := "<init>", desc := "(Ljava/lang/String;)V" } : Jvm.MethodName)) ∈ os_tb := os_in (i := 231) (by decide +kernel) (by decide +kernel)
theorem k_199 : (Jvm.Cond.instanceMethod ({ cls := "java/lang/UnsupportedOperationException", name := "<init>", desc := "(Ljava/lang/String;)V" } : Jvm.MethodName)) ∈ os_tb := os_in (i := 232) (by decide +kernel) (by decide +kernel)
theorem k_200 : (Jvm.Cond.code ({ cls := "java/lang/UnsupportedOperationException", name := "<init>", desc := "(Ljava/lang/String;)V" } : Jvm.MethodName) prog_18_method_2_code (2 : Nat) (Option.none : Option Jvm.ClassFile.FieldType)) ∈ os_tb := os_in (i := 233) (by decide +kernel) (by decide +kernel)
theorem k_201 : (Jvm.Cond.methodLink "java/lang/UnsupportedOperationException" (7 : Nat) ({ cls := "java/lang/RuntimeException", name := "<init>", desc := "(Ljava/lang/String;)V" } : Jvm.MethodName)) ∈ os_tb := os_in (i := 234) (by decide +kernel) (by decide +kernel)
theorem k_202 : (Jvm.Cond.instanceMethod ({ cls := "java/lang/RuntimeException", name := "<init>", desc := "(Ljava/lang/String;)V" } : Jvm.MethodName)) ∈ os_tb := os_in (i := 235) (by decide +kernel) (by decide +kernel)
theorem k_203 : (Jvm.Cond.code ({ cls := "java/lang/RuntimeException", name := "<init>", desc := "(Ljava/lang/String;)V" } : Jvm.MethodName) prog_15_method_2_code (2 : Nat) (Option.none : Option Jvm.ClassFile.FieldType)) ∈ os_tb := os_in (i := 236) (by decide +kernel) (by decide +kernel)
theorem k_204 : (Jvm.Cond.methodLink "java/lang/RuntimeException" (7 : Nat) ({ cls := "java/lang/Exception", name := "<init>", desc := "(Ljava/lang/String;)V" } : Jvm.MethodName)) ∈ os_tb := os_in (i := 237) (by decide +kernel) (by decide +kernel)
theorem k_205 : (Jvm.Cond.instanceMethod ({ cls := "java/lang/Exception", name := "<init>", desc := "(Ljava/lang/String;)V" } : Jvm.MethodName)) ∈ os_tb := os_in (i := 238) (by decide +kernel) (by decide +kernel)
theorem k_206 : (Jvm.Cond.code ({ cls := "java/lang/Exception", name := "<init>", desc := "(Ljava/lang/String;)V" } : Jvm.MethodName) prog_10_method_2_code (2 : Nat) (Option.none : Option Jvm.ClassFile.FieldType)) ∈ os_tb := os_in (i := 239) (by decide +kernel) (by decide +kernel)
theorem k_207 : (Jvm.Cond.methodLink "java/lang/Exception" (7 : Nat) ({ cls := "java/lang/Throwable", name := "<init>", desc := "(Ljava/lang/String;)V" } : Jvm.MethodName)) ∈ os_tb := os_in (i := 240) (by decide +kernel) (by decide +kernel)
theorem k_208 : (Jvm.Cond.instanceMethod ({ cls := "java/lang/Throwable", name := "<init>", desc := "(Ljava/lang/String;)V" } : Jvm.MethodName)) ∈ os_tb := os_in (i := 241) (by decide +kernel) (by decide +kernel)
theorem k_209 : (Jvm.Cond.code ({ cls := "java/lang/Throwable", name := "<init>", desc := "(Ljava/lang/String;)V" } : Jvm.MethodName) prog_17_method_2_code (2 : Nat) (Option.none : Option Jvm.ClassFile.FieldType)) ∈ os_tb := os_in (i := 242) (by decide +kernel) (by decide +kernel)
theorem k_210 : (Jvm.Cond.fieldLink "java/lang/Throwable" (198 : Nat) "java/lang/Throwable" "backtrace" "Ljava/lang/Object;") ∈ os_tb := os_in (i := 243) (by decide +kernel) (by decide +kernel)
theorem k_211 : (Jvm.Cond.fieldLink "java/lang/Throwable" (31 : Nat) "java/lang/Throwable" "detailMessage" "Ljava/lang/String;") ∈ os_tb := os_in (i := 244) (by decide +kernel) (by decide +kernel)
theorem k_212 : (Jvm.Cond.fieldLink "java/lang/Throwable" (7 : Nat) "java/lang/Throwable" "cause" "Ljava/lang/Throwable;") ∈ os_tb := os_in (i := 245) (by decide +kernel) (by decide +kernel)
theorem k_213 : (Jvm.Cond.fieldLink "java/lang/Throwable" (17 : Nat) "java/lang/Throwable" "stackTrace" "[Ljava/lang/StackTraceElement;") ∈ os_tb := os_in (i := 246) (by decide +kernel) (by decide +kernel)
theorem k_214 : (Jvm.Cond.fieldLink "java/lang/Throwable" (24 : Nat) "java/lang/Throwable" "suppressedExceptions" "Ljava/util/List;") ∈ os_tb := os_in (i := 247) (by decide +kernel) (by decide +kernel)
theorem k_223 : (Jvm.Cond.arrayClass Jvm.ClassFile.FieldType.byte) ∈ os_tb := os_in (i := 256) (by decide +kernel) (by decide +kernel)
theorem k_224 : (Jvm.Cond.methodLink "RobotFaults" (58 : Nat) ({ cls := "RobotFaults$Track", name := "add", desc := "()I" } : Jvm.MethodName)) ∈ os_tb := os_in (i := 257) (by decide +kernel) (by decide +kernel)
theorem k_225 : (Jvm.Cond.instanceMethod ({ cls := "RobotFaults$Track", name := "add", desc := "()I" } : Jvm.MethodName)) ∈ os_tb := os_in (i := 258) (by decide +kernel) (by decide +kernel)
theorem k_226 : (Jvm.Cond.selects "RobotFaults$Track" ({ cls := "RobotFaults$Track", name := "add", desc := "()I" } : Jvm.MethodName) ({ cls := "RobotFaults$Track", name := "add", desc := "()I" } : Jvm.MethodName)) ∈ os_tb := os_in (i := 259) (by decide +kernel) (by decide +kernel)
theorem k_227 : (Jvm.Cond.code ({ cls := "RobotFaults$Track", name := "add", desc := "()I" } : Jvm.MethodName) prog_7_method_5_code (2 : Nat) (Option.some Jvm.ClassFile.FieldType.int)) ∈ os_tb := os_in (i := 260) (by decide +kernel) (by decide +kernel)
theorem k_228 : (Jvm.Cond.methodLink "RobotFaultsLaw" (94 : Nat) ({ cls := "RobotFaultsLaw", name := "link", desc := "(LRobotFaults;II)I" } : Jvm.MethodName)) ∈ os_tb := os_in (i := 261) (by decide +kernel) (by decide +kernel)
theorem k_229 : (Jvm.Cond.static ({ cls := "RobotFaultsLaw", name := "link", desc := "(LRobotFaults;II)I" } : Jvm.MethodName)) ∈ os_tb := os_in (i := 262) (by decide +kernel) (by decide +kernel)
theorem k_231 : (Jvm.Cond.classLink "RobotFaultsLaw" (19 : Nat) "java/util/NoSuchElementException") ∈ os_tb := os_in (i := 264) (by decide +kernel) (by decide +kernel)
theorem k_232 : (Jvm.Cond.classLink "RobotFaultsLaw" (21 : Nat) "java/lang/IllegalArgumentException") ∈ os_tb := os_in (i := 265) (by decide +kernel) (by decide +kernel)
theorem k_233 : (Jvm.Cond.methodLink "RobotFaultsLaw" (15 : Nat) ({ cls := "RobotFaults", name := "link", desc := "(II)V" } : Jvm.MethodName)) ∈ os_tb := os_in (i := 266) (by decide +kernel) (by decide +kernel)
theorem k_234 : (Jvm.Cond.instanceMethod ({ cls := "RobotFaults", name := "link", desc := "(II)V" } : Jvm.MethodName)) ∈ os_tb := os_in (i := 267) (by decide +kernel) (by decide +kernel)
theorem k_235 : (Jvm.Cond.selects "RobotFaults" ({ cls := "RobotFaults", name := "link", desc := "(II)V" } : Jvm.MethodName) ({ cls := "RobotFaults", name := "link", desc := "(II)V" } : Jvm.MethodName)) ∈ os_tb := os_in (i := 268) (by decide +kernel) (by decide +kernel)
theorem k_236 : (Jvm.Cond.code ({ cls := "RobotFaults", name := "link", desc := "(II)V" } : Jvm.MethodName) prog_1_method_3_code (3 : Nat) (Option.none : Option Jvm.ClassFile.FieldType)) ∈ os_tb := os_in (i := 269) (by decide +kernel) (by decide +kernel)
theorem k_237 : (Jvm.Cond.methodLink "RobotFaults" (62 : Nat) ({ cls := "RobotFaults", name := "needPiece", desc := "(I)V" } : Jvm.MethodName)) ∈ os_tb := os_in (i := 270) (by decide +kernel) (by decide +kernel)
theorem k_239 : (Jvm.Cond.instanceMethod ({ cls := "RobotFaults", name := "needPiece", desc := "(I)V" } : Jvm.MethodName)) ∈ os_tb := os_in (i := 272) (by decide +kernel) (by decide +kernel)
theorem k_240 : (Jvm.Cond.code ({ cls := "RobotFaults", name := "needPiece", desc := "(I)V" } : Jvm.MethodName) prog_1_method_23_code (2 : Nat) (Option.none : Option Jvm.ClassFile.FieldType)) ∈ os_tb := os_in (i := 273) (by decide +kernel) (by decide +kernel)
theorem k_241 : (Jvm.Cond.methodLink "RobotFaults" (298 : Nat) ({ cls := "RobotFaults$Track", name := "has", desc := "(I)Z" } : Jvm.MethodName)) ∈ os_tb := os_in (i := 274) (by decide +kernel) (by decide +kernel)
theorem k_242 : (Jvm.Cond.instanceMethod ({ cls := "RobotFaults$Track", name := "has", desc := "(I)Z" } : Jvm.MethodName)) ∈ os_tb := os_in (i := 275) (by decide +kernel) (by decide +kernel)
theorem k_243 : (Jvm.Cond.selects "RobotFaults$Track" ({ cls := "RobotFaults$Track", name := "has", desc := "(I)Z" } : Jvm.MethodName) ({ cls := "RobotFaults$Track", name := "has", desc := "(I)Z" } : Jvm.MethodName)) ∈ os_tb := os_in (i := 276) (by decide +kernel) (by decide +kernel)
theorem k_244 : (Jvm.Cond.code ({ cls := "RobotFaults$Track", name := "has", desc := "(I)Z" } : Jvm.MethodName) prog_7_method_4_code (2 : Nat) (Option.some Jvm.ClassFile.FieldType.boolean)) ∈ os_tb := os_in (i := 277) (by decide +kernel) (by decide +kernel)
theorem k_245 : (Jvm.Cond.classLink "RobotFaults" (302 : Nat) "java/util/NoSuchElementException") ∈ os_tb := os_in (i := 278) (by decide +kernel) (by decide +kernel)
theorem k_246 : (Jvm.Cond.instantiable "java/util/NoSuchElementException" (6 : Nat)) ∈ os_tb := os_in (i := 279) (by decide +kernel) (by decide +kernel)
theorem k_247 : (Jvm.Cond.castable "java/util/NoSuchElementException" "java/util/NoSuchElementException") ∈ os_tb := os_in (i := 280) (by decide +kernel) (by decide +kernel)
theorem k_248 : (Jvm.Cond.selects "java/util/NoSuchElementException" ({ cls := "java/lang/Throwable", name := "fillInStackTrace", desc := "(I)Ljava/lang/Throwable;" } : Jvm.MethodName) ({ cls := "java/lang/Throwable", name := "fillInStackTrace", desc := "(I)Ljava/lang/Throwable;" } : Jvm.MethodName)) ∈ os_tb := os_in (i := 281) (by decide +kernel) (by decide +kernel)
theorem k_255 : (Jvm.Cond.methodLink "RobotFaults" (306 : Nat) ({ cls := "java/util/NoSuchElementException", name := "<init>", desc := "(Ljava/lang/String;)V" } : Jvm.MethodName)) ∈ os_tb := os_in (i := 288) (by decide +kernel) (by decide +kernel)
theorem k_256 : (Jvm.Cond.instanceMethod ({ cls := "java/util/NoSuchElementException", name := "<init>", desc := "(Ljava/lang/String;)V" } : Jvm.MethodName)) ∈ os_tb := os_in (i := 289) (by decide +kernel) (by decide +kernel)
theorem k_257 : (Jvm.Cond.code ({ cls := "java/util/NoSuchElementException", name := "<init>", desc := "(Ljava/lang/String;)V" } : Jvm.MethodName) prog_19_method_4_code (2 : Nat) (Option.none : Option Jvm.ClassFile.FieldType)) ∈ os_tb := os_in (i := 290) (by decide +kernel) (by decide +kernel)
theorem k_258 : (Jvm.Cond.methodLink "java/util/NoSuchElementException" (13 : Nat) ({ cls := "java/lang/RuntimeException", name := "<init>", desc := "(Ljava/lang/String;)V" } : Jvm.MethodName)) ∈ os_tb := os_in (i := 291) (by decide +kernel) (by decide +kernel)
theorem k_261 : (Jvm.Cond.classLink "RobotFaults" (66 : Nat) "java/lang/IllegalArgumentException") ∈ os_tb := os_in (i := 294) (by decide +kernel) (by decide +kernel)
theorem k_262 : (Jvm.Cond.instantiable "java/lang/IllegalArgumentException" (6 : Nat)) ∈ os_tb := os_in (i := 295) (by decide +kernel) (by decide +kernel)
theorem k_263 : (Jvm.Cond.castable "java/lang/IllegalArgumentException" "java/lang/IllegalArgumentException") ∈ os_tb := os_in (i := 296) (by decide +kernel) (by decide +kernel)
theorem k_264 : (Jvm.Cond.selects "java/lang/IllegalArgumentException" ({ cls := "java/lang/Throwable", name := "fillInStackTrace", desc := "(I)Ljava/lang/Throwable;" } : Jvm.MethodName) ({ cls := "java/lang/Throwable", name := "fillInStackTrace", desc := "(I)Ljava/lang/Throwable;" } : Jvm.MethodName)) ∈ os_tb := os_in (i := 297) (by decide +kernel) (by decide +kernel)
theorem k_271 : (Jvm.Cond.methodLink "RobotFaults" (70 : Nat) ({ cls := "java/lang/IllegalArgumentException", name := "<init>", desc := "(Ljava/lang/String;)V" } : Jvm.MethodName)) ∈ os_tb := os_in (i := 304) (by decide +kernel) (by decide +kernel)
theorem k_272 : (Jvm.Cond.instanceMethod ({ cls := "java/lang/IllegalArgumentException", name := "<init>", desc := "(Ljava/lang/String;)V" } : Jvm.MethodName)) ∈ os_tb := os_in (i := 305) (by decide +kernel) (by decide +kernel)
theorem k_273 : (Jvm.Cond.code ({ cls := "java/lang/IllegalArgumentException", name := "<init>", desc := "(Ljava/lang/String;)V" } : Jvm.MethodName) prog_11_method_2_code (2 : Nat) (Option.none : Option Jvm.ClassFile.FieldType)) ∈ os_tb := os_in (i := 306) (by decide +kernel) (by decide +kernel)
theorem k_274 : (Jvm.Cond.methodLink "java/lang/IllegalArgumentException" (7 : Nat) ({ cls := "java/lang/RuntimeException", name := "<init>", desc := "(Ljava/lang/String;)V" } : Jvm.MethodName)) ∈ os_tb := os_in (i := 307) (by decide +kernel) (by decide +kernel)
theorem k_277 : (Jvm.Cond.methodLink "RobotFaults" (71 : Nat) ({ cls := "RobotFaults$Track", name := "connect", desc := "(II)V" } : Jvm.MethodName)) ∈ os_tb := os_in (i := 310) (by decide +kernel) (by decide +kernel)
theorem k_278 : (Jvm.Cond.instanceMethod ({ cls := "RobotFaults$Track", name := "connect", desc := "(II)V" } : Jvm.MethodName)) ∈ os_tb := os_in (i := 311) (by decide +kernel) (by decide +kernel)
theorem k_279 : (Jvm.Cond.selects "RobotFaults$Track" ({ cls := "RobotFaults$Track", name := "connect", desc := "(II)V" } : Jvm.MethodName) ({ cls := "RobotFaults$Track", name := "connect", desc := "(II)V" } : Jvm.MethodName)) ∈ os_tb := os_in (i := 312) (by decide +kernel) (by decide +kernel)
theorem k_280 : (Jvm.Cond.code ({ cls := "RobotFaults$Track", name := "connect", desc := "(II)V" } : Jvm.MethodName) prog_7_method_6_code (3 : Nat) (Option.none : Option Jvm.ClassFile.FieldType)) ∈ os_tb := os_in (i := 313) (by decide +kernel) (by decide +kernel)
theorem k_281 : (Jvm.Cond.methodLink "RobotFaultsLaw" (98 : Nat) ({ cls := "RobotFaultsLaw", name := "robot", desc := "(LRobotFaults;I[J)I" } : Jvm.MethodName)) ∈ os_tb := os_in (i := 314) (by decide +kernel) (by decide +kernel)
theorem k_282 : (Jvm.Cond.static ({ cls := "RobotFaultsLaw", name := "robot", desc := "(LRobotFaults;I[J)I" } : Jvm.MethodName)) ∈ os_tb := os_in (i := 315) (by decide +kernel) (by decide +kernel)
theorem k_284 : (Jvm.Cond.methodLink "RobotFaultsLaw" (23 : Nat) ({ cls := "RobotFaults", name := "robot", desc := "(I)I" } : Jvm.MethodName)) ∈ os_tb := os_in (i := 317) (by decide +kernel) (by decide +kernel)
theorem k_285 : (Jvm.Cond.instanceMethod ({ cls := "RobotFaults", name := "robot", desc := "(I)I" } : Jvm.MethodName)) ∈ os_tb := os_in (i := 318) (by decide +kernel) (by decide +kernel)
theorem k_286 : (Jvm.Cond.selects "RobotFaults" ({ cls := "RobotFaults", name := "robot", desc := "(I)I" } : Jvm.MethodName) ({ cls := "RobotFaults", name := "robot", desc := "(I)I" } : Jvm.MethodName)) ∈ os_tb := os_in (i := 319) (by decide +kernel) (by decide +kernel)
theorem k_287 : (Jvm.Cond.code ({ cls := "RobotFaults", name := "robot", desc := "(I)I" } : Jvm.MethodName) prog_1_method_4_code (3 : Nat) (Option.some Jvm.ClassFile.FieldType.int)) ∈ os_tb := os_in (i := 320) (by decide +kernel) (by decide +kernel)
theorem k_289 : (Jvm.Cond.instantiable "RobotFaults$Robot" (6 : Nat)) ∈ os_tb := os_in (i := 322) (by decide +kernel) (by decide +kernel)
theorem k_290 : (Jvm.Cond.methodLink "RobotFaults" (81 : Nat) ({ cls := "RobotFaults$Robot", name := "<init>", desc := "(II)V" } : Jvm.MethodName)) ∈ os_tb := os_in (i := 323) (by decide +kernel) (by decide +kernel)
theorem k_291 : (Jvm.Cond.instanceMethod ({ cls := "RobotFaults$Robot", name := "<init>", desc := "(II)V" } : Jvm.MethodName)) ∈ os_tb := os_in (i := 324) (by decide +kernel) (by decide +kernel)
theorem k_292 : (Jvm.Cond.code ({ cls := "RobotFaults$Robot", name := "<init>", desc := "(II)V" } : Jvm.MethodName) prog_5_method_1_code (3 : Nat) (Option.none : Option Jvm.ClassFile.FieldType)) ∈ os_tb := os_in (i := 325) (by decide +kernel) (by decide +kernel)
theorem k_293 : (Jvm.Cond.methodLink "RobotFaults$Robot" (3 : Nat) ({ cls := "java/lang/Object", name := "<init>", desc := "()V" } : Jvm.MethodName)) ∈ os_tb := os_in (i := 326) (by decide +kernel) (by decide +kernel)
theorem k_294 : (Jvm.Cond.fieldLink "RobotFaults$Robot" (25 : Nat) "RobotFaults$Robot" "number" "I") ∈ os_tb := os_in (i := 327) (by decide +kernel) (by decide +kernel)
theorem k_295 : (Jvm.Cond.fieldLinkNest "RobotFaults" (83 : Nat) "RobotFaults$Robot" "number" "I" "RobotFaults") ∈ os_tb := os_in (i := 328) (by decide +kernel) (by decide +kernel)
theorem k_296 : (Jvm.Cond.fieldLink "RobotFaults$Robot" (28 : Nat) "RobotFaults$Robot" "piece" "I") ∈ os_tb := os_in (i := 329) (by decide +kernel) (by decide +kernel)
theorem k_297 : (Jvm.Cond.fieldLinkNest "RobotFaults$Fault" (41 : Nat) "RobotFaults$Robot" "piece" "I" "RobotFaults") ∈ os_tb := os_in (i := 330) (by decide +kernel) (by decide +kernel)
theorem k_298 : (Jvm.Cond.fieldLinkNest "RobotFaults" (109 : Nat) "RobotFaults$Robot" "piece" "I" "RobotFaults") ∈ os_tb := os_in (i := 331) (by decide +kernel) (by decide +kernel)
theorem k_299 : (Jvm.Cond.fieldLink "RobotFaults$Robot" (9 : Nat) "RobotFaults$Robot" "state" "I") ∈ os_tb := os_in (i := 332) (by decide +kernel) (by decide +kernel)
theorem k_300 : (Jvm.Cond.fieldLinkNest "RobotFaults" (101 : Nat) "RobotFaults$Robot" "state" "I" "RobotFaults") ∈ os_tb := os_in (i := 333) (by decide +kernel) (by decide +kernel)
theorem k_301 : (Jvm.Cond.fieldLink "RobotFaults$Robot" (15 : Nat) "RobotFaults$Robot" "unit" "I") ∈ os_tb := os_in (i := 334) (by decide +kernel) (by decide +kernel)
theorem k_302 : (Jvm.Cond.fieldLinkNest "RobotFaults$Fault" (47 : Nat) "RobotFaults$Robot" "unit" "I" "RobotFaults") ∈ os_tb := os_in (i := 335) (by decide +kernel) (by decide +kernel)
theorem k_303 : (Jvm.Cond.fieldLinkNest "RobotFaults" (122 : Nat) "RobotFaults$Robot" "unit" "I" "RobotFaults") ∈ os_tb := os_in (i := 336) (by decide +kernel) (by decide +kernel)
theorem k_304 : (Jvm.Cond.fieldLink "RobotFaults$Robot" (18 : Nat) "RobotFaults$Robot" "wantsTest" "Z") ∈ os_tb := os_in (i := 337) (by decide +kernel) (by decide +kernel)
theorem k_305 : (Jvm.Cond.fieldLinkNest "RobotFaults" (172 : Nat) "RobotFaults$Robot" "wantsTest" "Z" "RobotFaults") ∈ os_tb := os_in (i := 338) (by decide +kernel) (by decide +kernel)
theorem k_306 : (Jvm.Cond.fieldLink "RobotFaults$Robot" (22 : Nat) "RobotFaults$Robot" "lostSecond" "I") ∈ os_tb := os_in (i := 339) (by decide +kernel) (by decide +kernel)
theorem k_307 : (Jvm.Cond.fieldLinkNest "RobotFaults" (357 : Nat) "RobotFaults$Robot" "lostSecond" "I" "RobotFaults") ∈ os_tb := os_in (i := 340) (by decide +kernel) (by decide +kernel)
theorem k_321 : (Jvm.Cond.methodLink "RobotFaultsLaw" (102 : Nat) ({ cls := "RobotFaultsLaw", name := "rule", desc := "(LRobotFaults;IIZI)I" } : Jvm.MethodName)) ∈ os_tb := os_in (i := 354) (by decide +kernel) (by decide +kernel)
theorem k_322 : (Jvm.Cond.static ({ cls := "RobotFaultsLaw", name := "rule", desc := "(LRobotFaults;IIZI)I" } : Jvm.MethodName)) ∈ os_tb := os_in (i := 355) (by decide +kernel) (by decide +kernel)
theorem k_324 : (Jvm.Cond.methodLink "RobotFaultsLaw" (27 : Nat) ({ cls := "RobotFaults", name := "rule", desc := "(IIZI)V" } : Jvm.MethodName)) ∈ os_tb := os_in (i := 357) (by decide +kernel) (by decide +kernel)
theorem k_325 : (Jvm.Cond.instanceMethod ({ cls := "RobotFaults", name := "rule", desc := "(IIZI)V" } : Jvm.MethodName)) ∈ os_tb := os_in (i := 358) (by decide +kernel) (by decide +kernel)
theorem k_326 : (Jvm.Cond.selects "RobotFaults" ({ cls := "RobotFaults", name := "rule", desc := "(IIZI)V" } : Jvm.MethodName) ({ cls := "RobotFaults", name := "rule", desc := "(IIZI)V" } : Jvm.MethodName)) ∈ os_tb := os_in (i := 359) (by decide +kernel) (by decide +kernel)
theorem k_327 : (Jvm.Cond.code ({ cls := "RobotFaults", name := "rule", desc := "(IIZI)V" } : Jvm.MethodName) prog_1_method_5_code (5 : Nat) (Option.none : Option Jvm.ClassFile.FieldType)) ∈ os_tb := os_in (i := 360) (by decide +kernel) (by decide +kernel)
theorem k_328 : (Jvm.Cond.methodLink "RobotFaults" (86 : Nat) ({ cls := "RobotFaults", name := "needKind", desc := "(I)V" } : Jvm.MethodName)) ∈ os_tb := os_in (i := 361) (by decide +kernel) (by decide +kernel)
theorem k_329 : (Jvm.Cond.static ({ cls := "RobotFaults", name := "needKind", desc := "(I)V" } : Jvm.MethodName)) ∈ os_tb := os_in (i := 362) (by decide +kernel) (by decide +kernel)
theorem k_330 : (Jvm.Cond.code ({ cls := "RobotFaults", name := "needKind", desc := "(I)V" } : Jvm.MethodName) prog_1_method_27_code (1 : Nat) (Option.none : Option Jvm.ClassFile.FieldType)) ∈ os_tb := os_in (i := 363) (by decide +kernel) (by decide +kernel)
theorem k_334 : (Jvm.Cond.methodLink "RobotFaults" (93 : Nat) ({ cls := "RobotFaults$Rule", name := "set", desc := "(IZI)V" } : Jvm.MethodName)) ∈ os_tb := os_in (i := 367) (by decide +kernel) (by decide +kernel)
theorem k_335 : (Jvm.Cond.instanceMethod ({ cls := "RobotFaults$Rule", name := "set", desc := "(IZI)V" } : Jvm.MethodName)) ∈ os_tb := os_in (i := 368) (by decide +kernel) (by decide +kernel)
theorem k_336 : (Jvm.Cond.selects "RobotFaults$Rule" ({ cls := "RobotFaults$Rule", name := "set", desc := "(IZI)V" } : Jvm.MethodName) ({ cls := "RobotFaults$Rule", name := "set", desc := "(IZI)V" } : Jvm.MethodName)) ∈ os_tb := os_in (i := 369) (by decide +kernel) (by decide +kernel)
theorem k_337 : (Jvm.Cond.code ({ cls := "RobotFaults$Rule", name := "set", desc := "(IZI)V" } : Jvm.MethodName) prog_6_method_2_code (4 : Nat) (Option.none : Option Jvm.ClassFile.FieldType)) ∈ os_tb := os_in (i := 370) (by decide +kernel) (by decide +kernel)
theorem k_338 : (Jvm.Cond.methodLink "RobotFaultsLaw" (106 : Nat) ({ cls := "RobotFaultsLaw", name := "move", desc := "(LRobotFaults;II)I" } : Jvm.MethodName)) ∈ os_tb := os_in (i := 371) (by decide +kernel) (by decide +kernel)
theorem k_339 : (Jvm.Cond.static ({ cls := "RobotFaultsLaw", name := "move", desc := "(LRobotFaults;II)I" } : Jvm.MethodName)) ∈ os_tb := os_in (i := 372) (by decide +kernel) (by decide +kernel)
theorem k_341 : (Jvm.Cond.classLink "RobotFaultsLaw" (34 : Nat) "java/lang/IllegalStateException") ∈ os_tb := os_in (i := 374) (by decide +kernel) (by decide +kernel)
theorem k_342 : (Jvm.Cond.methodLink "RobotFaultsLaw" (31 : Nat) ({ cls := "RobotFaults", name := "move", desc := "(II)V" } : Jvm.MethodName)) ∈ os_tb := os_in (i := 375) (by decide +kernel) (by decide +kernel)
theorem k_343 : (Jvm.Cond.instanceMethod ({ cls := "RobotFaults", name := "move", desc := "(II)V" } : Jvm.MethodName)) ∈ os_tb := os_in (i := 376) (by decide +kernel) (by decide +kernel)
theorem k_344 : (Jvm.Cond.selects "RobotFaults" ({ cls := "RobotFaults", name := "move", desc := "(II)V" } : Jvm.MethodName) ({ cls := "RobotFaults", name := "move", desc := "(II)V" } : Jvm.MethodName)) ∈ os_tb := os_in (i := 377) (by decide +kernel) (by decide +kernel)
theorem k_345 : (Jvm.Cond.code ({ cls := "RobotFaults", name := "move", desc := "(II)V" } : Jvm.MethodName) prog_1_method_6_code (4 : Nat) (Option.none : Option Jvm.ClassFile.FieldType)) ∈ os_tb := os_in (i := 378) (by decide +kernel) (by decide +kernel)
theorem k_346 : (Jvm.Cond.methodLink "RobotFaults" (97 : Nat) ({ cls := "RobotFaults", name := "robotAt", desc := "(I)LRobotFaults$Robot;" } : Jvm.MethodName)) ∈ os_tb := os_in (i := 379) (by decide +kernel) (by decide +kernel)
theorem k_348 : (Jvm.Cond.instanceMethod ({ cls := "RobotFaults", name := "robotAt", desc := "(I)LRobotFaults$Robot;" } : Jvm.MethodName)) ∈ os_tb := os_in (i := 381) (by decide +kernel) (by decide +kernel)
theorem k_349 : (Jvm.Cond.code ({ cls := "RobotFaults", name := "robotAt", desc := "(I)LRobotFaults$Robot;" } : Jvm.MethodName) prog_1_method_24_code (3 : Nat) (Option.some (Jvm.ClassFile.FieldType.object "RobotFaults$Robot"))) ∈ os_tb := os_in (i := 382) (by decide +kernel) (by decide +kernel)
theorem k_351 : (Jvm.Cond.classLink "RobotFaults" (104 : Nat) "java/lang/IllegalStateException") ∈ os_tb := os_in (i := 384) (by decide +kernel) (by decide +kernel)
theorem k_352 : (Jvm.Cond.instantiable "java/lang/IllegalStateException" (6 : Nat)) ∈ os_tb := os_in (i := 385) (by decide +kernel) (by decide +kernel)
theorem k_353 : (Jvm.Cond.castable "java/lang/IllegalStateException" "java/lang/IllegalStateException") ∈ os_tb := os_in (i := 386) (by decide +kernel) (by decide +kernel)
theorem k_354 : (Jvm.Cond.selects "java/lang/IllegalStateException" ({ cls := "java/lang/Throwable", name := "fillInStackTrace", desc := "(I)Ljava/lang/Throwable;" } : Jvm.MethodName) ({ cls := "java/lang/Throwable", name := "fillInStackTrace", desc := "(I)Ljava/lang/Throwable;" } : Jvm.MethodName)) ∈ os_tb := os_in (i := 387) (by decide +kernel) (by decide +kernel)
theorem k_361 : (Jvm.Cond.methodLink "RobotFaults" (108 : Nat) ({ cls := "java/lang/IllegalStateException", name := "<init>", desc := "(Ljava/lang/String;)V" } : Jvm.MethodName)) ∈ os_tb := os_in (i := 394) (by decide +kernel) (by decide +kernel)
theorem k_362 : (Jvm.Cond.instanceMethod ({ cls := "java/lang/IllegalStateException", name := "<init>", desc := "(Ljava/lang/String;)V" } : Jvm.MethodName)) ∈ os_tb := os_in (i := 395) (by decide +kernel) (by decide +kernel)
theorem k_363 : (Jvm.Cond.code ({ cls := "java/lang/IllegalStateException", name := "<init>", desc := "(Ljava/lang/String;)V" } : Jvm.MethodName) prog_12_method_2_code (2 : Nat) (Option.none : Option Jvm.ClassFile.FieldType)) ∈ os_tb := os_in (i := 396) (by decide +kernel) (by decide +kernel)
theorem k_364 : (Jvm.Cond.methodLink "java/lang/IllegalStateException" (7 : Nat) ({ cls := "java/lang/RuntimeException", name := "<init>", desc := "(Ljava/lang/String;)V" } : Jvm.MethodName)) ∈ os_tb := os_in (i := 397) (by decide +kernel) (by decide +kernel)
theorem k_367 : (Jvm.Cond.methodLink "RobotFaults" (112 : Nat) ({ cls := "RobotFaults$Track", name := "areConnected", desc := "(II)Z" } : Jvm.MethodName)) ∈ os_tb := os_in (i := 400) (by decide +kernel) (by decide +kernel)
theorem k_368 : (Jvm.Cond.instanceMethod ({ cls := "RobotFaults$Track", name := "areConnected", desc := "(II)Z" } : Jvm.MethodName)) ∈ os_tb := os_in (i := 401) (by decide +kernel) (by decide +kernel)
theorem k_369 : (Jvm.Cond.selects "RobotFaults$Track" ({ cls := "RobotFaults$Track", name := "areConnected", desc := "(II)Z" } : Jvm.MethodName) ({ cls := "RobotFaults$Track", name := "areConnected", desc := "(II)Z" } : Jvm.MethodName)) ∈ os_tb := os_in (i := 402) (by decide +kernel) (by decide +kernel)
theorem k_370 : (Jvm.Cond.code ({ cls := "RobotFaults$Track", name := "areConnected", desc := "(II)Z" } : Jvm.MethodName) prog_7_method_7_code (3 : Nat) (Option.some Jvm.ClassFile.FieldType.boolean)) ∈ os_tb := os_in (i := 403) (by decide +kernel) (by decide +kernel)
theorem k_371 : (Jvm.Cond.methodLinkNest "RobotFaults$Track" (19 : Nat) ({ cls := "RobotFaults", name := "holds", desc := "(II)Z" } : Jvm.MethodName) "RobotFaults") ∈ os_tb := os_in (i := 404) (by decide +kernel) (by decide +kernel)
theorem k_372 : (Jvm.Cond.static ({ cls := "RobotFaults", name := "holds", desc := "(II)Z" } : Jvm.MethodName)) ∈ os_tb := os_in (i := 405) (by decide +kernel) (by decide +kernel)
theorem k_373 : (Jvm.Cond.code ({ cls := "RobotFaults", name := "holds", desc := "(II)Z" } : Jvm.MethodName) prog_1_method_30_code (2 : Nat) (Option.some Jvm.ClassFile.FieldType.boolean)) ∈ os_tb := os_in (i := 406) (by decide +kernel) (by decide +kernel)
theorem k_375 : (Jvm.Cond.methodLink "RobotFaultsLaw" (109 : Nat) ({ cls := "RobotFaultsLaw", name := "load", desc := "(LRobotFaults;II)I" } : Jvm.MethodName)) ∈ os_tb := os_in (i := 408) (by decide +kernel) (by decide +kernel)
theorem k_376 : (Jvm.Cond.static ({ cls := "RobotFaultsLaw", name := "load", desc := "(LRobotFaults;II)I" } : Jvm.MethodName)) ∈ os_tb := os_in (i := 409) (by decide +kernel) (by decide +kernel)
theorem k_378 : (Jvm.Cond.methodLink "RobotFaultsLaw" (36 : Nat) ({ cls := "RobotFaults", name := "load", desc := "(II)V" } : Jvm.MethodName)) ∈ os_tb := os_in (i := 411) (by decide +kernel) (by decide +kernel)
theorem k_379 : (Jvm.Cond.instanceMethod ({ cls := "RobotFaults", name := "load", desc := "(II)V" } : Jvm.MethodName)) ∈ os_tb := os_in (i := 412) (by decide +kernel) (by decide +kernel)
theorem k_380 : (Jvm.Cond.selects "RobotFaults" ({ cls := "RobotFaults", name := "load", desc := "(II)V" } : Jvm.MethodName) ({ cls := "RobotFaults", name := "load", desc := "(II)V" } : Jvm.MethodName)) ∈ os_tb := os_in (i := 413) (by decide +kernel) (by decide +kernel)
theorem k_381 : (Jvm.Cond.code ({ cls := "RobotFaults", name := "load", desc := "(II)V" } : Jvm.MethodName) prog_1_method_7_code (4 : Nat) (Option.none : Option Jvm.ClassFile.FieldType)) ∈ os_tb := os_in (i := 414) (by decide +kernel) (by decide +kernel)
theorem k_384 : (Jvm.Cond.methodLink "RobotFaultsLaw" (112 : Nat) ({ cls := "RobotFaultsLaw", name := "fault", desc := "(LRobotFaults;II[J)I" } : Jvm.MethodName)) ∈ os_tb := os_in (i := 417) (by decide +kernel) (by decide +kernel)
theorem k_385 : (Jvm.Cond.static ({ cls := "RobotFaultsLaw", name := "fault", desc := "(LRobotFaults;II[J)I" } : Jvm.MethodName)) ∈ os_tb := os_in (i := 418) (by decide +kernel) (by decide +kernel)
theorem k_387 : (Jvm.Cond.methodLink "RobotFaultsLaw" (39 : Nat) ({ cls := "RobotFaults", name := "fault", desc := "(II)I" } : Jvm.MethodName)) ∈ os_tb := os_in (i := 420) (by decide +kernel) (by decide +kernel)
theorem k_388 : (Jvm.Cond.instanceMethod ({ cls := "RobotFaults", name := "fault", desc := "(II)I" } : Jvm.MethodName)) ∈ os_tb := os_in (i := 421) (by decide +kernel) (by decide +kernel)
theorem k_389 : (Jvm.Cond.selects "RobotFaults" ({ cls := "RobotFaults", name := "fault", desc := "(II)I" } : Jvm.MethodName) ({ cls := "RobotFaults", name := "fault", desc := "(II)I" } : Jvm.MethodName)) ∈ os_tb := os_in (i := 422) (by decide +kernel) (by decide +kernel)
theorem k_390 : (Jvm.Cond.code ({ cls := "RobotFaults", name := "fault", desc := "(II)I" } : Jvm.MethodName) prog_1_method_8_code (4 : Nat) (Option.some Jvm.ClassFile.FieldType.int)) ∈ os_tb := os_in (i := 423) (by decide +kernel) (by decide +kernel)
theorem k_391 : (Jvm.Cond.methodLink "RobotFaults" (125 : Nat) ({ cls := "RobotFaults", name := "hasNoLoadToLose", desc := "(LRobotFaults$Robot;I)Z" } : Jvm.MethodName)) ∈ os_tb := os_in (i := 424) (by decide +kernel) (by decide +kernel)
theorem k_392 : (Jvm.Cond.static ({ cls := "RobotFaults", name := "hasNoLoadToLose", desc := "(LRobotFaults$Robot;I)Z" } : Jvm.MethodName)) ∈ os_tb := os_in (i := 425) (by decide +kernel) (by decide +kernel)
theorem k_393 : (Jvm.Cond.code ({ cls := "RobotFaults", name := "hasNoLoadToLose", desc := "(LRobotFaults$Robot;I)Z" } : Jvm.MethodName) prog_1_method_31_code (2 : Nat) (Option.some Jvm.ClassFile.FieldType.boolean)) ∈ os_tb := os_in (i := 426) (by decide +kernel) (by decide +kernel)
theorem k_395 : (Jvm.Cond.methodLink "RobotFaults" (131 : Nat) ({ cls := "RobotFaults", name := "hasRoomForFault", desc := "()Z" } : Jvm.MethodName)) ∈ os_tb := os_in (i := 428) (by decide +kernel) (by decide +kernel)
theorem k_397 : (Jvm.Cond.instanceMethod ({ cls := "RobotFaults", name := "hasRoomForFault", desc := "()Z" } : Jvm.MethodName)) ∈ os_tb := os_in (i := 430) (by decide +kernel) (by decide +kernel)
theorem k_398 : (Jvm.Cond.code ({ cls := "RobotFaults", name := "hasRoomForFault", desc := "()Z" } : Jvm.MethodName) prog_1_method_32_code (1 : Nat) (Option.some Jvm.ClassFile.FieldType.boolean)) ∈ os_tb := os_in (i := 431) (by decide +kernel) (by decide +kernel)
theorem k_400 : (Jvm.Cond.methodLink "RobotFaults" (136 : Nat) ({ cls := "RobotFaults", name := "openOrNewFault", desc := "(LRobotFaults$Robot;IZ)I" } : Jvm.MethodName)) ∈ os_tb := os_in (i := 433) (by decide +kernel) (by decide +kernel)
theorem k_402 : (Jvm.Cond.instanceMethod ({ cls := "RobotFaults", name := "openOrNewFault", desc := "(LRobotFaults$Robot;IZ)I" } : Jvm.MethodName)) ∈ os_tb := os_in (i := 435) (by decide +kernel) (by decide +kernel)
theorem k_403 : (Jvm.Cond.code ({ cls := "RobotFaults", name := "openOrNewFault", desc := "(LRobotFaults$Robot;IZ)I" } : Jvm.MethodName) prog_1_method_33_code (5 : Nat) (Option.some Jvm.ClassFile.FieldType.int)) ∈ os_tb := os_in (i := 436) (by decide +kernel) (by decide +kernel)
theorem k_404 : (Jvm.Cond.methodLink "RobotFaults" (319 : Nat) ({ cls := "RobotFaults", name := "openFault", desc := "(LRobotFaults$Robot;I)LRobotFaults$Fault;" } : Jvm.MethodName)) ∈ os_tb := os_in (i := 437) (by decide +kernel) (by decide +kernel)
theorem k_406 : (Jvm.Cond.instanceMethod ({ cls := "RobotFaults", name := "openFault", desc := "(LRobotFaults$Robot;I)LRobotFaults$Fault;" } : Jvm.MethodName)) ∈ os_tb := os_in (i := 439) (by decide +kernel) (by decide +kernel)
theorem k_407 : (Jvm.Cond.code ({ cls := "RobotFaults", name := "openFault", desc := "(LRobotFaults$Robot;I)LRobotFaults$Fault;" } : Jvm.MethodName) prog_1_method_34_code (7 : Nat) (Option.some (Jvm.ClassFile.FieldType.object "RobotFaults$Fault"))) ∈ os_tb := os_in (i := 440) (by decide +kernel) (by decide +kernel)
theorem k_408 : (Jvm.Cond.methodLink "RobotFaults" (323 : Nat) ({ cls := "RobotFaults", name := "newFault", desc := "(LRobotFaults$Robot;IZ)I" } : Jvm.MethodName)) ∈ os_tb := os_in (i := 441) (by decide +kernel) (by decide +kernel)
theorem k_410 : (Jvm.Cond.instanceMethod ({ cls := "RobotFaults", name := "newFault", desc := "(LRobotFaults$Robot;IZ)I" } : Jvm.MethodName)) ∈ os_tb := os_in (i := 443) (by decide +kernel) (by decide +kernel)
theorem k_411 : (Jvm.Cond.code ({ cls := "RobotFaults", name := "newFault", desc := "(LRobotFaults$Robot;IZ)I" } : Jvm.MethodName) prog_1_method_35_code (6 : Nat) (Option.some Jvm.ClassFile.FieldType.int)) ∈ os_tb := os_in (i := 444) (by decide +kernel) (by decide +kernel)
theorem k_412 : (Jvm.Cond.instantiable "RobotFaults$Fault" (11 : Nat)) ∈ os_tb := os_in (i := 445) (by decide +kernel) (by decide +kernel)
theorem k_413 : (Jvm.Cond.methodLink "RobotFaults" (330 : Nat) ({ cls := "RobotFaults$Fault", name := "<init>", desc := "(ILRobotFaults$Robot;IIIZ)V" } : Jvm.MethodName)) ∈ os_tb := os_in (i := 446) (by decide +kernel) (by decide +kernel)
theorem k_414 : (Jvm.Cond.instanceMethod ({ cls := "RobotFaults$Fault", name := "<init>", desc := "(ILRobotFaults$Robot;IIIZ)V" } : Jvm.MethodName)) ∈ os_tb := os_in (i := 447) (by decide +kernel) (by decide +kernel)
theorem k_415 : (Jvm.Cond.code ({ cls := "RobotFaults$Fault", name := "<init>", desc := "(ILRobotFaults$Robot;IIIZ)V" } : Jvm.MethodName) prog_3_method_1_code (7 : Nat) (Option.none : Option Jvm.ClassFile.FieldType)) ∈ os_tb := os_in (i := 448) (by decide +kernel) (by decide +kernel)
theorem k_416 : (Jvm.Cond.methodLink "RobotFaults$Fault" (3 : Nat) ({ cls := "java/lang/Object", name := "<init>", desc := "()V" } : Jvm.MethodName)) ∈ os_tb := os_in (i := 449) (by decide +kernel) (by decide +kernel)
theorem k_417 : (Jvm.Cond.fieldLink "RobotFaults$Fault" (21 : Nat) "RobotFaults$Fault" "number" "I") ∈ os_tb := os_in (i := 450) (by decide +kernel) (by decide +kernel)
theorem k_418 : (Jvm.Cond.fieldLinkNest "RobotFaults" (326 : Nat) "RobotFaults$Fault" "number" "I" "RobotFaults") ∈ os_tb := os_in (i := 451) (by decide +kernel) (by decide +kernel)
theorem k_419 : (Jvm.Cond.fieldLink "RobotFaults$Fault" (24 : Nat) "RobotFaults$Fault" "robot" "LRobotFaults$Robot;") ∈ os_tb := os_in (i := 452) (by decide +kernel) (by decide +kernel)
theorem k_420 : (Jvm.Cond.fieldLinkNest "RobotFaults$Alarm" (24 : Nat) "RobotFaults$Fault" "robot" "LRobotFaults$Robot;" "RobotFaults") ∈ os_tb := os_in (i := 453) (by decide +kernel) (by decide +kernel)
theorem k_421 : (Jvm.Cond.fieldLinkNest "RobotFaults" (257 : Nat) "RobotFaults$Fault" "robot" "LRobotFaults$Robot;" "RobotFaults") ∈ os_tb := os_in (i := 454) (by decide +kernel) (by decide +kernel)
theorem k_422 : (Jvm.Cond.fieldLink "RobotFaults$Fault" (28 : Nat) "RobotFaults$Fault" "kind" "I") ∈ os_tb := os_in (i := 455) (by decide +kernel) (by decide +kernel)
theorem k_423 : (Jvm.Cond.fieldLinkNest "RobotFaults$Alarm" (31 : Nat) "RobotFaults$Fault" "kind" "I" "RobotFaults") ∈ os_tb := os_in (i := 456) (by decide +kernel) (by decide +kernel)
theorem k_424 : (Jvm.Cond.fieldLinkNest "RobotFaults" (258 : Nat) "RobotFaults$Fault" "kind" "I" "RobotFaults") ∈ os_tb := os_in (i := 457) (by decide +kernel) (by decide +kernel)
theorem k_425 : (Jvm.Cond.fieldLink "RobotFaults$Fault" (31 : Nat) "RobotFaults$Fault" "second" "I") ∈ os_tb := os_in (i := 458) (by decide +kernel) (by decide +kernel)
theorem k_426 : (Jvm.Cond.fieldLinkNest "RobotFaults$Alarm" (49 : Nat) "RobotFaults$Fault" "second" "I" "RobotFaults") ∈ os_tb := os_in (i := 459) (by decide +kernel) (by decide +kernel)
theorem k_427 : (Jvm.Cond.fieldLinkNest "RobotFaults" (252 : Nat) "RobotFaults$Fault" "second" "I" "RobotFaults") ∈ os_tb := os_in (i := 460) (by decide +kernel) (by decide +kernel)
theorem k_428 : (Jvm.Cond.fieldLink "RobotFaults$Fault" (34 : Nat) "RobotFaults$Fault" "persons" "I") ∈ os_tb := os_in (i := 461) (by decide +kernel) (by decide +kernel)
theorem k_429 : (Jvm.Cond.fieldLink "RobotFaults$Fault" (37 : Nat) "RobotFaults$Fault" "planted" "Z") ∈ os_tb := os_in (i := 462) (by decide +kernel) (by decide +kernel)
theorem k_430 : (Jvm.Cond.fieldLinkNest "RobotFaults" (265 : Nat) "RobotFaults$Fault" "planted" "Z" "RobotFaults") ∈ os_tb := os_in (i := 463) (by decide +kernel) (by decide +kernel)
theorem k_431 : (Jvm.Cond.fieldLink "RobotFaults$Fault" (46 : Nat) "RobotFaults$Fault" "piece" "I") ∈ os_tb := os_in (i := 464) (by decide +kernel) (by decide +kernel)
theorem k_432 : (Jvm.Cond.fieldLinkNest "RobotFaults" (268 : Nat) "RobotFaults$Fault" "piece" "I" "RobotFaults") ∈ os_tb := os_in (i := 465) (by decide +kernel) (by decide +kernel)
theorem k_433 : (Jvm.Cond.fieldLink "RobotFaults$Fault" (50 : Nat) "RobotFaults$Fault" "lostUnit" "I") ∈ os_tb := os_in (i := 466) (by decide +kernel) (by decide +kernel)
theorem k_434 : (Jvm.Cond.fieldLinkNest "RobotFaults" (269 : Nat) "RobotFaults$Fault" "lostUnit" "I" "RobotFaults") ∈ os_tb := os_in (i := 467) (by decide +kernel) (by decide +kernel)
theorem k_435 : (Jvm.Cond.fieldLink "RobotFaults$Fault" (9 : Nat) "RobotFaults$Fault" "alarm" "I") ∈ os_tb := os_in (i := 468) (by decide +kernel) (by decide +kernel)
theorem k_436 : (Jvm.Cond.fieldLinkNest "RobotFaults" (262 : Nat) "RobotFaults$Fault" "alarm" "I" "RobotFaults") ∈ os_tb := os_in (i := 469) (by decide +kernel) (by decide +kernel)
theorem k_437 : (Jvm.Cond.fieldLink "RobotFaults$Fault" (15 : Nat) "RobotFaults$Fault" "steps" "I") ∈ os_tb := os_in (i := 470) (by decide +kernel) (by decide +kernel)
theorem k_438 : (Jvm.Cond.fieldLinkNest "RobotFaults" (152 : Nat) "RobotFaults$Fault" "steps" "I" "RobotFaults") ∈ os_tb := os_in (i := 471) (by decide +kernel) (by decide +kernel)
theorem k_439 : (Jvm.Cond.fieldLink "RobotFaults$Fault" (18 : Nat) "RobotFaults$Fault" "resetSecond" "I") ∈ os_tb := os_in (i := 472) (by decide +kernel) (by decide +kernel)
theorem k_440 : (Jvm.Cond.fieldLinkNest "RobotFaults" (259 : Nat) "RobotFaults$Fault" "resetSecond" "I" "RobotFaults") ∈ os_tb := os_in (i := 473) (by decide +kernel) (by decide +kernel)
theorem k_464 : (Jvm.Cond.methodLink "RobotFaults" (334 : Nat) ({ cls := "RobotFaults", name := "alarmFor", desc := "(LRobotFaults$Fault;I)I" } : Jvm.MethodName)) ∈ os_tb := os_in (i := 497) (by decide +kernel) (by decide +kernel)
theorem k_466 : (Jvm.Cond.instanceMethod ({ cls := "RobotFaults", name := "alarmFor", desc := "(LRobotFaults$Fault;I)I" } : Jvm.MethodName)) ∈ os_tb := os_in (i := 499) (by decide +kernel) (by decide +kernel)
theorem k_467 : (Jvm.Cond.code ({ cls := "RobotFaults", name := "alarmFor", desc := "(LRobotFaults$Fault;I)I" } : Jvm.MethodName) prog_1_method_36_code (5 : Nat) (Option.some Jvm.ClassFile.FieldType.int)) ∈ os_tb := os_in (i := 500) (by decide +kernel) (by decide +kernel)
theorem k_468 : (Jvm.Cond.methodLink "RobotFaults" (345 : Nat) ({ cls := "RobotFaults", name := "latestAlarm", desc := "(LRobotFaults$Robot;I)LRobotFaults$Alarm;" } : Jvm.MethodName)) ∈ os_tb := os_in (i := 501) (by decide +kernel) (by decide +kernel)
theorem k_470 : (Jvm.Cond.instanceMethod ({ cls := "RobotFaults", name := "latestAlarm", desc := "(LRobotFaults$Robot;I)LRobotFaults$Alarm;" } : Jvm.MethodName)) ∈ os_tb := os_in (i := 503) (by decide +kernel) (by decide +kernel)
theorem k_471 : (Jvm.Cond.code ({ cls := "RobotFaults", name := "latestAlarm", desc := "(LRobotFaults$Robot;I)LRobotFaults$Alarm;" } : Jvm.MethodName) prog_1_method_37_code (8 : Nat) (Option.some (Jvm.ClassFile.FieldType.object "RobotFaults$Alarm"))) ∈ os_tb := os_in (i := 504) (by decide +kernel) (by decide +kernel)
theorem k_472 : (Jvm.Cond.methodLink "RobotFaults" (349 : Nat) ({ cls := "RobotFaults$Alarm", name := "join", desc := "(LRobotFaults$Fault;)V" } : Jvm.MethodName)) ∈ os_tb := os_in (i := 505) (by decide +kernel) (by decide +kernel)
theorem k_473 : (Jvm.Cond.instanceMethod ({ cls := "RobotFaults$Alarm", name := "join", desc := "(LRobotFaults$Fault;)V" } : Jvm.MethodName)) ∈ os_tb := os_in (i := 506) (by decide +kernel) (by decide +kernel)
theorem k_474 : (Jvm.Cond.selects "RobotFaults$Alarm" ({ cls := "RobotFaults$Alarm", name := "join", desc := "(LRobotFaults$Fault;)V" } : Jvm.MethodName) ({ cls := "RobotFaults$Alarm", name := "join", desc := "(LRobotFaults$Fault;)V" } : Jvm.MethodName)) ∈ os_tb := os_in (i := 507) (by decide +kernel) (by decide +kernel)
theorem k_475 : (Jvm.Cond.code ({ cls := "RobotFaults$Alarm", name := "join", desc := "(LRobotFaults$Fault;)V" } : Jvm.MethodName) prog_2_method_3_code (2 : Nat) (Option.none : Option Jvm.ClassFile.FieldType)) ∈ os_tb := os_in (i := 508) (by decide +kernel) (by decide +kernel)
theorem k_476 : (Jvm.Cond.instantiable "RobotFaults$Alarm" (8 : Nat)) ∈ os_tb := os_in (i := 509) (by decide +kernel) (by decide +kernel)
theorem k_477 : (Jvm.Cond.methodLink "RobotFaults" (354 : Nat) ({ cls := "RobotFaults$Alarm", name := "<init>", desc := "(ILRobotFaults$Fault;I)V" } : Jvm.MethodName)) ∈ os_tb := os_in (i := 510) (by decide +kernel) (by decide +kernel)
theorem k_478 : (Jvm.Cond.instanceMethod ({ cls := "RobotFaults$Alarm", name := "<init>", desc := "(ILRobotFaults$Fault;I)V" } : Jvm.MethodName)) ∈ os_tb := os_in (i := 511) (by decide +kernel) (by decide +kernel)
theorem k_479 : (Jvm.Cond.code ({ cls := "RobotFaults$Alarm", name := "<init>", desc := "(ILRobotFaults$Fault;I)V" } : Jvm.MethodName) prog_2_method_1_code (4 : Nat) (Option.none : Option Jvm.ClassFile.FieldType)) ∈ os_tb := os_in (i := 512) (by decide +kernel) (by decide +kernel)
theorem k_480 : (Jvm.Cond.methodLink "RobotFaults$Alarm" (3 : Nat) ({ cls := "java/lang/Object", name := "<init>", desc := "()V" } : Jvm.MethodName)) ∈ os_tb := os_in (i := 513) (by decide +kernel) (by decide +kernel)
theorem k_481 : (Jvm.Cond.fieldLink "RobotFaults$Alarm" (21 : Nat) "RobotFaults$Alarm" "number" "I") ∈ os_tb := os_in (i := 514) (by decide +kernel) (by decide +kernel)
theorem k_482 : (Jvm.Cond.fieldLinkNest "RobotFaults" (353 : Nat) "RobotFaults$Alarm" "number" "I" "RobotFaults") ∈ os_tb := os_in (i := 515) (by decide +kernel) (by decide +kernel)
theorem k_483 : (Jvm.Cond.fieldLink "RobotFaults$Alarm" (30 : Nat) "RobotFaults$Alarm" "robot" "LRobotFaults$Robot;") ∈ os_tb := os_in (i := 516) (by decide +kernel) (by decide +kernel)
theorem k_484 : (Jvm.Cond.fieldLinkNest "RobotFaults" (235 : Nat) "RobotFaults$Alarm" "robot" "LRobotFaults$Robot;" "RobotFaults") ∈ os_tb := os_in (i := 517) (by decide +kernel) (by decide +kernel)
theorem k_485 : (Jvm.Cond.fieldLink "RobotFaults$Alarm" (34 : Nat) "RobotFaults$Alarm" "kind" "I") ∈ os_tb := os_in (i := 518) (by decide +kernel) (by decide +kernel)
theorem k_486 : (Jvm.Cond.fieldLinkNest "RobotFaults" (239 : Nat) "RobotFaults$Alarm" "kind" "I" "RobotFaults") ∈ os_tb := os_in (i := 519) (by decide +kernel) (by decide +kernel)
theorem k_487 : (Jvm.Cond.fieldLink "RobotFaults$Alarm" (35 : Nat) "RobotFaults$Alarm" "rank" "I") ∈ os_tb := os_in (i := 520) (by decide +kernel) (by decide +kernel)
theorem k_488 : (Jvm.Cond.fieldLinkNest "RobotFaults" (242 : Nat) "RobotFaults$Alarm" "rank" "I" "RobotFaults") ∈ os_tb := os_in (i := 521) (by decide +kernel) (by decide +kernel)
theorem k_489 : (Jvm.Cond.fieldLink "RobotFaults$Alarm" (9 : Nat) "RobotFaults$Alarm" "level" "I") ∈ os_tb := os_in (i := 522) (by decide +kernel) (by decide +kernel)
theorem k_490 : (Jvm.Cond.fieldLinkNest "RobotFaults" (232 : Nat) "RobotFaults$Alarm" "level" "I" "RobotFaults") ∈ os_tb := os_in (i := 523) (by decide +kernel) (by decide +kernel)
theorem k_491 : (Jvm.Cond.fieldLink "RobotFaults$Alarm" (15 : Nat) "RobotFaults$Alarm" "joined" "I") ∈ os_tb := os_in (i := 524) (by decide +kernel) (by decide +kernel)
theorem k_492 : (Jvm.Cond.fieldLinkNest "RobotFaults" (245 : Nat) "RobotFaults$Alarm" "joined" "I" "RobotFaults") ∈ os_tb := os_in (i := 525) (by decide +kernel) (by decide +kernel)
theorem k_493 : (Jvm.Cond.fieldLink "RobotFaults$Alarm" (18 : Nat) "RobotFaults$Alarm" "person" "I") ∈ os_tb := os_in (i := 526) (by decide +kernel) (by decide +kernel)
theorem k_494 : (Jvm.Cond.fieldLinkNest "RobotFaults" (229 : Nat) "RobotFaults$Alarm" "person" "I" "RobotFaults") ∈ os_tb := os_in (i := 527) (by decide +kernel) (by decide +kernel)
theorem k_495 : (Jvm.Cond.fieldLink "RobotFaults$Alarm" (38 : Nat) "RobotFaults$Alarm" "last" "LRobotFaults$Fault;") ∈ os_tb := os_in (i := 528) (by decide +kernel) (by decide +kernel)
theorem k_496 : (Jvm.Cond.fieldLinkNest "RobotFaults" (248 : Nat) "RobotFaults$Alarm" "last" "LRobotFaults$Fault;" "RobotFaults") ∈ os_tb := os_in (i := 529) (by decide +kernel) (by decide +kernel)
theorem k_514 : (Jvm.Cond.methodLink "RobotFaults" (341 : Nat) ({ cls := "RobotFaults$Robot", name := "suffer", desc := "(IIZ)V" } : Jvm.MethodName)) ∈ os_tb := os_in (i := 547) (by decide +kernel) (by decide +kernel)
theorem k_515 : (Jvm.Cond.instanceMethod ({ cls := "RobotFaults$Robot", name := "suffer", desc := "(IIZ)V" } : Jvm.MethodName)) ∈ os_tb := os_in (i := 548) (by decide +kernel) (by decide +kernel)
theorem k_516 : (Jvm.Cond.selects "RobotFaults$Robot" ({ cls := "RobotFaults$Robot", name := "suffer", desc := "(IIZ)V" } : Jvm.MethodName) ({ cls := "RobotFaults$Robot", name := "suffer", desc := "(IIZ)V" } : Jvm.MethodName)) ∈ os_tb := os_in (i := 549) (by decide +kernel) (by decide +kernel)
theorem k_517 : (Jvm.Cond.code ({ cls := "RobotFaults$Robot", name := "suffer", desc := "(IIZ)V" } : Jvm.MethodName) prog_5_method_2_code (4 : Nat) (Option.none : Option Jvm.ClassFile.FieldType)) ∈ os_tb := os_in (i := 550) (by decide +kernel) (by decide +kernel)
theorem k_518 : (Jvm.Cond.methodLink "RobotFaultsLaw" (116 : Nat) ({ cls := "RobotFaultsLaw", name := "step", desc := "(LRobotFaults;II[J)I" } : Jvm.MethodName)) ∈ os_tb := os_in (i := 551) (by decide +kernel) (by decide +kernel)
theorem k_519 : (Jvm.Cond.static ({ cls := "RobotFaultsLaw", name := "step", desc := "(LRobotFaults;II[J)I" } : Jvm.MethodName)) ∈ os_tb := os_in (i := 552) (by decide +kernel) (by decide +kernel)
theorem k_521 : (Jvm.Cond.methodLink "RobotFaultsLaw" (43 : Nat) ({ cls := "RobotFaults", name := "step", desc := "(II)I" } : Jvm.MethodName)) ∈ os_tb := os_in (i := 554) (by decide +kernel) (by decide +kernel)
theorem k_522 : (Jvm.Cond.instanceMethod ({ cls := "RobotFaults", name := "step", desc := "(II)I" } : Jvm.MethodName)) ∈ os_tb := os_in (i := 555) (by decide +kernel) (by decide +kernel)
theorem k_523 : (Jvm.Cond.selects "RobotFaults" ({ cls := "RobotFaults", name := "step", desc := "(II)I" } : Jvm.MethodName) ({ cls := "RobotFaults", name := "step", desc := "(II)I" } : Jvm.MethodName)) ∈ os_tb := os_in (i := 556) (by decide +kernel) (by decide +kernel)
theorem k_524 : (Jvm.Cond.code ({ cls := "RobotFaults", name := "step", desc := "(II)I" } : Jvm.MethodName) prog_1_method_9_code (4 : Nat) (Option.some Jvm.ClassFile.FieldType.int)) ∈ os_tb := os_in (i := 557) (by decide +kernel) (by decide +kernel)
theorem k_525 : (Jvm.Cond.methodLink "RobotFaults" (140 : Nat) ({ cls := "RobotFaults", name := "faultAt", desc := "(I)LRobotFaults$Fault;" } : Jvm.MethodName)) ∈ os_tb := os_in (i := 558) (by decide +kernel) (by decide +kernel)
theorem k_527 : (Jvm.Cond.instanceMethod ({ cls := "RobotFaults", name := "faultAt", desc := "(I)LRobotFaults$Fault;" } : Jvm.MethodName)) ∈ os_tb := os_in (i := 560) (by decide +kernel) (by decide +kernel)
theorem k_528 : (Jvm.Cond.code ({ cls := "RobotFaults", name := "faultAt", desc := "(I)LRobotFaults$Fault;" } : Jvm.MethodName) prog_1_method_25_code (3 : Nat) (Option.some (Jvm.ClassFile.FieldType.object "RobotFaults$Fault"))) ∈ os_tb := os_in (i := 561) (by decide +kernel) (by decide +kernel)
theorem k_530 : (Jvm.Cond.methodLink "RobotFaults" (144 : Nat) ({ cls := "RobotFaults", name := "needPerson", desc := "(I)V" } : Jvm.MethodName)) ∈ os_tb := os_in (i := 563) (by decide +kernel) (by decide +kernel)
theorem k_531 : (Jvm.Cond.static ({ cls := "RobotFaults", name := "needPerson", desc := "(I)V" } : Jvm.MethodName)) ∈ os_tb := os_in (i := 564) (by decide +kernel) (by decide +kernel)
theorem k_532 : (Jvm.Cond.code ({ cls := "RobotFaults", name := "needPerson", desc := "(I)V" } : Jvm.MethodName) prog_1_method_28_code (1 : Nat) (Option.none : Option Jvm.ClassFile.FieldType)) ∈ os_tb := os_in (i := 565) (by decide +kernel) (by decide +kernel)
theorem k_535 : (Jvm.Cond.methodLink "RobotFaults" (155 : Nat) ({ cls := "RobotFaults", name := "holds", desc := "(II)Z" } : Jvm.MethodName)) ∈ os_tb := os_in (i := 568) (by decide +kernel) (by decide +kernel)
theorem k_536 : (Jvm.Cond.methodLink "RobotFaults" (161 : Nat) ({ cls := "RobotFaults$Fault", name := "addStep", desc := "(II)V" } : Jvm.MethodName)) ∈ os_tb := os_in (i := 569) (by decide +kernel) (by decide +kernel)
theorem k_537 : (Jvm.Cond.instanceMethod ({ cls := "RobotFaults$Fault", name := "addStep", desc := "(II)V" } : Jvm.MethodName)) ∈ os_tb := os_in (i := 570) (by decide +kernel) (by decide +kernel)
theorem k_538 : (Jvm.Cond.selects "RobotFaults$Fault" ({ cls := "RobotFaults$Fault", name := "addStep", desc := "(II)V" } : Jvm.MethodName) ({ cls := "RobotFaults$Fault", name := "addStep", desc := "(II)V" } : Jvm.MethodName)) ∈ os_tb := os_in (i := 571) (by decide +kernel) (by decide +kernel)
theorem k_539 : (Jvm.Cond.code ({ cls := "RobotFaults$Fault", name := "addStep", desc := "(II)V" } : Jvm.MethodName) prog_3_method_3_code (3 : Nat) (Option.none : Option Jvm.ClassFile.FieldType)) ∈ os_tb := os_in (i := 572) (by decide +kernel) (by decide +kernel)
theorem k_540 : (Jvm.Cond.methodLink "RobotFaults$Fault" (53 : Nat) ({ cls := "java/lang/Integer", name := "bitCount", desc := "(I)I" } : Jvm.MethodName)) ∈ os_tb := os_in (i := 573) (by decide +kernel) (by decide +kernel)
theorem k_541 : (Jvm.Cond.static ({ cls := "java/lang/Integer", name := "bitCount", desc := "(I)I" } : Jvm.MethodName)) ∈ os_tb := os_in (i := 574) (by decide +kernel) (by decide +kernel)
theorem k_542 : (Jvm.Cond.code ({ cls := "java/lang/Integer", name := "bitCount", desc := "(I)I" } : Jvm.MethodName) prog_13_method_49_code (1 : Nat) (Option.some Jvm.ClassFile.FieldType.int)) ∈ os_tb := os_in (i := 575) (by decide +kernel) (by decide +kernel)
theorem k_543 : (Jvm.Cond.constant "java/lang/Integer" (265 : Nat) (1431655765 : Int32)) ∈ os_tb := os_in (i := 576) (by decide +kernel) (by decide +kernel)
theorem k_544 : (Jvm.Cond.constant "java/lang/Integer" (266 : Nat) (858993459 : Int32)) ∈ os_tb := os_in (i := 577) (by decide +kernel) (by decide +kernel)
theorem k_545 : (Jvm.Cond.constant "java/lang/Integer" (267 : Nat) (252645135 : Int32)) ∈ os_tb := os_in (i := 578) (by decide +kernel) (by decide +kernel)
theorem k_546 : (Jvm.Cond.methodLink "RobotFaultsLaw" (119 : Nat) ({ cls := "RobotFaultsLaw", name := "test", desc := "(LRobotFaults;IZ[J)I" } : Jvm.MethodName)) ∈ os_tb := os_in (i := 579) (by decide +kernel) (by decide +kernel)
theorem k_547 : (Jvm.Cond.static ({ cls := "RobotFaultsLaw", name := "test", desc := "(LRobotFaults;IZ[J)I" } : Jvm.MethodName)) ∈ os_tb := os_in (i := 580) (by decide +kernel) (by decide +kernel)
theorem k_549 : (Jvm.Cond.methodLink "RobotFaultsLaw" (46 : Nat) ({ cls := "RobotFaults", name := "test", desc := "(IZ)Z" } : Jvm.MethodName)) ∈ os_tb := os_in (i := 582) (by decide +kernel) (by decide +kernel)
theorem k_550 : (Jvm.Cond.instanceMethod ({ cls := "RobotFaults", name := "test", desc := "(IZ)Z" } : Jvm.MethodName)) ∈ os_tb := os_in (i := 583) (by decide +kernel) (by decide +kernel)
theorem k_551 : (Jvm.Cond.selects "RobotFaults" ({ cls := "RobotFaults", name := "test", desc := "(IZ)Z" } : Jvm.MethodName) ({ cls := "RobotFaults", name := "test", desc := "(IZ)Z" } : Jvm.MethodName)) ∈ os_tb := os_in (i := 584) (by decide +kernel) (by decide +kernel)
theorem k_552 : (Jvm.Cond.code ({ cls := "RobotFaults", name := "test", desc := "(IZ)Z" } : Jvm.MethodName) prog_1_method_10_code (4 : Nat) (Option.some Jvm.ClassFile.FieldType.boolean)) ∈ os_tb := os_in (i := 585) (by decide +kernel) (by decide +kernel)
theorem k_554 : (Jvm.Cond.methodLink "RobotFaults" (166 : Nat) ({ cls := "RobotFaults", name := "openKinds", desc := "(LRobotFaults$Robot;)I" } : Jvm.MethodName)) ∈ os_tb := os_in (i := 587) (by decide +kernel) (by decide +kernel)
theorem k_556 : (Jvm.Cond.instanceMethod ({ cls := "RobotFaults", name := "openKinds", desc := "(LRobotFaults$Robot;)I" } : Jvm.MethodName)) ∈ os_tb := os_in (i := 589) (by decide +kernel) (by decide +kernel)
theorem k_557 : (Jvm.Cond.code ({ cls := "RobotFaults", name := "openKinds", desc := "(LRobotFaults$Robot;)I" } : Jvm.MethodName) prog_1_method_38_code (7 : Nat) (Option.some Jvm.ClassFile.FieldType.int)) ∈ os_tb := os_in (i := 590) (by decide +kernel) (by decide +kernel)
theorem k_559 : (Jvm.Cond.methodLink "RobotFaultsLaw" (123 : Nat) ({ cls := "RobotFaultsLaw", name := "resume", desc := "(LRobotFaults;I[J)I" } : Jvm.MethodName)) ∈ os_tb := os_in (i := 592) (by decide +kernel) (by decide +kernel)
theorem k_560 : (Jvm.Cond.static ({ cls := "RobotFaultsLaw", name := "resume", desc := "(LRobotFaults;I[J)I" } : Jvm.MethodName)) ∈ os_tb := os_in (i := 593) (by decide +kernel) (by decide +kernel)
theorem k_562 : (Jvm.Cond.methodLink "RobotFaultsLaw" (50 : Nat) ({ cls := "RobotFaults", name := "resume", desc := "(I)I" } : Jvm.MethodName)) ∈ os_tb := os_in (i := 595) (by decide +kernel) (by decide +kernel)
theorem k_563 : (Jvm.Cond.instanceMethod ({ cls := "RobotFaults", name := "resume", desc := "(I)I" } : Jvm.MethodName)) ∈ os_tb := os_in (i := 596) (by decide +kernel) (by decide +kernel)
theorem k_564 : (Jvm.Cond.selects "RobotFaults" ({ cls := "RobotFaults", name := "resume", desc := "(I)I" } : Jvm.MethodName) ({ cls := "RobotFaults", name := "resume", desc := "(I)I" } : Jvm.MethodName)) ∈ os_tb := os_in (i := 597) (by decide +kernel) (by decide +kernel)
theorem k_565 : (Jvm.Cond.code ({ cls := "RobotFaults", name := "resume", desc := "(I)I" } : Jvm.MethodName) prog_1_method_11_code (3 : Nat) (Option.some Jvm.ClassFile.FieldType.int)) ∈ os_tb := os_in (i := 598) (by decide +kernel) (by decide +kernel)
theorem k_567 : (Jvm.Cond.methodLink "RobotFaultsLaw" (126 : Nat) ({ cls := "RobotFaultsLaw", name := "zone", desc := "(LRobotFaults;II[J)I" } : Jvm.MethodName)) ∈ os_tb := os_in (i := 600) (by decide +kernel) (by decide +kernel)
theorem k_568 : (Jvm.Cond.static ({ cls := "RobotFaultsLaw", name := "zone", desc := "(LRobotFaults;II[J)I" } : Jvm.MethodName)) ∈ os_tb := os_in (i := 601) (by decide +kernel) (by decide +kernel)
theorem k_570 : (Jvm.Cond.methodLink "RobotFaultsLaw" (53 : Nat) ({ cls := "RobotFaults", name := "zone", desc := "(II)I" } : Jvm.MethodName)) ∈ os_tb := os_in (i := 603) (by decide +kernel) (by decide +kernel)
theorem k_571 : (Jvm.Cond.instanceMethod ({ cls := "RobotFaults", name := "zone", desc := "(II)I" } : Jvm.MethodName)) ∈ os_tb := os_in (i := 604) (by decide +kernel) (by decide +kernel)
theorem k_572 : (Jvm.Cond.selects "RobotFaults" ({ cls := "RobotFaults", name := "zone", desc := "(II)I" } : Jvm.MethodName) ({ cls := "RobotFaults", name := "zone", desc := "(II)I" } : Jvm.MethodName)) ∈ os_tb := os_in (i := 605) (by decide +kernel) (by decide +kernel)
theorem k_573 : (Jvm.Cond.code ({ cls := "RobotFaults", name := "zone", desc := "(II)I" } : Jvm.MethodName) prog_1_method_12_code (7 : Nat) (Option.some Jvm.ClassFile.FieldType.int)) ∈ os_tb := os_in (i := 606) (by decide +kernel) (by decide +kernel)
theorem k_575 : (Jvm.Cond.methodLink "RobotFaults" (180 : Nat) ({ cls := "RobotFaults", name := "needLost", desc := "(LRobotFaults$Robot;)V" } : Jvm.MethodName)) ∈ os_tb := os_in (i := 608) (by decide +kernel) (by decide +kernel)
theorem k_576 : (Jvm.Cond.static ({ cls := "RobotFaults", name := "needLost", desc := "(LRobotFaults$Robot;)V" } : Jvm.MethodName)) ∈ os_tb := os_in (i := 609) (by decide +kernel) (by decide +kernel)
theorem k_577 : (Jvm.Cond.code ({ cls := "RobotFaults", name := "needLost", desc := "(LRobotFaults$Robot;)V" } : Jvm.MethodName) prog_1_method_29_code (1 : Nat) (Option.none : Option Jvm.ClassFile.FieldType)) ∈ os_tb := os_in (i := 610) (by decide +kernel) (by decide +kernel)
theorem k_579 : (Jvm.Cond.methodLink "RobotFaults" (184 : Nat) ({ cls := "RobotFaults", name := "piecesOfLost", desc := "(LRobotFaults$Robot;)I" } : Jvm.MethodName)) ∈ os_tb := os_in (i := 612) (by decide +kernel) (by decide +kernel)
theorem k_581 : (Jvm.Cond.instanceMethod ({ cls := "RobotFaults", name := "piecesOfLost", desc := "(LRobotFaults$Robot;)I" } : Jvm.MethodName)) ∈ os_tb := os_in (i := 614) (by decide +kernel) (by decide +kernel)
theorem k_582 : (Jvm.Cond.code ({ cls := "RobotFaults", name := "piecesOfLost", desc := "(LRobotFaults$Robot;)I" } : Jvm.MethodName) prog_1_method_39_code (2 : Nat) (Option.some Jvm.ClassFile.FieldType.int)) ∈ os_tb := os_in (i := 615) (by decide +kernel) (by decide +kernel)
theorem k_583 : (Jvm.Cond.methodLink "RobotFaults" (360 : Nat) ({ cls := "RobotFaults$Track", name := "reach", desc := "(II)I" } : Jvm.MethodName)) ∈ os_tb := os_in (i := 616) (by decide +kernel) (by decide +kernel)
theorem k_584 : (Jvm.Cond.instanceMethod ({ cls := "RobotFaults$Track", name := "reach", desc := "(II)I" } : Jvm.MethodName)) ∈ os_tb := os_in (i := 617) (by decide +kernel) (by decide +kernel)
theorem k_585 : (Jvm.Cond.selects "RobotFaults$Track" ({ cls := "RobotFaults$Track", name := "reach", desc := "(II)I" } : Jvm.MethodName) ({ cls := "RobotFaults$Track", name := "reach", desc := "(II)I" } : Jvm.MethodName)) ∈ os_tb := os_in (i := 618) (by decide +kernel) (by decide +kernel)
theorem k_586 : (Jvm.Cond.code ({ cls := "RobotFaults$Track", name := "reach", desc := "(II)I" } : Jvm.MethodName) prog_7_method_8_code (5 : Nat) (Option.some Jvm.ClassFile.FieldType.int)) ∈ os_tb := os_in (i := 619) (by decide +kernel) (by decide +kernel)
theorem k_587 : (Jvm.Cond.methodLink "RobotFaults$Track" (23 : Nat) ({ cls := "RobotFaults$Track", name := "around", desc := "(I)I" } : Jvm.MethodName)) ∈ os_tb := os_in (i := 620) (by decide +kernel) (by decide +kernel)
theorem k_589 : (Jvm.Cond.instanceMethod ({ cls := "RobotFaults$Track", name := "around", desc := "(I)I" } : Jvm.MethodName)) ∈ os_tb := os_in (i := 622) (by decide +kernel) (by decide +kernel)
theorem k_590 : (Jvm.Cond.code ({ cls := "RobotFaults$Track", name := "around", desc := "(I)I" } : Jvm.MethodName) prog_7_method_10_code (4 : Nat) (Option.some Jvm.ClassFile.FieldType.int)) ∈ os_tb := os_in (i := 623) (by decide +kernel) (by decide +kernel)
theorem k_591 : (Jvm.Cond.methodLink "RobotFaultsLaw" (129 : Nat) ({ cls := "RobotFaultsLaw", name := "found", desc := "(LRobotFaults;II[J)I" } : Jvm.MethodName)) ∈ os_tb := os_in (i := 624) (by decide +kernel) (by decide +kernel)
theorem k_592 : (Jvm.Cond.static ({ cls := "RobotFaultsLaw", name := "found", desc := "(LRobotFaults;II[J)I" } : Jvm.MethodName)) ∈ os_tb := os_in (i := 625) (by decide +kernel) (by decide +kernel)
theorem k_594 : (Jvm.Cond.methodLink "RobotFaultsLaw" (56 : Nat) ({ cls := "RobotFaults", name := "found", desc := "(II)I" } : Jvm.MethodName)) ∈ os_tb := os_in (i := 627) (by decide +kernel) (by decide +kernel)
theorem k_595 : (Jvm.Cond.instanceMethod ({ cls := "RobotFaults", name := "found", desc := "(II)I" } : Jvm.MethodName)) ∈ os_tb := os_in (i := 628) (by decide +kernel) (by decide +kernel)
theorem k_596 : (Jvm.Cond.selects "RobotFaults" ({ cls := "RobotFaults", name := "found", desc := "(II)I" } : Jvm.MethodName) ({ cls := "RobotFaults", name := "found", desc := "(II)I" } : Jvm.MethodName)) ∈ os_tb := os_in (i := 629) (by decide +kernel) (by decide +kernel)
theorem k_597 : (Jvm.Cond.code ({ cls := "RobotFaults", name := "found", desc := "(II)I" } : Jvm.MethodName) prog_1_method_13_code (5 : Nat) (Option.some Jvm.ClassFile.FieldType.int)) ∈ os_tb := os_in (i := 630) (by decide +kernel) (by decide +kernel)
theorem k_599 : (Jvm.Cond.methodLink "RobotFaults" (189 : Nat) ({ cls := "RobotFaults$Track", name := "fewestLinks", desc := "(II)I" } : Jvm.MethodName)) ∈ os_tb := os_in (i := 632) (by decide +kernel) (by decide +kernel)
theorem k_600 : (Jvm.Cond.instanceMethod ({ cls := "RobotFaults$Track", name := "fewestLinks", desc := "(II)I" } : Jvm.MethodName)) ∈ os_tb := os_in (i := 633) (by decide +kernel) (by decide +kernel)
theorem k_601 : (Jvm.Cond.selects "RobotFaults$Track" ({ cls := "RobotFaults$Track", name := "fewestLinks", desc := "(II)I" } : Jvm.MethodName) ({ cls := "RobotFaults$Track", name := "fewestLinks", desc := "(II)I" } : Jvm.MethodName)) ∈ os_tb := os_in (i := 634) (by decide +kernel) (by decide +kernel)
theorem k_602 : (Jvm.Cond.code ({ cls := "RobotFaults$Track", name := "fewestLinks", desc := "(II)I" } : Jvm.MethodName) prog_7_method_9_code (4 : Nat) (Option.some Jvm.ClassFile.FieldType.int)) ∈ os_tb := os_in (i := 635) (by decide +kernel) (by decide +kernel)
theorem k_603 : (Jvm.Cond.methodLink "RobotFaults$Track" (27 : Nat) ({ cls := "RobotFaults$Track", name := "reach", desc := "(II)I" } : Jvm.MethodName)) ∈ os_tb := os_in (i := 636) (by decide +kernel) (by decide +kernel)
theorem k_604 : (Jvm.Cond.methodLink "RobotFaultsLaw" (132 : Nat) ({ cls := "RobotFaultsLaw", name := "tow", desc := "(LRobotFaults;II)I" } : Jvm.MethodName)) ∈ os_tb := os_in (i := 637) (by decide +kernel) (by decide +kernel)
theorem k_605 : (Jvm.Cond.static ({ cls := "RobotFaultsLaw", name := "tow", desc := "(LRobotFaults;II)I" } : Jvm.MethodName)) ∈ os_tb := os_in (i := 638) (by decide +kernel) (by decide +kernel)
theorem k_607 : (Jvm.Cond.methodLink "RobotFaultsLaw" (59 : Nat) ({ cls := "RobotFaults", name := "tow", desc := "(II)V" } : Jvm.MethodName)) ∈ os_tb := os_in (i := 640) (by decide +kernel) (by decide +kernel)
theorem k_608 : (Jvm.Cond.instanceMethod ({ cls := "RobotFaults", name := "tow", desc := "(II)V" } : Jvm.MethodName)) ∈ os_tb := os_in (i := 641) (by decide +kernel) (by decide +kernel)
theorem k_609 : (Jvm.Cond.selects "RobotFaults" ({ cls := "RobotFaults", name := "tow", desc := "(II)V" } : Jvm.MethodName) ({ cls := "RobotFaults", name := "tow", desc := "(II)V" } : Jvm.MethodName)) ∈ os_tb := os_in (i := 642) (by decide +kernel) (by decide +kernel)
theorem k_610 : (Jvm.Cond.code ({ cls := "RobotFaults", name := "tow", desc := "(II)V" } : Jvm.MethodName) prog_1_method_14_code (4 : Nat) (Option.none : Option Jvm.ClassFile.FieldType)) ∈ os_tb := os_in (i := 643) (by decide +kernel) (by decide +kernel)
theorem k_612 : (Jvm.Cond.methodLink "RobotFaultsLaw" (135 : Nat) ({ cls := "RobotFaultsLaw", name := "plant", desc := "(LRobotFaults;III)I" } : Jvm.MethodName)) ∈ os_tb := os_in (i := 645) (by decide +kernel) (by decide +kernel)
theorem k_613 : (Jvm.Cond.static ({ cls := "RobotFaultsLaw", name := "plant", desc := "(LRobotFaults;III)I" } : Jvm.MethodName)) ∈ os_tb := os_in (i := 646) (by decide +kernel) (by decide +kernel)
theorem k_615 : (Jvm.Cond.methodLink "RobotFaultsLaw" (62 : Nat) ({ cls := "RobotFaults", name := "plant", desc := "(III)V" } : Jvm.MethodName)) ∈ os_tb := os_in (i := 648) (by decide +kernel) (by decide +kernel)
theorem k_616 : (Jvm.Cond.instanceMethod ({ cls := "RobotFaults", name := "plant", desc := "(III)V" } : Jvm.MethodName)) ∈ os_tb := os_in (i := 649) (by decide +kernel) (by decide +kernel)
theorem k_617 : (Jvm.Cond.selects "RobotFaults" ({ cls := "RobotFaults", name := "plant", desc := "(III)V" } : Jvm.MethodName) ({ cls := "RobotFaults", name := "plant", desc := "(III)V" } : Jvm.MethodName)) ∈ os_tb := os_in (i := 650) (by decide +kernel) (by decide +kernel)
theorem k_618 : (Jvm.Cond.code ({ cls := "RobotFaults", name := "plant", desc := "(III)V" } : Jvm.MethodName) prog_1_method_15_code (5 : Nat) (Option.none : Option Jvm.ClassFile.FieldType)) ∈ os_tb := os_in (i := 651) (by decide +kernel) (by decide +kernel)
theorem k_621 : (Jvm.Cond.instantiable "RobotFaults$Planted" (3 : Nat)) ∈ os_tb := os_in (i := 654) (by decide +kernel) (by decide +kernel)
theorem k_622 : (Jvm.Cond.methodLink "RobotFaults" (202 : Nat) ({ cls := "RobotFaults$Planted", name := "<init>", desc := "(LRobotFaults$Robot;II)V" } : Jvm.MethodName)) ∈ os_tb := os_in (i := 655) (by decide +kernel) (by decide +kernel)
theorem k_623 : (Jvm.Cond.instanceMethod ({ cls := "RobotFaults$Planted", name := "<init>", desc := "(LRobotFaults$Robot;II)V" } : Jvm.MethodName)) ∈ os_tb := os_in (i := 656) (by decide +kernel) (by decide +kernel)
theorem k_624 : (Jvm.Cond.code ({ cls := "RobotFaults$Planted", name := "<init>", desc := "(LRobotFaults$Robot;II)V" } : Jvm.MethodName) prog_4_method_1_code (4 : Nat) (Option.none : Option Jvm.ClassFile.FieldType)) ∈ os_tb := os_in (i := 657) (by decide +kernel) (by decide +kernel)
theorem k_625 : (Jvm.Cond.methodLink "RobotFaults$Planted" (1 : Nat) ({ cls := "java/lang/Object", name := "<init>", desc := "()V" } : Jvm.MethodName)) ∈ os_tb := os_in (i := 658) (by decide +kernel) (by decide +kernel)
theorem k_626 : (Jvm.Cond.fieldLink "RobotFaults$Planted" (7 : Nat) "RobotFaults$Planted" "robot" "LRobotFaults$Robot;") ∈ os_tb := os_in (i := 659) (by decide +kernel) (by decide +kernel)
theorem k_627 : (Jvm.Cond.fieldLinkNest "RobotFaults" (379 : Nat) "RobotFaults$Planted" "robot" "LRobotFaults$Robot;" "RobotFaults") ∈ os_tb := os_in (i := 660) (by decide +kernel) (by decide +kernel)
theorem k_628 : (Jvm.Cond.fieldLink "RobotFaults$Planted" (13 : Nat) "RobotFaults$Planted" "kind" "I") ∈ os_tb := os_in (i := 661) (by decide +kernel) (by decide +kernel)
theorem k_629 : (Jvm.Cond.fieldLinkNest "RobotFaults" (380 : Nat) "RobotFaults$Planted" "kind" "I" "RobotFaults") ∈ os_tb := os_in (i := 662) (by decide +kernel) (by decide +kernel)
theorem k_630 : (Jvm.Cond.fieldLink "RobotFaults$Planted" (17 : Nat) "RobotFaults$Planted" "second" "I") ∈ os_tb := os_in (i := 663) (by decide +kernel) (by decide +kernel)
theorem k_631 : (Jvm.Cond.fieldLinkNest "RobotFaults" (363 : Nat) "RobotFaults$Planted" "second" "I" "RobotFaults") ∈ os_tb := os_in (i := 664) (by decide +kernel) (by decide +kernel)
theorem k_639 : (Jvm.Cond.methodLink "RobotFaultsLaw" (139 : Nat) ({ cls := "RobotFaultsLaw", name := "pass", desc := "(LRobotFaults;I[J)I" } : Jvm.MethodName)) ∈ os_tb := os_in (i := 672) (by decide +kernel) (by decide +kernel)
theorem k_640 : (Jvm.Cond.static ({ cls := "RobotFaultsLaw", name := "pass", desc := "(LRobotFaults;I[J)I" } : Jvm.MethodName)) ∈ os_tb := os_in (i := 673) (by decide +kernel) (by decide +kernel)
theorem k_642 : (Jvm.Cond.methodLink "RobotFaultsLaw" (66 : Nat) ({ cls := "RobotFaults", name := "pass", desc := "(I)I" } : Jvm.MethodName)) ∈ os_tb := os_in (i := 675) (by decide +kernel) (by decide +kernel)
theorem k_643 : (Jvm.Cond.instanceMethod ({ cls := "RobotFaults", name := "pass", desc := "(I)I" } : Jvm.MethodName)) ∈ os_tb := os_in (i := 676) (by decide +kernel) (by decide +kernel)
theorem k_644 : (Jvm.Cond.selects "RobotFaults" ({ cls := "RobotFaults", name := "pass", desc := "(I)I" } : Jvm.MethodName) ({ cls := "RobotFaults", name := "pass", desc := "(I)I" } : Jvm.MethodName)) ∈ os_tb := os_in (i := 677) (by decide +kernel) (by decide +kernel)
theorem k_645 : (Jvm.Cond.code ({ cls := "RobotFaults", name := "pass", desc := "(I)I" } : Jvm.MethodName) prog_1_method_16_code (5 : Nat) (Option.some Jvm.ClassFile.FieldType.int)) ∈ os_tb := os_in (i := 678) (by decide +kernel) (by decide +kernel)
theorem k_647 : (Jvm.Cond.constant "RobotFaults" (207 : Nat) (100000 : Int32)) ∈ os_tb := os_in (i := 680) (by decide +kernel) (by decide +kernel)
theorem k_649 : (Jvm.Cond.methodLink "RobotFaults" (210 : Nat) ({ cls := "RobotFaults", name := "nextBusySecond", desc := "(I)I" } : Jvm.MethodName)) ∈ os_tb := os_in (i := 682) (by decide +kernel) (by decide +kernel)
theorem k_651 : (Jvm.Cond.instanceMethod ({ cls := "RobotFaults", name := "nextBusySecond", desc := "(I)I" } : Jvm.MethodName)) ∈ os_tb := os_in (i := 684) (by decide +kernel) (by decide +kernel)
theorem k_652 : (Jvm.Cond.code ({ cls := "RobotFaults", name := "nextBusySecond", desc := "(I)I" } : Jvm.MethodName) prog_1_method_40_code (7 : Nat) (Option.some Jvm.ClassFile.FieldType.int)) ∈ os_tb := os_in (i := 685) (by decide +kernel) (by decide +kernel)
theorem k_653 : (Jvm.Cond.methodLink "RobotFaults" (364 : Nat) ({ cls := "java/lang/Math", name := "min", desc := "(II)I" } : Jvm.MethodName)) ∈ os_tb := os_in (i := 686) (by decide +kernel) (by decide +kernel)
theorem k_654 : (Jvm.Cond.static ({ cls := "java/lang/Math", name := "min", desc := "(II)I" } : Jvm.MethodName)) ∈ os_tb := os_in (i := 687) (by decide +kernel) (by decide +kernel)
theorem k_655 : (Jvm.Cond.code ({ cls := "java/lang/Math", name := "min", desc := "(II)I" } : Jvm.MethodName) prog_14_method_69_code (2 : Nat) (Option.some Jvm.ClassFile.FieldType.int)) ∈ os_tb := os_in (i := 688) (by decide +kernel) (by decide +kernel)
theorem k_656 : (Jvm.Cond.methodLink "RobotFaults" (369 : Nat) ({ cls := "RobotFaults$Alarm", name := "canRise", desc := "()Z" } : Jvm.MethodName)) ∈ os_tb := os_in (i := 689) (by decide +kernel) (by decide +kernel)
theorem k_657 : (Jvm.Cond.instanceMethod ({ cls := "RobotFaults$Alarm", name := "canRise", desc := "()Z" } : Jvm.MethodName)) ∈ os_tb := os_in (i := 690) (by decide +kernel) (by decide +kernel)
theorem k_658 : (Jvm.Cond.selects "RobotFaults$Alarm" ({ cls := "RobotFaults$Alarm", name := "canRise", desc := "()Z" } : Jvm.MethodName) ({ cls := "RobotFaults$Alarm", name := "canRise", desc := "()Z" } : Jvm.MethodName)) ∈ os_tb := os_in (i := 691) (by decide +kernel) (by decide +kernel)
theorem k_659 : (Jvm.Cond.code ({ cls := "RobotFaults$Alarm", name := "canRise", desc := "()Z" } : Jvm.MethodName) prog_2_method_4_code (1 : Nat) (Option.some Jvm.ClassFile.FieldType.boolean)) ∈ os_tb := os_in (i := 692) (by decide +kernel) (by decide +kernel)
theorem k_660 : (Jvm.Cond.methodLink "RobotFaults$Alarm" (42 : Nat) ({ cls := "RobotFaults$Alarm", name := "isAcknowledged", desc := "()Z" } : Jvm.MethodName)) ∈ os_tb := os_in (i := 693) (by decide +kernel) (by decide +kernel)
theorem k_661 : (Jvm.Cond.methodLink "RobotFaults$Alarm" (46 : Nat) ({ cls := "RobotFaults$Fault", name := "isOpen", desc := "()Z" } : Jvm.MethodName)) ∈ os_tb := os_in (i := 694) (by decide +kernel) (by decide +kernel)
theorem k_662 : (Jvm.Cond.methodLink "RobotFaults" (372 : Nat) ({ cls := "RobotFaults$Alarm", name := "nextRise", desc := "(I)I" } : Jvm.MethodName)) ∈ os_tb := os_in (i := 695) (by decide +kernel) (by decide +kernel)
theorem k_663 : (Jvm.Cond.instanceMethod ({ cls := "RobotFaults$Alarm", name := "nextRise", desc := "(I)I" } : Jvm.MethodName)) ∈ os_tb := os_in (i := 696) (by decide +kernel) (by decide +kernel)
theorem k_664 : (Jvm.Cond.selects "RobotFaults$Alarm" ({ cls := "RobotFaults$Alarm", name := "nextRise", desc := "(I)I" } : Jvm.MethodName) ({ cls := "RobotFaults$Alarm", name := "nextRise", desc := "(I)I" } : Jvm.MethodName)) ∈ os_tb := os_in (i := 697) (by decide +kernel) (by decide +kernel)
theorem k_665 : (Jvm.Cond.code ({ cls := "RobotFaults$Alarm", name := "nextRise", desc := "(I)I" } : Jvm.MethodName) prog_2_method_6_code (3 : Nat) (Option.some Jvm.ClassFile.FieldType.int)) ∈ os_tb := os_in (i := 698) (by decide +kernel) (by decide +kernel)
theorem k_666 : (Jvm.Cond.methodLink "RobotFaults" (214 : Nat) ({ cls := "RobotFaults", name := "letPlantedCome", desc := "()V" } : Jvm.MethodName)) ∈ os_tb := os_in (i := 699) (by decide +kernel) (by decide +kernel)
theorem k_668 : (Jvm.Cond.instanceMethod ({ cls := "RobotFaults", name := "letPlantedCome", desc := "()V" } : Jvm.MethodName)) ∈ os_tb := os_in (i := 701) (by decide +kernel) (by decide +kernel)
theorem k_669 : (Jvm.Cond.code ({ cls := "RobotFaults", name := "letPlantedCome", desc := "()V" } : Jvm.MethodName) prog_1_method_41_code (4 : Nat) (Option.none : Option Jvm.ClassFile.FieldType)) ∈ os_tb := os_in (i := 702) (by decide +kernel) (by decide +kernel)
theorem k_670 : (Jvm.Cond.methodLink "RobotFaults" (375 : Nat) ({ cls := "RobotFaults", name := "bring", desc := "(LRobotFaults$Planted;)V" } : Jvm.MethodName)) ∈ os_tb := os_in (i := 703) (by decide +kernel) (by decide +kernel)
theorem k_672 : (Jvm.Cond.instanceMethod ({ cls := "RobotFaults", name := "bring", desc := "(LRobotFaults$Planted;)V" } : Jvm.MethodName)) ∈ os_tb := os_in (i := 705) (by decide +kernel) (by decide +kernel)
theorem k_673 : (Jvm.Cond.code ({ cls := "RobotFaults", name := "bring", desc := "(LRobotFaults$Planted;)V" } : Jvm.MethodName) prog_1_method_42_code (2 : Nat) (Option.none : Option Jvm.ClassFile.FieldType)) ∈ os_tb := os_in (i := 706) (by decide +kernel) (by decide +kernel)
theorem k_674 : (Jvm.Cond.methodLink "RobotFaults" (217 : Nat) ({ cls := "RobotFaults", name := "raiseAlarms", desc := "()I" } : Jvm.MethodName)) ∈ os_tb := os_in (i := 707) (by decide +kernel) (by decide +kernel)
theorem k_676 : (Jvm.Cond.instanceMethod ({ cls := "RobotFaults", name := "raiseAlarms", desc := "()I" } : Jvm.MethodName)) ∈ os_tb := os_in (i := 709) (by decide +kernel) (by decide +kernel)
theorem k_677 : (Jvm.Cond.code ({ cls := "RobotFaults", name := "raiseAlarms", desc := "()I" } : Jvm.MethodName) prog_1_method_43_code (6 : Nat) (Option.some Jvm.ClassFile.FieldType.int)) ∈ os_tb := os_in (i := 710) (by decide +kernel) (by decide +kernel)
theorem k_678 : (Jvm.Cond.methodLink "RobotFaults" (381 : Nat) ({ cls := "RobotFaults$Alarm", name := "isRiseSecond", desc := "(I)Z" } : Jvm.MethodName)) ∈ os_tb := os_in (i := 711) (by decide +kernel) (by decide +kernel)
theorem k_679 : (Jvm.Cond.instanceMethod ({ cls := "RobotFaults$Alarm", name := "isRiseSecond", desc := "(I)Z" } : Jvm.MethodName)) ∈ os_tb := os_in (i := 712) (by decide +kernel) (by decide +kernel)
theorem k_680 : (Jvm.Cond.selects "RobotFaults$Alarm" ({ cls := "RobotFaults$Alarm", name := "isRiseSecond", desc := "(I)Z" } : Jvm.MethodName) ({ cls := "RobotFaults$Alarm", name := "isRiseSecond", desc := "(I)Z" } : Jvm.MethodName)) ∈ os_tb := os_in (i := 713) (by decide +kernel) (by decide +kernel)
theorem k_681 : (Jvm.Cond.code ({ cls := "RobotFaults$Alarm", name := "isRiseSecond", desc := "(I)Z" } : Jvm.MethodName) prog_2_method_5_code (2 : Nat) (Option.some Jvm.ClassFile.FieldType.boolean)) ∈ os_tb := os_in (i := 714) (by decide +kernel) (by decide +kernel)
theorem k_682 : (Jvm.Cond.methodLink "RobotFaultsLaw" (142 : Nat) ({ cls := "RobotFaultsLaw", name := "acknowledge", desc := "(LRobotFaults;II[J)I" } : Jvm.MethodName)) ∈ os_tb := os_in (i := 715) (by decide +kernel) (by decide +kernel)
theorem k_683 : (Jvm.Cond.static ({ cls := "RobotFaultsLaw", name := "acknowledge", desc := "(LRobotFaults;II[J)I" } : Jvm.MethodName)) ∈ os_tb := os_in (i := 716) (by decide +kernel) (by decide +kernel)
theorem k_685 : (Jvm.Cond.methodLink "RobotFaultsLaw" (69 : Nat) ({ cls := "RobotFaults", name := "acknowledge", desc := "(II)I" } : Jvm.MethodName)) ∈ os_tb := os_in (i := 718) (by decide +kernel) (by decide +kernel)
theorem k_686 : (Jvm.Cond.instanceMethod ({ cls := "RobotFaults", name := "acknowledge", desc := "(II)I" } : Jvm.MethodName)) ∈ os_tb := os_in (i := 719) (by decide +kernel) (by decide +kernel)
theorem k_687 : (Jvm.Cond.selects "RobotFaults" ({ cls := "RobotFaults", name := "acknowledge", desc := "(II)I" } : Jvm.MethodName) ({ cls := "RobotFaults", name := "acknowledge", desc := "(II)I" } : Jvm.MethodName)) ∈ os_tb := os_in (i := 720) (by decide +kernel) (by decide +kernel)
theorem k_688 : (Jvm.Cond.code ({ cls := "RobotFaults", name := "acknowledge", desc := "(II)I" } : Jvm.MethodName) prog_1_method_17_code (4 : Nat) (Option.some Jvm.ClassFile.FieldType.int)) ∈ os_tb := os_in (i := 721) (by decide +kernel) (by decide +kernel)
theorem k_689 : (Jvm.Cond.methodLink "RobotFaults" (220 : Nat) ({ cls := "RobotFaults", name := "alarmAt", desc := "(I)LRobotFaults$Alarm;" } : Jvm.MethodName)) ∈ os_tb := os_in (i := 722) (by decide +kernel) (by decide +kernel)
theorem k_691 : (Jvm.Cond.instanceMethod ({ cls := "RobotFaults", name := "alarmAt", desc := "(I)LRobotFaults$Alarm;" } : Jvm.MethodName)) ∈ os_tb := os_in (i := 724) (by decide +kernel) (by decide +kernel)
theorem k_692 : (Jvm.Cond.code ({ cls := "RobotFaults", name := "alarmAt", desc := "(I)LRobotFaults$Alarm;" } : Jvm.MethodName) prog_1_method_26_code (3 : Nat) (Option.some (Jvm.ClassFile.FieldType.object "RobotFaults$Alarm"))) ∈ os_tb := os_in (i := 725) (by decide +kernel) (by decide +kernel)
theorem k_695 : (Jvm.Cond.methodLink "RobotFaultsLaw" (145 : Nat) ({ cls := "RobotFaultsLaw", name := "alarm", desc := "(LRobotFaults;II[J)I" } : Jvm.MethodName)) ∈ os_tb := os_in (i := 728) (by decide +kernel) (by decide +kernel)
theorem k_696 : (Jvm.Cond.static ({ cls := "RobotFaultsLaw", name := "alarm", desc := "(LRobotFaults;II[J)I" } : Jvm.MethodName)) ∈ os_tb := os_in (i := 729) (by decide +kernel) (by decide +kernel)
theorem k_698 : (Jvm.Cond.methodLink "RobotFaultsLaw" (72 : Nat) ({ cls := "RobotFaults", name := "alarm", desc := "(II)I" } : Jvm.MethodName)) ∈ os_tb := os_in (i := 731) (by decide +kernel) (by decide +kernel)
theorem k_699 : (Jvm.Cond.instanceMethod ({ cls := "RobotFaults", name := "alarm", desc := "(II)I" } : Jvm.MethodName)) ∈ os_tb := os_in (i := 732) (by decide +kernel) (by decide +kernel)
theorem k_700 : (Jvm.Cond.selects "RobotFaults" ({ cls := "RobotFaults", name := "alarm", desc := "(II)I" } : Jvm.MethodName) ({ cls := "RobotFaults", name := "alarm", desc := "(II)I" } : Jvm.MethodName)) ∈ os_tb := os_in (i := 733) (by decide +kernel) (by decide +kernel)
theorem k_701 : (Jvm.Cond.code ({ cls := "RobotFaults", name := "alarm", desc := "(II)I" } : Jvm.MethodName) prog_1_method_18_code (4 : Nat) (Option.some Jvm.ClassFile.FieldType.int)) ∈ os_tb := os_in (i := 734) (by decide +kernel) (by decide +kernel)
theorem k_703 : (Jvm.Cond.methodLink "RobotFaultsLaw" (148 : Nat) ({ cls := "RobotFaultsLaw", name := "known", desc := "(LRobotFaults;II[J)I" } : Jvm.MethodName)) ∈ os_tb := os_in (i := 736) (by decide +kernel) (by decide +kernel)
theorem k_704 : (Jvm.Cond.static ({ cls := "RobotFaultsLaw", name := "known", desc := "(LRobotFaults;II[J)I" } : Jvm.MethodName)) ∈ os_tb := os_in (i := 737) (by decide +kernel) (by decide +kernel)
theorem k_706 : (Jvm.Cond.methodLink "RobotFaultsLaw" (75 : Nat) ({ cls := "RobotFaults", name := "known", desc := "(II)I" } : Jvm.MethodName)) ∈ os_tb := os_in (i := 739) (by decide +kernel) (by decide +kernel)
theorem k_707 : (Jvm.Cond.instanceMethod ({ cls := "RobotFaults", name := "known", desc := "(II)I" } : Jvm.MethodName)) ∈ os_tb := os_in (i := 740) (by decide +kernel) (by decide +kernel)
theorem k_708 : (Jvm.Cond.selects "RobotFaults" ({ cls := "RobotFaults", name := "known", desc := "(II)I" } : Jvm.MethodName) ({ cls := "RobotFaults", name := "known", desc := "(II)I" } : Jvm.MethodName)) ∈ os_tb := os_in (i := 741) (by decide +kernel) (by decide +kernel)
theorem k_709 : (Jvm.Cond.code ({ cls := "RobotFaults", name := "known", desc := "(II)I" } : Jvm.MethodName) prog_1_method_19_code (4 : Nat) (Option.some Jvm.ClassFile.FieldType.int)) ∈ os_tb := os_in (i := 742) (by decide +kernel) (by decide +kernel)
theorem k_711 : (Jvm.Cond.methodLink "RobotFaultsLaw" (151 : Nat) ({ cls := "RobotFaultsLaw", name := "told", desc := "(LRobotFaults;II[J)I" } : Jvm.MethodName)) ∈ os_tb := os_in (i := 744) (by decide +kernel) (by decide +kernel)
theorem k_712 : (Jvm.Cond.static ({ cls := "RobotFaultsLaw", name := "told", desc := "(LRobotFaults;II[J)I" } : Jvm.MethodName)) ∈ os_tb := os_in (i := 745) (by decide +kernel) (by decide +kernel)
theorem k_714 : (Jvm.Cond.methodLink "RobotFaultsLaw" (78 : Nat) ({ cls := "RobotFaults", name := "told", desc := "(II)I" } : Jvm.MethodName)) ∈ os_tb := os_in (i := 747) (by decide +kernel) (by decide +kernel)
theorem k_715 : (Jvm.Cond.instanceMethod ({ cls := "RobotFaults", name := "told", desc := "(II)I" } : Jvm.MethodName)) ∈ os_tb := os_in (i := 748) (by decide +kernel) (by decide +kernel)
theorem k_716 : (Jvm.Cond.selects "RobotFaults" ({ cls := "RobotFaults", name := "told", desc := "(II)I" } : Jvm.MethodName) ({ cls := "RobotFaults", name := "told", desc := "(II)I" } : Jvm.MethodName)) ∈ os_tb := os_in (i := 749) (by decide +kernel) (by decide +kernel)
theorem k_717 : (Jvm.Cond.code ({ cls := "RobotFaults", name := "told", desc := "(II)I" } : Jvm.MethodName) prog_1_method_20_code (4 : Nat) (Option.some Jvm.ClassFile.FieldType.int)) ∈ os_tb := os_in (i := 750) (by decide +kernel) (by decide +kernel)
theorem k_719 : (Jvm.Cond.classLink "RobotFaultsLaw" (82 : Nat) "RobotFaultsModel") ∈ os_tb := os_in (i := 752) (by decide +kernel) (by decide +kernel)
theorem k_720 : (Jvm.Cond.instantiable "RobotFaultsModel" (38 : Nat)) ∈ os_tb := os_in (i := 753) (by decide +kernel) (by decide +kernel)
theorem k_721 : (Jvm.Cond.methodLink "RobotFaultsLaw" (84 : Nat) ({ cls := "RobotFaultsModel", name := "<init>", desc := "()V" } : Jvm.MethodName)) ∈ os_tb := os_in (i := 754) (by decide +kernel) (by decide +kernel)
theorem k_722 : (Jvm.Cond.instanceMethod ({ cls := "RobotFaultsModel", name := "<init>", desc := "()V" } : Jvm.MethodName)) ∈ os_tb := os_in (i := 755) (by decide +kernel) (by decide +kernel)
theorem k_723 : (Jvm.Cond.code ({ cls := "RobotFaultsModel", name := "<init>", desc := "()V" } : Jvm.MethodName) prog_9_method_1_code (1 : Nat) (Option.none : Option Jvm.ClassFile.FieldType)) ∈ os_tb := os_in (i := 756) (by decide +kernel) (by decide +kernel)
theorem k_724 : (Jvm.Cond.methodLink "RobotFaultsModel" (1 : Nat) ({ cls := "java/lang/Object", name := "<init>", desc := "()V" } : Jvm.MethodName)) ∈ os_tb := os_in (i := 757) (by decide +kernel) (by decide +kernel)
theorem k_725 : (Jvm.Cond.fieldLink "RobotFaultsModel" (104 : Nat) "RobotFaultsModel" "code" "I") ∈ os_tb := os_in (i := 758) (by decide +kernel) (by decide +kernel)
theorem k_726 : (Jvm.Cond.fieldLink "RobotFaultsModel" (138 : Nat) "RobotFaultsModel" "time" "I") ∈ os_tb := os_in (i := 759) (by decide +kernel) (by decide +kernel)
theorem k_727 : (Jvm.Cond.fieldLink "RobotFaultsModel" (108 : Nat) "RobotFaultsModel" "pieces" "I") ∈ os_tb := os_in (i := 760) (by decide +kernel) (by decide +kernel)
theorem k_728 : (Jvm.Cond.fieldLink "RobotFaultsModel" (7 : Nat) "RobotFaultsModel" "linked" "[Z") ∈ os_tb := os_in (i := 761) (by decide +kernel) (by decide +kernel)
theorem k_729 : (Jvm.Cond.fieldLink "RobotFaultsModel" (115 : Nat) "RobotFaultsModel" "robots" "I") ∈ os_tb := os_in (i := 762) (by decide +kernel) (by decide +kernel)
theorem k_730 : (Jvm.Cond.fieldLink "RobotFaultsModel" (13 : Nat) "RobotFaultsModel" "at" "[I") ∈ os_tb := os_in (i := 763) (by decide +kernel) (by decide +kernel)
theorem k_731 : (Jvm.Cond.fieldLink "RobotFaultsModel" (17 : Nat) "RobotFaultsModel" "unit" "[I") ∈ os_tb := os_in (i := 764) (by decide +kernel) (by decide +kernel)
theorem k_732 : (Jvm.Cond.fieldLink "RobotFaultsModel" (20 : Nat) "RobotFaultsModel" "state" "[I") ∈ os_tb := os_in (i := 765) (by decide +kernel) (by decide +kernel)
theorem k_733 : (Jvm.Cond.fieldLink "RobotFaultsModel" (23 : Nat) "RobotFaultsModel" "wantsTest" "[Z") ∈ os_tb := os_in (i := 766) (by decide +kernel) (by decide +kernel)
theorem k_734 : (Jvm.Cond.fieldLink "RobotFaultsModel" (26 : Nat) "RobotFaultsModel" "lostSince" "[I") ∈ os_tb := os_in (i := 767) (by decide +kernel) (by decide +kernel)
theorem k_735 : (Jvm.Cond.fieldLink "RobotFaultsModel" (29 : Nat) "RobotFaultsModel" "persons" "[I") ∈ os_tb := os_in (i := 768) (by decide +kernel) (by decide +kernel)
theorem k_736 : (Jvm.Cond.fieldLink "RobotFaultsModel" (32 : Nat) "RobotFaultsModel" "tests" "[Z") ∈ os_tb := os_in (i := 769) (by decide +kernel) (by decide +kernel)
theorem k_737 : (Jvm.Cond.fieldLink "RobotFaultsModel" (35 : Nat) "RobotFaultsModel" "ranks" "[I") ∈ os_tb := os_in (i := 770) (by decide +kernel) (by decide +kernel)
theorem k_738 : (Jvm.Cond.fieldLink "RobotFaultsModel" (118 : Nat) "RobotFaultsModel" "faults" "I") ∈ os_tb := os_in (i := 771) (by decide +kernel) (by decide +kernel)
theorem k_739 : (Jvm.Cond.fieldLink "RobotFaultsModel" (38 : Nat) "RobotFaultsModel" "robotOf" "[I") ∈ os_tb := os_in (i := 772) (by decide +kernel) (by decide +kernel)
theorem k_740 : (Jvm.Cond.fieldLink "RobotFaultsModel" (41 : Nat) "RobotFaultsModel" "kindOf" "[I") ∈ os_tb := os_in (i := 773) (by decide +kernel) (by decide +kernel)
theorem k_741 : (Jvm.Cond.fieldLink "RobotFaultsModel" (44 : Nat) "RobotFaultsModel" "since" "[I") ∈ os_tb := os_in (i := 774) (by decide +kernel) (by decide +kernel)
theorem k_742 : (Jvm.Cond.fieldLink "RobotFaultsModel" (47 : Nat) "RobotFaultsModel" "until" "[I") ∈ os_tb := os_in (i := 775) (by decide +kernel) (by decide +kernel)
theorem k_743 : (Jvm.Cond.fieldLink "RobotFaultsModel" (50 : Nat) "RobotFaultsModel" "alarmOf" "[I") ∈ os_tb := os_in (i := 776) (by decide +kernel) (by decide +kernel)
theorem k_744 : (Jvm.Cond.fieldLink "RobotFaultsModel" (53 : Nat) "RobotFaultsModel" "steps" "[I") ∈ os_tb := os_in (i := 777) (by decide +kernel) (by decide +kernel)
theorem k_745 : (Jvm.Cond.fieldLink "RobotFaultsModel" (56 : Nat) "RobotFaultsModel" "wants" "[I") ∈ os_tb := os_in (i := 778) (by decide +kernel) (by decide +kernel)
theorem k_746 : (Jvm.Cond.fieldLink "RobotFaultsModel" (59 : Nat) "RobotFaultsModel" "planted" "[Z") ∈ os_tb := os_in (i := 779) (by decide +kernel) (by decide +kernel)
theorem k_747 : (Jvm.Cond.fieldLink "RobotFaultsModel" (62 : Nat) "RobotFaultsModel" "where" "[I") ∈ os_tb := os_in (i := 780) (by decide +kernel) (by decide +kernel)
theorem k_748 : (Jvm.Cond.fieldLink "RobotFaultsModel" (65 : Nat) "RobotFaultsModel" "lostUnit" "[I") ∈ os_tb := os_in (i := 781) (by decide +kernel) (by decide +kernel)
theorem k_749 : (Jvm.Cond.fieldLink "RobotFaultsModel" (121 : Nat) "RobotFaultsModel" "alarms" "I") ∈ os_tb := os_in (i := 782) (by decide +kernel) (by decide +kernel)
theorem k_750 : (Jvm.Cond.fieldLink "RobotFaultsModel" (68 : Nat) "RobotFaultsModel" "alarmRobot" "[I") ∈ os_tb := os_in (i := 783) (by decide +kernel) (by decide +kernel)
theorem k_751 : (Jvm.Cond.fieldLink "RobotFaultsModel" (71 : Nat) "RobotFaultsModel" "alarmKind" "[I") ∈ os_tb := os_in (i := 784) (by decide +kernel) (by decide +kernel)
theorem k_752 : (Jvm.Cond.fieldLink "RobotFaultsModel" (74 : Nat) "RobotFaultsModel" "alarmRank" "[I") ∈ os_tb := os_in (i := 785) (by decide +kernel) (by decide +kernel)
theorem k_753 : (Jvm.Cond.fieldLink "RobotFaultsModel" (77 : Nat) "RobotFaultsModel" "level" "[I") ∈ os_tb := os_in (i := 786) (by decide +kernel) (by decide +kernel)
theorem k_754 : (Jvm.Cond.fieldLink "RobotFaultsModel" (80 : Nat) "RobotFaultsModel" "joined" "[I") ∈ os_tb := os_in (i := 787) (by decide +kernel) (by decide +kernel)
theorem k_755 : (Jvm.Cond.fieldLink "RobotFaultsModel" (83 : Nat) "RobotFaultsModel" "person" "[I") ∈ os_tb := os_in (i := 788) (by decide +kernel) (by decide +kernel)
theorem k_756 : (Jvm.Cond.fieldLink "RobotFaultsModel" (86 : Nat) "RobotFaultsModel" "lastSecond" "[I") ∈ os_tb := os_in (i := 789) (by decide +kernel) (by decide +kernel)
theorem k_757 : (Jvm.Cond.fieldLink "RobotFaultsModel" (89 : Nat) "RobotFaultsModel" "lastFault" "[I") ∈ os_tb := os_in (i := 790) (by decide +kernel) (by decide +kernel)
theorem k_758 : (Jvm.Cond.fieldLink "RobotFaultsModel" (169 : Nat) "RobotFaultsModel" "plants" "I") ∈ os_tb := os_in (i := 791) (by decide +kernel) (by decide +kernel)
theorem k_759 : (Jvm.Cond.fieldLink "RobotFaultsModel" (92 : Nat) "RobotFaultsModel" "plantRobot" "[I") ∈ os_tb := os_in (i := 792) (by decide +kernel) (by decide +kernel)
theorem k_760 : (Jvm.Cond.fieldLink "RobotFaultsModel" (95 : Nat) "RobotFaultsModel" "plantKind" "[I") ∈ os_tb := os_in (i := 793) (by decide +kernel) (by decide +kernel)
theorem k_761 : (Jvm.Cond.fieldLink "RobotFaultsModel" (98 : Nat) "RobotFaultsModel" "plantTime" "[I") ∈ os_tb := os_in (i := 794) (by decide +kernel) (by decide +kernel)
theorem k_762 : (Jvm.Cond.fieldLink "RobotFaultsModel" (101 : Nat) "RobotFaultsModel" "far" "[I") ∈ os_tb := os_in (i := 795) (by decide +kernel) (by decide +kernel)
theorem k_840 : (Jvm.Cond.arrayClass Jvm.ClassFile.FieldType.boolean) ∈ os_tb := os_in (i := 873) (by decide +kernel) (by decide +kernel)
theorem k_841 : (Jvm.Cond.methodLink "RobotFaultsLaw" (91 : Nat) ({ cls := "RobotFaultsModel", name := "thrown", desc := "()I" } : Jvm.MethodName)) ∈ os_tb := os_in (i := 874) (by decide +kernel) (by decide +kernel)
theorem k_842 : (Jvm.Cond.instanceMethod ({ cls := "RobotFaultsModel", name := "thrown", desc := "()I" } : Jvm.MethodName)) ∈ os_tb := os_in (i := 875) (by decide +kernel) (by decide +kernel)
theorem k_843 : (Jvm.Cond.selects "RobotFaultsModel" ({ cls := "RobotFaultsModel", name := "thrown", desc := "()I" } : Jvm.MethodName) ({ cls := "RobotFaultsModel", name := "thrown", desc := "()I" } : Jvm.MethodName)) ∈ os_tb := os_in (i := 876) (by decide +kernel) (by decide +kernel)
theorem k_844 : (Jvm.Cond.code ({ cls := "RobotFaultsModel", name := "thrown", desc := "()I" } : Jvm.MethodName) prog_9_method_2_code (1 : Nat) (Option.some Jvm.ClassFile.FieldType.int)) ∈ os_tb := os_in (i := 877) (by decide +kernel) (by decide +kernel)
theorem k_845 : (Jvm.Cond.methodLink "RobotFaultsLaw" (90 : Nat) ({ cls := "RobotFaultsModel", name := "piece", desc := "()I" } : Jvm.MethodName)) ∈ os_tb := os_in (i := 878) (by decide +kernel) (by decide +kernel)
theorem k_846 : (Jvm.Cond.instanceMethod ({ cls := "RobotFaultsModel", name := "piece", desc := "()I" } : Jvm.MethodName)) ∈ os_tb := os_in (i := 879) (by decide +kernel) (by decide +kernel)
theorem k_847 : (Jvm.Cond.selects "RobotFaultsModel" ({ cls := "RobotFaultsModel", name := "piece", desc := "()I" } : Jvm.MethodName) ({ cls := "RobotFaultsModel", name := "piece", desc := "()I" } : Jvm.MethodName)) ∈ os_tb := os_in (i := 880) (by decide +kernel) (by decide +kernel)
theorem k_848 : (Jvm.Cond.code ({ cls := "RobotFaultsModel", name := "piece", desc := "()I" } : Jvm.MethodName) prog_9_method_9_code (1 : Nat) (Option.some Jvm.ClassFile.FieldType.int)) ∈ os_tb := os_in (i := 881) (by decide +kernel) (by decide +kernel)
theorem k_849 : (Jvm.Cond.methodLink "RobotFaultsLaw" (97 : Nat) ({ cls := "RobotFaultsModel", name := "link", desc := "(II)V" } : Jvm.MethodName)) ∈ os_tb := os_in (i := 882) (by decide +kernel) (by decide +kernel)
theorem k_850 : (Jvm.Cond.instanceMethod ({ cls := "RobotFaultsModel", name := "link", desc := "(II)V" } : Jvm.MethodName)) ∈ os_tb := os_in (i := 883) (by decide +kernel) (by decide +kernel)
theorem k_851 : (Jvm.Cond.selects "RobotFaultsModel" ({ cls := "RobotFaultsModel", name := "link", desc := "(II)V" } : Jvm.MethodName) ({ cls := "RobotFaultsModel", name := "link", desc := "(II)V" } : Jvm.MethodName)) ∈ os_tb := os_in (i := 884) (by decide +kernel) (by decide +kernel)
theorem k_852 : (Jvm.Cond.code ({ cls := "RobotFaultsModel", name := "link", desc := "(II)V" } : Jvm.MethodName) prog_9_method_10_code (3 : Nat) (Option.none : Option Jvm.ClassFile.FieldType)) ∈ os_tb := os_in (i := 885) (by decide +kernel) (by decide +kernel)
theorem k_853 : (Jvm.Cond.methodLink "RobotFaultsModel" (124 : Nat) ({ cls := "RobotFaultsModel", name := "isPiece", desc := "(I)Z" } : Jvm.MethodName)) ∈ os_tb := os_in (i := 886) (by decide +kernel) (by decide +kernel)
theorem k_855 : (Jvm.Cond.instanceMethod ({ cls := "RobotFaultsModel", name := "isPiece", desc := "(I)Z" } : Jvm.MethodName)) ∈ os_tb := os_in (i := 888) (by decide +kernel) (by decide +kernel)
theorem k_856 : (Jvm.Cond.code ({ cls := "RobotFaultsModel", name := "isPiece", desc := "(I)Z" } : Jvm.MethodName) prog_9_method_4_code (2 : Nat) (Option.some Jvm.ClassFile.FieldType.boolean)) ∈ os_tb := os_in (i := 889) (by decide +kernel) (by decide +kernel)
theorem k_857 : (Jvm.Cond.methodLink "RobotFaultsModel" (111 : Nat) ({ cls := "RobotFaultsModel", name := "in", desc := "(III)Z" } : Jvm.MethodName)) ∈ os_tb := os_in (i := 890) (by decide +kernel) (by decide +kernel)
theorem k_858 : (Jvm.Cond.static ({ cls := "RobotFaultsModel", name := "in", desc := "(III)Z" } : Jvm.MethodName)) ∈ os_tb := os_in (i := 891) (by decide +kernel) (by decide +kernel)
theorem k_859 : (Jvm.Cond.code ({ cls := "RobotFaultsModel", name := "in", desc := "(III)Z" } : Jvm.MethodName) prog_9_method_3_code (3 : Nat) (Option.some Jvm.ClassFile.FieldType.boolean)) ∈ os_tb := os_in (i := 892) (by decide +kernel) (by decide +kernel)
theorem k_860 : (Jvm.Cond.methodLink "RobotFaultsLaw" (101 : Nat) ({ cls := "RobotFaultsModel", name := "robot", desc := "(I)I" } : Jvm.MethodName)) ∈ os_tb := os_in (i := 893) (by decide +kernel) (by decide +kernel)
theorem k_861 : (Jvm.Cond.instanceMethod ({ cls := "RobotFaultsModel", name := "robot", desc := "(I)I" } : Jvm.MethodName)) ∈ os_tb := os_in (i := 894) (by decide +kernel) (by decide +kernel)
theorem k_862 : (Jvm.Cond.selects "RobotFaultsModel" ({ cls := "RobotFaultsModel", name := "robot", desc := "(I)I" } : Jvm.MethodName) ({ cls := "RobotFaultsModel", name := "robot", desc := "(I)I" } : Jvm.MethodName)) ∈ os_tb := os_in (i := 895) (by decide +kernel) (by decide +kernel)
theorem k_863 : (Jvm.Cond.code ({ cls := "RobotFaultsModel", name := "robot", desc := "(I)I" } : Jvm.MethodName) prog_9_method_11_code (2 : Nat) (Option.some Jvm.ClassFile.FieldType.int)) ∈ os_tb := os_in (i := 896) (by decide +kernel) (by decide +kernel)
theorem k_864 : (Jvm.Cond.methodLink "RobotFaultsLaw" (105 : Nat) ({ cls := "RobotFaultsModel", name := "rule", desc := "(IIZI)V" } : Jvm.MethodName)) ∈ os_tb := os_in (i := 897) (by decide +kernel) (by decide +kernel)
theorem k_865 : (Jvm.Cond.instanceMethod ({ cls := "RobotFaultsModel", name := "rule", desc := "(IIZI)V" } : Jvm.MethodName)) ∈ os_tb := os_in (i := 898) (by decide +kernel) (by decide +kernel)
theorem k_866 : (Jvm.Cond.selects "RobotFaultsModel" ({ cls := "RobotFaultsModel", name := "rule", desc := "(IIZI)V" } : Jvm.MethodName) ({ cls := "RobotFaultsModel", name := "rule", desc := "(IIZI)V" } : Jvm.MethodName)) ∈ os_tb := os_in (i := 899) (by decide +kernel) (by decide +kernel)
theorem k_867 : (Jvm.Cond.code ({ cls := "RobotFaultsModel", name := "rule", desc := "(IIZI)V" } : Jvm.MethodName) prog_9_method_12_code (5 : Nat) (Option.none : Option Jvm.ClassFile.FieldType)) ∈ os_tb := os_in (i := 900) (by decide +kernel) (by decide +kernel)
theorem k_868 : (Jvm.Cond.methodLink "RobotFaultsModel" (128 : Nat) ({ cls := "RobotFaultsModel", name := "isKind", desc := "(I)Z" } : Jvm.MethodName)) ∈ os_tb := os_in (i := 901) (by decide +kernel) (by decide +kernel)
theorem k_869 : (Jvm.Cond.static ({ cls := "RobotFaultsModel", name := "isKind", desc := "(I)Z" } : Jvm.MethodName)) ∈ os_tb := os_in (i := 902) (by decide +kernel) (by decide +kernel)
theorem k_870 : (Jvm.Cond.code ({ cls := "RobotFaultsModel", name := "isKind", desc := "(I)Z" } : Jvm.MethodName) prog_9_method_8_code (1 : Nat) (Option.some Jvm.ClassFile.FieldType.boolean)) ∈ os_tb := os_in (i := 903) (by decide +kernel) (by decide +kernel)
theorem k_871 : (Jvm.Cond.methodLink "RobotFaultsLaw" (108 : Nat) ({ cls := "RobotFaultsModel", name := "move", desc := "(II)V" } : Jvm.MethodName)) ∈ os_tb := os_in (i := 904) (by decide +kernel) (by decide +kernel)
theorem k_872 : (Jvm.Cond.instanceMethod ({ cls := "RobotFaultsModel", name := "move", desc := "(II)V" } : Jvm.MethodName)) ∈ os_tb := os_in (i := 905) (by decide +kernel) (by decide +kernel)
theorem k_873 : (Jvm.Cond.selects "RobotFaultsModel" ({ cls := "RobotFaultsModel", name := "move", desc := "(II)V" } : Jvm.MethodName) ({ cls := "RobotFaultsModel", name := "move", desc := "(II)V" } : Jvm.MethodName)) ∈ os_tb := os_in (i := 906) (by decide +kernel) (by decide +kernel)
theorem k_874 : (Jvm.Cond.code ({ cls := "RobotFaultsModel", name := "move", desc := "(II)V" } : Jvm.MethodName) prog_9_method_13_code (3 : Nat) (Option.none : Option Jvm.ClassFile.FieldType)) ∈ os_tb := os_in (i := 907) (by decide +kernel) (by decide +kernel)
theorem k_875 : (Jvm.Cond.methodLink "RobotFaultsModel" (131 : Nat) ({ cls := "RobotFaultsModel", name := "isRobot", desc := "(I)Z" } : Jvm.MethodName)) ∈ os_tb := os_in (i := 908) (by decide +kernel) (by decide +kernel)
theorem k_877 : (Jvm.Cond.instanceMethod ({ cls := "RobotFaultsModel", name := "isRobot", desc := "(I)Z" } : Jvm.MethodName)) ∈ os_tb := os_in (i := 910) (by decide +kernel) (by decide +kernel)
theorem k_878 : (Jvm.Cond.code ({ cls := "RobotFaultsModel", name := "isRobot", desc := "(I)Z" } : Jvm.MethodName) prog_9_method_5_code (2 : Nat) (Option.some Jvm.ClassFile.FieldType.boolean)) ∈ os_tb := os_in (i := 911) (by decide +kernel) (by decide +kernel)
theorem k_879 : (Jvm.Cond.methodLink "RobotFaultsLaw" (111 : Nat) ({ cls := "RobotFaultsModel", name := "load", desc := "(II)V" } : Jvm.MethodName)) ∈ os_tb := os_in (i := 912) (by decide +kernel) (by decide +kernel)
theorem k_880 : (Jvm.Cond.instanceMethod ({ cls := "RobotFaultsModel", name := "load", desc := "(II)V" } : Jvm.MethodName)) ∈ os_tb := os_in (i := 913) (by decide +kernel) (by decide +kernel)
theorem k_881 : (Jvm.Cond.selects "RobotFaultsModel" ({ cls := "RobotFaultsModel", name := "load", desc := "(II)V" } : Jvm.MethodName) ({ cls := "RobotFaultsModel", name := "load", desc := "(II)V" } : Jvm.MethodName)) ∈ os_tb := os_in (i := 914) (by decide +kernel) (by decide +kernel)
theorem k_882 : (Jvm.Cond.code ({ cls := "RobotFaultsModel", name := "load", desc := "(II)V" } : Jvm.MethodName) prog_9_method_14_code (3 : Nat) (Option.none : Option Jvm.ClassFile.FieldType)) ∈ os_tb := os_in (i := 915) (by decide +kernel) (by decide +kernel)
theorem k_883 : (Jvm.Cond.methodLink "RobotFaultsLaw" (115 : Nat) ({ cls := "RobotFaultsModel", name := "fault", desc := "(II)I" } : Jvm.MethodName)) ∈ os_tb := os_in (i := 916) (by decide +kernel) (by decide +kernel)
theorem k_884 : (Jvm.Cond.instanceMethod ({ cls := "RobotFaultsModel", name := "fault", desc := "(II)I" } : Jvm.MethodName)) ∈ os_tb := os_in (i := 917) (by decide +kernel) (by decide +kernel)
theorem k_885 : (Jvm.Cond.selects "RobotFaultsModel" ({ cls := "RobotFaultsModel", name := "fault", desc := "(II)I" } : Jvm.MethodName) ({ cls := "RobotFaultsModel", name := "fault", desc := "(II)I" } : Jvm.MethodName)) ∈ os_tb := os_in (i := 918) (by decide +kernel) (by decide +kernel)
theorem k_886 : (Jvm.Cond.code ({ cls := "RobotFaultsModel", name := "fault", desc := "(II)I" } : Jvm.MethodName) prog_9_method_20_code (3 : Nat) (Option.some Jvm.ClassFile.FieldType.int)) ∈ os_tb := os_in (i := 919) (by decide +kernel) (by decide +kernel)
theorem k_887 : (Jvm.Cond.methodLink "RobotFaultsModel" (144 : Nat) ({ cls := "RobotFaultsModel", name := "bars", desc := "(II)I" } : Jvm.MethodName)) ∈ os_tb := os_in (i := 920) (by decide +kernel) (by decide +kernel)
theorem k_889 : (Jvm.Cond.instanceMethod ({ cls := "RobotFaultsModel", name := "bars", desc := "(II)I" } : Jvm.MethodName)) ∈ os_tb := os_in (i := 922) (by decide +kernel) (by decide +kernel)
theorem k_890 : (Jvm.Cond.code ({ cls := "RobotFaultsModel", name := "bars", desc := "(II)I" } : Jvm.MethodName) prog_9_method_18_code (3 : Nat) (Option.some Jvm.ClassFile.FieldType.int)) ∈ os_tb := os_in (i := 923) (by decide +kernel) (by decide +kernel)
theorem k_891 : (Jvm.Cond.methodLink "RobotFaultsModel" (147 : Nat) ({ cls := "RobotFaultsModel", name := "come", desc := "(IIZ)I" } : Jvm.MethodName)) ∈ os_tb := os_in (i := 924) (by decide +kernel) (by decide +kernel)
theorem k_893 : (Jvm.Cond.instanceMethod ({ cls := "RobotFaultsModel", name := "come", desc := "(IIZ)I" } : Jvm.MethodName)) ∈ os_tb := os_in (i := 926) (by decide +kernel) (by decide +kernel)
theorem k_894 : (Jvm.Cond.code ({ cls := "RobotFaultsModel", name := "come", desc := "(IIZ)I" } : Jvm.MethodName) prog_9_method_19_code (6 : Nat) (Option.some Jvm.ClassFile.FieldType.int)) ∈ os_tb := os_in (i := 927) (by decide +kernel) (by decide +kernel)
theorem k_895 : (Jvm.Cond.methodLink "RobotFaultsModel" (134 : Nat) ({ cls := "RobotFaultsModel", name := "openOf", desc := "(II)I" } : Jvm.MethodName)) ∈ os_tb := os_in (i := 928) (by decide +kernel) (by decide +kernel)
theorem k_897 : (Jvm.Cond.instanceMethod ({ cls := "RobotFaultsModel", name := "openOf", desc := "(II)I" } : Jvm.MethodName)) ∈ os_tb := os_in (i := 930) (by decide +kernel) (by decide +kernel)
theorem k_898 : (Jvm.Cond.code ({ cls := "RobotFaultsModel", name := "openOf", desc := "(II)I" } : Jvm.MethodName) prog_9_method_15_code (4 : Nat) (Option.some Jvm.ClassFile.FieldType.int)) ∈ os_tb := os_in (i := 931) (by decide +kernel) (by decide +kernel)
theorem k_899 : (Jvm.Cond.methodLink "RobotFaultsModel" (141 : Nat) ({ cls := "RobotFaultsModel", name := "alarmFor", desc := "(II)I" } : Jvm.MethodName)) ∈ os_tb := os_in (i := 932) (by decide +kernel) (by decide +kernel)
theorem k_901 : (Jvm.Cond.instanceMethod ({ cls := "RobotFaultsModel", name := "alarmFor", desc := "(II)I" } : Jvm.MethodName)) ∈ os_tb := os_in (i := 934) (by decide +kernel) (by decide +kernel)
theorem k_902 : (Jvm.Cond.code ({ cls := "RobotFaultsModel", name := "alarmFor", desc := "(II)I" } : Jvm.MethodName) prog_9_method_17_code (4 : Nat) (Option.some Jvm.ClassFile.FieldType.int)) ∈ os_tb := os_in (i := 935) (by decide +kernel) (by decide +kernel)
theorem k_903 : (Jvm.Cond.methodLink "RobotFaultsLaw" (118 : Nat) ({ cls := "RobotFaultsModel", name := "step", desc := "(II)I" } : Jvm.MethodName)) ∈ os_tb := os_in (i := 936) (by decide +kernel) (by decide +kernel)
theorem k_904 : (Jvm.Cond.instanceMethod ({ cls := "RobotFaultsModel", name := "step", desc := "(II)I" } : Jvm.MethodName)) ∈ os_tb := os_in (i := 937) (by decide +kernel) (by decide +kernel)
theorem k_905 : (Jvm.Cond.selects "RobotFaultsModel" ({ cls := "RobotFaultsModel", name := "step", desc := "(II)I" } : Jvm.MethodName) ({ cls := "RobotFaultsModel", name := "step", desc := "(II)I" } : Jvm.MethodName)) ∈ os_tb := os_in (i := 938) (by decide +kernel) (by decide +kernel)
theorem k_906 : (Jvm.Cond.code ({ cls := "RobotFaultsModel", name := "step", desc := "(II)I" } : Jvm.MethodName) prog_9_method_22_code (3 : Nat) (Option.some Jvm.ClassFile.FieldType.int)) ∈ os_tb := os_in (i := 939) (by decide +kernel) (by decide +kernel)
theorem k_907 : (Jvm.Cond.methodLink "RobotFaultsModel" (151 : Nat) ({ cls := "RobotFaultsModel", name := "isFault", desc := "(I)Z" } : Jvm.MethodName)) ∈ os_tb := os_in (i := 940) (by decide +kernel) (by decide +kernel)
theorem k_909 : (Jvm.Cond.instanceMethod ({ cls := "RobotFaultsModel", name := "isFault", desc := "(I)Z" } : Jvm.MethodName)) ∈ os_tb := os_in (i := 942) (by decide +kernel) (by decide +kernel)
theorem k_910 : (Jvm.Cond.code ({ cls := "RobotFaultsModel", name := "isFault", desc := "(I)Z" } : Jvm.MethodName) prog_9_method_6_code (2 : Nat) (Option.some Jvm.ClassFile.FieldType.boolean)) ∈ os_tb := os_in (i := 943) (by decide +kernel) (by decide +kernel)
theorem k_911 : (Jvm.Cond.methodLink "RobotFaultsModel" (154 : Nat) ({ cls := "RobotFaultsModel", name := "bits", desc := "(I)I" } : Jvm.MethodName)) ∈ os_tb := os_in (i := 944) (by decide +kernel) (by decide +kernel)
theorem k_912 : (Jvm.Cond.static ({ cls := "RobotFaultsModel", name := "bits", desc := "(I)I" } : Jvm.MethodName)) ∈ os_tb := os_in (i := 945) (by decide +kernel) (by decide +kernel)
theorem k_913 : (Jvm.Cond.code ({ cls := "RobotFaultsModel", name := "bits", desc := "(I)I" } : Jvm.MethodName) prog_9_method_21_code (3 : Nat) (Option.some Jvm.ClassFile.FieldType.int)) ∈ os_tb := os_in (i := 946) (by decide +kernel) (by decide +kernel)
theorem k_914 : (Jvm.Cond.methodLink "RobotFaultsLaw" (122 : Nat) ({ cls := "RobotFaultsModel", name := "test", desc := "(IZ)Z" } : Jvm.MethodName)) ∈ os_tb := os_in (i := 947) (by decide +kernel) (by decide +kernel)
theorem k_915 : (Jvm.Cond.instanceMethod ({ cls := "RobotFaultsModel", name := "test", desc := "(IZ)Z" } : Jvm.MethodName)) ∈ os_tb := os_in (i := 948) (by decide +kernel) (by decide +kernel)
theorem k_916 : (Jvm.Cond.selects "RobotFaultsModel" ({ cls := "RobotFaultsModel", name := "test", desc := "(IZ)Z" } : Jvm.MethodName) ({ cls := "RobotFaultsModel", name := "test", desc := "(IZ)Z" } : Jvm.MethodName)) ∈ os_tb := os_in (i := 949) (by decide +kernel) (by decide +kernel)
theorem k_917 : (Jvm.Cond.code ({ cls := "RobotFaultsModel", name := "test", desc := "(IZ)Z" } : Jvm.MethodName) prog_9_method_23_code (3 : Nat) (Option.some Jvm.ClassFile.FieldType.boolean)) ∈ os_tb := os_in (i := 950) (by decide +kernel) (by decide +kernel)
theorem k_918 : (Jvm.Cond.methodLink "RobotFaultsModel" (158 : Nat) ({ cls := "RobotFaultsModel", name := "openKinds", desc := "(I)I" } : Jvm.MethodName)) ∈ os_tb := os_in (i := 951) (by decide +kernel) (by decide +kernel)
theorem k_920 : (Jvm.Cond.instanceMethod ({ cls := "RobotFaultsModel", name := "openKinds", desc := "(I)I" } : Jvm.MethodName)) ∈ os_tb := os_in (i := 953) (by decide +kernel) (by decide +kernel)
theorem k_921 : (Jvm.Cond.code ({ cls := "RobotFaultsModel", name := "openKinds", desc := "(I)I" } : Jvm.MethodName) prog_9_method_16_code (4 : Nat) (Option.some Jvm.ClassFile.FieldType.int)) ∈ os_tb := os_in (i := 954) (by decide +kernel) (by decide +kernel)
theorem k_922 : (Jvm.Cond.methodLink "RobotFaultsLaw" (125 : Nat) ({ cls := "RobotFaultsModel", name := "resume", desc := "(I)I" } : Jvm.MethodName)) ∈ os_tb := os_in (i := 955) (by decide +kernel) (by decide +kernel)
theorem k_923 : (Jvm.Cond.instanceMethod ({ cls := "RobotFaultsModel", name := "resume", desc := "(I)I" } : Jvm.MethodName)) ∈ os_tb := os_in (i := 956) (by decide +kernel) (by decide +kernel)
theorem k_924 : (Jvm.Cond.selects "RobotFaultsModel" ({ cls := "RobotFaultsModel", name := "resume", desc := "(I)I" } : Jvm.MethodName) ({ cls := "RobotFaultsModel", name := "resume", desc := "(I)I" } : Jvm.MethodName)) ∈ os_tb := os_in (i := 957) (by decide +kernel) (by decide +kernel)
theorem k_925 : (Jvm.Cond.code ({ cls := "RobotFaultsModel", name := "resume", desc := "(I)I" } : Jvm.MethodName) prog_9_method_24_code (3 : Nat) (Option.some Jvm.ClassFile.FieldType.int)) ∈ os_tb := os_in (i := 958) (by decide +kernel) (by decide +kernel)
theorem k_926 : (Jvm.Cond.methodLink "RobotFaultsLaw" (128 : Nat) ({ cls := "RobotFaultsModel", name := "zone", desc := "(II)I" } : Jvm.MethodName)) ∈ os_tb := os_in (i := 959) (by decide +kernel) (by decide +kernel)
theorem k_927 : (Jvm.Cond.instanceMethod ({ cls := "RobotFaultsModel", name := "zone", desc := "(II)I" } : Jvm.MethodName)) ∈ os_tb := os_in (i := 960) (by decide +kernel) (by decide +kernel)
theorem k_928 : (Jvm.Cond.selects "RobotFaultsModel" ({ cls := "RobotFaultsModel", name := "zone", desc := "(II)I" } : Jvm.MethodName) ({ cls := "RobotFaultsModel", name := "zone", desc := "(II)I" } : Jvm.MethodName)) ∈ os_tb := os_in (i := 961) (by decide +kernel) (by decide +kernel)
theorem k_929 : (Jvm.Cond.code ({ cls := "RobotFaultsModel", name := "zone", desc := "(II)I" } : Jvm.MethodName) prog_9_method_27_code (5 : Nat) (Option.some Jvm.ClassFile.FieldType.int)) ∈ os_tb := os_in (i := 962) (by decide +kernel) (by decide +kernel)
theorem k_930 : (Jvm.Cond.methodLink "RobotFaultsModel" (165 : Nat) ({ cls := "RobotFaultsModel", name := "mayBe", desc := "(II)Z" } : Jvm.MethodName)) ∈ os_tb := os_in (i := 963) (by decide +kernel) (by decide +kernel)
theorem k_932 : (Jvm.Cond.instanceMethod ({ cls := "RobotFaultsModel", name := "mayBe", desc := "(II)Z" } : Jvm.MethodName)) ∈ os_tb := os_in (i := 965) (by decide +kernel) (by decide +kernel)
theorem k_933 : (Jvm.Cond.code ({ cls := "RobotFaultsModel", name := "mayBe", desc := "(II)Z" } : Jvm.MethodName) prog_9_method_26_code (3 : Nat) (Option.some Jvm.ClassFile.FieldType.boolean)) ∈ os_tb := os_in (i := 966) (by decide +kernel) (by decide +kernel)
theorem k_934 : (Jvm.Cond.methodLink "RobotFaultsModel" (161 : Nat) ({ cls := "RobotFaultsModel", name := "reach", desc := "(I)V" } : Jvm.MethodName)) ∈ os_tb := os_in (i := 967) (by decide +kernel) (by decide +kernel)
theorem k_936 : (Jvm.Cond.instanceMethod ({ cls := "RobotFaultsModel", name := "reach", desc := "(I)V" } : Jvm.MethodName)) ∈ os_tb := os_in (i := 969) (by decide +kernel) (by decide +kernel)
theorem k_937 : (Jvm.Cond.code ({ cls := "RobotFaultsModel", name := "reach", desc := "(I)V" } : Jvm.MethodName) prog_9_method_25_code (5 : Nat) (Option.none : Option Jvm.ClassFile.FieldType)) ∈ os_tb := os_in (i := 970) (by decide +kernel) (by decide +kernel)
theorem k_938 : (Jvm.Cond.methodLink "RobotFaultsLaw" (131 : Nat) ({ cls := "RobotFaultsModel", name := "found", desc := "(II)I" } : Jvm.MethodName)) ∈ os_tb := os_in (i := 971) (by decide +kernel) (by decide +kernel)
theorem k_939 : (Jvm.Cond.instanceMethod ({ cls := "RobotFaultsModel", name := "found", desc := "(II)I" } : Jvm.MethodName)) ∈ os_tb := os_in (i := 972) (by decide +kernel) (by decide +kernel)
theorem k_940 : (Jvm.Cond.selects "RobotFaultsModel" ({ cls := "RobotFaultsModel", name := "found", desc := "(II)I" } : Jvm.MethodName) ({ cls := "RobotFaultsModel", name := "found", desc := "(II)I" } : Jvm.MethodName)) ∈ os_tb := os_in (i := 973) (by decide +kernel) (by decide +kernel)
theorem k_941 : (Jvm.Cond.code ({ cls := "RobotFaultsModel", name := "found", desc := "(II)I" } : Jvm.MethodName) prog_9_method_28_code (3 : Nat) (Option.some Jvm.ClassFile.FieldType.int)) ∈ os_tb := os_in (i := 974) (by decide +kernel) (by decide +kernel)
theorem k_942 : (Jvm.Cond.methodLink "RobotFaultsLaw" (134 : Nat) ({ cls := "RobotFaultsModel", name := "tow", desc := "(II)V" } : Jvm.MethodName)) ∈ os_tb := os_in (i := 975) (by decide +kernel) (by decide +kernel)
theorem k_943 : (Jvm.Cond.instanceMethod ({ cls := "RobotFaultsModel", name := "tow", desc := "(II)V" } : Jvm.MethodName)) ∈ os_tb := os_in (i := 976) (by decide +kernel) (by decide +kernel)
theorem k_944 : (Jvm.Cond.selects "RobotFaultsModel" ({ cls := "RobotFaultsModel", name := "tow", desc := "(II)V" } : Jvm.MethodName) ({ cls := "RobotFaultsModel", name := "tow", desc := "(II)V" } : Jvm.MethodName)) ∈ os_tb := os_in (i := 977) (by decide +kernel) (by decide +kernel)
theorem k_945 : (Jvm.Cond.code ({ cls := "RobotFaultsModel", name := "tow", desc := "(II)V" } : Jvm.MethodName) prog_9_method_29_code (3 : Nat) (Option.none : Option Jvm.ClassFile.FieldType)) ∈ os_tb := os_in (i := 978) (by decide +kernel) (by decide +kernel)
theorem k_946 : (Jvm.Cond.methodLink "RobotFaultsLaw" (138 : Nat) ({ cls := "RobotFaultsModel", name := "plant", desc := "(III)V" } : Jvm.MethodName)) ∈ os_tb := os_in (i := 979) (by decide +kernel) (by decide +kernel)
theorem k_947 : (Jvm.Cond.instanceMethod ({ cls := "RobotFaultsModel", name := "plant", desc := "(III)V" } : Jvm.MethodName)) ∈ os_tb := os_in (i := 980) (by decide +kernel) (by decide +kernel)
theorem k_948 : (Jvm.Cond.selects "RobotFaultsModel" ({ cls := "RobotFaultsModel", name := "plant", desc := "(III)V" } : Jvm.MethodName) ({ cls := "RobotFaultsModel", name := "plant", desc := "(III)V" } : Jvm.MethodName)) ∈ os_tb := os_in (i := 981) (by decide +kernel) (by decide +kernel)
theorem k_949 : (Jvm.Cond.code ({ cls := "RobotFaultsModel", name := "plant", desc := "(III)V" } : Jvm.MethodName) prog_9_method_30_code (4 : Nat) (Option.none : Option Jvm.ClassFile.FieldType)) ∈ os_tb := os_in (i := 982) (by decide +kernel) (by decide +kernel)
theorem k_950 : (Jvm.Cond.methodLink "RobotFaultsLaw" (141 : Nat) ({ cls := "RobotFaultsModel", name := "pass", desc := "(I)I" } : Jvm.MethodName)) ∈ os_tb := os_in (i := 983) (by decide +kernel) (by decide +kernel)
theorem k_951 : (Jvm.Cond.instanceMethod ({ cls := "RobotFaultsModel", name := "pass", desc := "(I)I" } : Jvm.MethodName)) ∈ os_tb := os_in (i := 984) (by decide +kernel) (by decide +kernel)
theorem k_952 : (Jvm.Cond.selects "RobotFaultsModel" ({ cls := "RobotFaultsModel", name := "pass", desc := "(I)I" } : Jvm.MethodName) ({ cls := "RobotFaultsModel", name := "pass", desc := "(I)I" } : Jvm.MethodName)) ∈ os_tb := os_in (i := 985) (by decide +kernel) (by decide +kernel)
theorem k_953 : (Jvm.Cond.code ({ cls := "RobotFaultsModel", name := "pass", desc := "(I)I" } : Jvm.MethodName) prog_9_method_32_code (5 : Nat) (Option.some Jvm.ClassFile.FieldType.int)) ∈ os_tb := os_in (i := 986) (by decide +kernel) (by decide +kernel)
theorem k_954 : (Jvm.Cond.constant "RobotFaultsModel" (172 : Nat) (100000 : Int32)) ∈ os_tb := os_in (i := 987) (by decide +kernel) (by decide +kernel)
theorem k_955 : (Jvm.Cond.methodLink "RobotFaultsModel" (173 : Nat) ({ cls := "RobotFaultsModel", name := "comePlanted", desc := "()V" } : Jvm.MethodName)) ∈ os_tb := os_in (i := 988) (by decide +kernel) (by decide +kernel)
theorem k_957 : (Jvm.Cond.instanceMethod ({ cls := "RobotFaultsModel", name := "comePlanted", desc := "()V" } : Jvm.MethodName)) ∈ os_tb := os_in (i := 990) (by decide +kernel) (by decide +kernel)
theorem k_958 : (Jvm.Cond.code ({ cls := "RobotFaultsModel", name := "comePlanted", desc := "()V" } : Jvm.MethodName) prog_9_method_31_code (3 : Nat) (Option.none : Option Jvm.ClassFile.FieldType)) ∈ os_tb := os_in (i := 991) (by decide +kernel) (by decide +kernel)
theorem k_959 : (Jvm.Cond.methodLink "RobotFaultsLaw" (144 : Nat) ({ cls := "RobotFaultsModel", name := "acknowledge", desc := "(II)I" } : Jvm.MethodName)) ∈ os_tb := os_in (i := 992) (by decide +kernel) (by decide +kernel)
theorem k_960 : (Jvm.Cond.instanceMethod ({ cls := "RobotFaultsModel", name := "acknowledge", desc := "(II)I" } : Jvm.MethodName)) ∈ os_tb := os_in (i := 993) (by decide +kernel) (by decide +kernel)
theorem k_961 : (Jvm.Cond.selects "RobotFaultsModel" ({ cls := "RobotFaultsModel", name := "acknowledge", desc := "(II)I" } : Jvm.MethodName) ({ cls := "RobotFaultsModel", name := "acknowledge", desc := "(II)I" } : Jvm.MethodName)) ∈ os_tb := os_in (i := 994) (by decide +kernel) (by decide +kernel)
theorem k_962 : (Jvm.Cond.code ({ cls := "RobotFaultsModel", name := "acknowledge", desc := "(II)I" } : Jvm.MethodName) prog_9_method_33_code (3 : Nat) (Option.some Jvm.ClassFile.FieldType.int)) ∈ os_tb := os_in (i := 995) (by decide +kernel) (by decide +kernel)
theorem k_963 : (Jvm.Cond.methodLink "RobotFaultsModel" (176 : Nat) ({ cls := "RobotFaultsModel", name := "isAlarm", desc := "(I)Z" } : Jvm.MethodName)) ∈ os_tb := os_in (i := 996) (by decide +kernel) (by decide +kernel)
theorem k_965 : (Jvm.Cond.instanceMethod ({ cls := "RobotFaultsModel", name := "isAlarm", desc := "(I)Z" } : Jvm.MethodName)) ∈ os_tb := os_in (i := 998) (by decide +kernel) (by decide +kernel)
theorem k_966 : (Jvm.Cond.code ({ cls := "RobotFaultsModel", name := "isAlarm", desc := "(I)Z" } : Jvm.MethodName) prog_9_method_7_code (2 : Nat) (Option.some Jvm.ClassFile.FieldType.boolean)) ∈ os_tb := os_in (i := 999) (by decide +kernel) (by decide +kernel)
theorem k_967 : (Jvm.Cond.methodLink "RobotFaultsLaw" (147 : Nat) ({ cls := "RobotFaultsModel", name := "alarm", desc := "(II)I" } : Jvm.MethodName)) ∈ os_tb := os_in (i := 1000) (by decide +kernel) (by decide +kernel)
theorem k_968 : (Jvm.Cond.instanceMethod ({ cls := "RobotFaultsModel", name := "alarm", desc := "(II)I" } : Jvm.MethodName)) ∈ os_tb := os_in (i := 1001) (by decide +kernel) (by decide +kernel)
theorem k_969 : (Jvm.Cond.selects "RobotFaultsModel" ({ cls := "RobotFaultsModel", name := "alarm", desc := "(II)I" } : Jvm.MethodName) ({ cls := "RobotFaultsModel", name := "alarm", desc := "(II)I" } : Jvm.MethodName)) ∈ os_tb := os_in (i := 1002) (by decide +kernel) (by decide +kernel)
theorem k_970 : (Jvm.Cond.code ({ cls := "RobotFaultsModel", name := "alarm", desc := "(II)I" } : Jvm.MethodName) prog_9_method_34_code (3 : Nat) (Option.some Jvm.ClassFile.FieldType.int)) ∈ os_tb := os_in (i := 1003) (by decide +kernel) (by decide +kernel)
theorem k_971 : (Jvm.Cond.methodLink "RobotFaultsLaw" (157 : Nat) ({ cls := "RobotFaultsModel", name := "first", desc := "()I" } : Jvm.MethodName)) ∈ os_tb := os_in (i := 1004) (by decide +kernel) (by decide +kernel)
theorem k_972 : (Jvm.Cond.instanceMethod ({ cls := "RobotFaultsModel", name := "first", desc := "()I" } : Jvm.MethodName)) ∈ os_tb := os_in (i := 1005) (by decide +kernel) (by decide +kernel)
theorem k_973 : (Jvm.Cond.selects "RobotFaultsModel" ({ cls := "RobotFaultsModel", name := "first", desc := "()I" } : Jvm.MethodName) ({ cls := "RobotFaultsModel", name := "first", desc := "()I" } : Jvm.MethodName)) ∈ os_tb := os_in (i := 1006) (by decide +kernel) (by decide +kernel)
theorem k_974 : (Jvm.Cond.code ({ cls := "RobotFaultsModel", name := "first", desc := "()I" } : Jvm.MethodName) prog_9_method_35_code (3 : Nat) (Option.some Jvm.ClassFile.FieldType.int)) ∈ os_tb := os_in (i := 1007) (by decide +kernel) (by decide +kernel)
theorem k_975 : (Jvm.Cond.methodLink "RobotFaultsLaw" (150 : Nat) ({ cls := "RobotFaultsModel", name := "known", desc := "(II)I" } : Jvm.MethodName)) ∈ os_tb := os_in (i := 1008) (by decide +kernel) (by decide +kernel)
theorem k_976 : (Jvm.Cond.instanceMethod ({ cls := "RobotFaultsModel", name := "known", desc := "(II)I" } : Jvm.MethodName)) ∈ os_tb := os_in (i := 1009) (by decide +kernel) (by decide +kernel)
theorem k_977 : (Jvm.Cond.selects "RobotFaultsModel" ({ cls := "RobotFaultsModel", name := "known", desc := "(II)I" } : Jvm.MethodName) ({ cls := "RobotFaultsModel", name := "known", desc := "(II)I" } : Jvm.MethodName)) ∈ os_tb := os_in (i := 1010) (by decide +kernel) (by decide +kernel)
theorem k_978 : (Jvm.Cond.code ({ cls := "RobotFaultsModel", name := "known", desc := "(II)I" } : Jvm.MethodName) prog_9_method_36_code (3 : Nat) (Option.some Jvm.ClassFile.FieldType.int)) ∈ os_tb := os_in (i := 1011) (by decide +kernel) (by decide +kernel)
theorem k_979 : (Jvm.Cond.methodLink "RobotFaultsLaw" (153 : Nat) ({ cls := "RobotFaultsModel", name := "told", desc := "(II)I" } : Jvm.MethodName)) ∈ os_tb := os_in (i := 1012) (by decide +kernel) (by decide +kernel)
theorem k_980 : (Jvm.Cond.instanceMethod ({ cls := "RobotFaultsModel", name := "told", desc := "(II)I" } : Jvm.MethodName)) ∈ os_tb := os_in (i := 1013) (by decide +kernel) (by decide +kernel)
theorem k_981 : (Jvm.Cond.selects "RobotFaultsModel" ({ cls := "RobotFaultsModel", name := "told", desc := "(II)I" } : Jvm.MethodName) ({ cls := "RobotFaultsModel", name := "told", desc := "(II)I" } : Jvm.MethodName)) ∈ os_tb := os_in (i := 1014) (by decide +kernel) (by decide +kernel)
theorem k_982 : (Jvm.Cond.code ({ cls := "RobotFaultsModel", name := "told", desc := "(II)I" } : Jvm.MethodName) prog_9_method_37_code (3 : Nat) (Option.some Jvm.ClassFile.FieldType.int)) ∈ os_tb := os_in (i := 1015) (by decide +kernel) (by decide +kernel)
theorem k_983 : (Jvm.Cond.methodLink "RobotFaultsLaw" (161 : Nat) ({ cls := "RobotFaultsModel", name := "count", desc := "(I)I" } : Jvm.MethodName)) ∈ os_tb := os_in (i := 1016) (by decide +kernel) (by decide +kernel)
theorem k_984 : (Jvm.Cond.instanceMethod ({ cls := "RobotFaultsModel", name := "count", desc := "(I)I" } : Jvm.MethodName)) ∈ os_tb := os_in (i := 1017) (by decide +kernel) (by decide +kernel)
theorem k_985 : (Jvm.Cond.selects "RobotFaultsModel" ({ cls := "RobotFaultsModel", name := "count", desc := "(I)I" } : Jvm.MethodName) ({ cls := "RobotFaultsModel", name := "count", desc := "(I)I" } : Jvm.MethodName)) ∈ os_tb := os_in (i := 1018) (by decide +kernel) (by decide +kernel)
theorem k_986 : (Jvm.Cond.code ({ cls := "RobotFaultsModel", name := "count", desc := "(I)I" } : Jvm.MethodName) prog_9_method_38_code (4 : Nat) (Option.some Jvm.ClassFile.FieldType.int)) ∈ os_tb := os_in (i := 1019) (by decide +kernel) (by decide +kernel)
theorem k_987 : (Jvm.Cond.arrayClass Jvm.ClassFile.FieldType.long) ∈ os_tb := os_in (i := 1020) (by decide +kernel) (by decide +kernel)
theorem k_s0 : Cond.selects "RobotFaults" (.mk "RobotFaults" "openFaultCount" "()I") (.mk "RobotFaults" "openFaultCount" "()I") ∈ os_tb := os_in (i := 0) (by decide +kernel) (by decide +kernel)
theorem k_s1 : Cond.selects "RobotFaults" (.mk "RobotFaults" "unheardAlarmCount" "()I") (.mk "RobotFaults" "unheardAlarmCount" "()I") ∈ os_tb := os_in (i := 1) (by decide +kernel) (by decide +kernel)
theorem k_s2 : Cond.selects "RobotFaults" (.mk "RobotFaults" "openSeconds" "()I") (.mk "RobotFaults" "openSeconds" "()I") ∈ os_tb := os_in (i := 2) (by decide +kernel) (by decide +kernel)
theorem k_s3 : Cond.selects "java/lang/Throwable" (.mk "java/lang/Throwable" "fillInStackTrace" "(I)Ljava/lang/Throwable;") (.mk "java/lang/Throwable" "fillInStackTrace" "(I)Ljava/lang/Throwable;") ∈ os_tb := os_in (i := 3) (by decide +kernel) (by decide +kernel)
theorem k_s4 : Cond.selects "RobotFaults" (.mk "RobotFaults" "needPiece" "(I)V") (.mk "RobotFaults" "needPiece" "(I)V") ∈ os_tb := os_in (i := 4) (by decide +kernel) (by decide +kernel)
theorem k_s5 : Cond.selects "RobotFaults" (.mk "RobotFaults" "robotAt" "(I)LRobotFaults$Robot;") (.mk "RobotFaults" "robotAt" "(I)LRobotFaults$Robot;") ∈ os_tb := os_in (i := 5) (by decide +kernel) (by decide +kernel)
theorem k_s6 : Cond.selects "RobotFaults" (.mk "RobotFaults" "hasRoomForFault" "()Z") (.mk "RobotFaults" "hasRoomForFault" "()Z") ∈ os_tb := os_in (i := 6) (by decide +kernel) (by decide +kernel)
theorem k_s7 : Cond.selects "RobotFaults" (.mk "RobotFaults" "openOrNewFault" "(LRobotFaults$Robot;IZ)I") (.mk "RobotFaults" "openOrNewFault" "(LRobotFaults$Robot;IZ)I") ∈ os_tb := os_in (i := 7) (by decide +kernel) (by decide +kernel)
theorem k_s8 : Cond.selects "RobotFaults" (.mk "RobotFaults" "openFault" "(LRobotFaults$Robot;I)LRobotFaults$Fault;") (.mk "RobotFaults" "openFault" "(LRobotFaults$Robot;I)LRobotFaults$Fault;") ∈ os_tb := os_in (i := 8) (by decide +kernel) (by decide +kernel)
theorem k_s9 : Cond.selects "RobotFaults" (.mk "RobotFaults" "newFault" "(LRobotFaults$Robot;IZ)I") (.mk "RobotFaults" "newFault" "(LRobotFaults$Robot;IZ)I") ∈ os_tb := os_in (i := 9) (by decide +kernel) (by decide +kernel)
theorem k_s10 : Cond.selects "RobotFaults" (.mk "RobotFaults" "alarmFor" "(LRobotFaults$Fault;I)I") (.mk "RobotFaults" "alarmFor" "(LRobotFaults$Fault;I)I") ∈ os_tb := os_in (i := 10) (by decide +kernel) (by decide +kernel)
theorem k_s11 : Cond.selects "RobotFaults" (.mk "RobotFaults" "latestAlarm" "(LRobotFaults$Robot;I)LRobotFaults$Alarm;") (.mk "RobotFaults" "latestAlarm" "(LRobotFaults$Robot;I)LRobotFaults$Alarm;") ∈ os_tb := os_in (i := 11) (by decide +kernel) (by decide +kernel)
theorem k_s12 : Cond.selects "RobotFaults" (.mk "RobotFaults" "faultAt" "(I)LRobotFaults$Fault;") (.mk "RobotFaults" "faultAt" "(I)LRobotFaults$Fault;") ∈ os_tb := os_in (i := 12) (by decide +kernel) (by decide +kernel)
theorem k_s13 : Cond.selects "RobotFaults" (.mk "RobotFaults" "openKinds" "(LRobotFaults$Robot;)I") (.mk "RobotFaults" "openKinds" "(LRobotFaults$Robot;)I") ∈ os_tb := os_in (i := 13) (by decide +kernel) (by decide +kernel)
theorem k_s14 : Cond.selects "RobotFaults" (.mk "RobotFaults" "piecesOfLost" "(LRobotFaults$Robot;)I") (.mk "RobotFaults" "piecesOfLost" "(LRobotFaults$Robot;)I") ∈ os_tb := os_in (i := 14) (by decide +kernel) (by decide +kernel)
theorem k_s15 : Cond.selects "RobotFaults$Track" (.mk "RobotFaults$Track" "around" "(I)I") (.mk "RobotFaults$Track" "around" "(I)I") ∈ os_tb := os_in (i := 15) (by decide +kernel) (by decide +kernel)
theorem k_s16 : Cond.selects "RobotFaults" (.mk "RobotFaults" "nextBusySecond" "(I)I") (.mk "RobotFaults" "nextBusySecond" "(I)I") ∈ os_tb := os_in (i := 16) (by decide +kernel) (by decide +kernel)
theorem k_s17 : Cond.selects "RobotFaults" (.mk "RobotFaults" "letPlantedCome" "()V") (.mk "RobotFaults" "letPlantedCome" "()V") ∈ os_tb := os_in (i := 17) (by decide +kernel) (by decide +kernel)
theorem k_s18 : Cond.selects "RobotFaults" (.mk "RobotFaults" "bring" "(LRobotFaults$Planted;)V") (.mk "RobotFaults" "bring" "(LRobotFaults$Planted;)V") ∈ os_tb := os_in (i := 18) (by decide +kernel) (by decide +kernel)
theorem k_s19 : Cond.selects "RobotFaults" (.mk "RobotFaults" "raiseAlarms" "()I") (.mk "RobotFaults" "raiseAlarms" "()I") ∈ os_tb := os_in (i := 19) (by decide +kernel) (by decide +kernel)
theorem k_s20 : Cond.selects "RobotFaults" (.mk "RobotFaults" "alarmAt" "(I)LRobotFaults$Alarm;") (.mk "RobotFaults" "alarmAt" "(I)LRobotFaults$Alarm;") ∈ os_tb := os_in (i := 20) (by decide +kernel) (by decide +kernel)
theorem k_s21 : Cond.selects "RobotFaultsModel" (.mk "RobotFaultsModel" "isPiece" "(I)Z") (.mk "RobotFaultsModel" "isPiece" "(I)Z") ∈ os_tb := os_in (i := 21) (by decide +kernel) (by decide +kernel)
theorem k_s22 : Cond.selects "RobotFaultsModel" (.mk "RobotFaultsModel" "isRobot" "(I)Z") (.mk "RobotFaultsModel" "isRobot" "(I)Z") ∈ os_tb := os_in (i := 22) (by decide +kernel) (by decide +kernel)
theorem k_s23 : Cond.selects "RobotFaultsModel" (.mk "RobotFaultsModel" "bars" "(II)I") (.mk "RobotFaultsModel" "bars" "(II)I") ∈ os_tb := os_in (i := 23) (by decide +kernel) (by decide +kernel)
theorem k_s24 : Cond.selects "RobotFaultsModel" (.mk "RobotFaultsModel" "come" "(IIZ)I") (.mk "RobotFaultsModel" "come" "(IIZ)I") ∈ os_tb := os_in (i := 24) (by decide +kernel) (by decide +kernel)
theorem k_s25 : Cond.selects "RobotFaultsModel" (.mk "RobotFaultsModel" "openOf" "(II)I") (.mk "RobotFaultsModel" "openOf" "(II)I") ∈ os_tb := os_in (i := 25) (by decide +kernel) (by decide +kernel)
theorem k_s26 : Cond.selects "RobotFaultsModel" (.mk "RobotFaultsModel" "alarmFor" "(II)I") (.mk "RobotFaultsModel" "alarmFor" "(II)I") ∈ os_tb := os_in (i := 26) (by decide +kernel) (by decide +kernel)
theorem k_s27 : Cond.selects "RobotFaultsModel" (.mk "RobotFaultsModel" "isFault" "(I)Z") (.mk "RobotFaultsModel" "isFault" "(I)Z") ∈ os_tb := os_in (i := 27) (by decide +kernel) (by decide +kernel)
theorem k_s28 : Cond.selects "RobotFaultsModel" (.mk "RobotFaultsModel" "openKinds" "(I)I") (.mk "RobotFaultsModel" "openKinds" "(I)I") ∈ os_tb := os_in (i := 28) (by decide +kernel) (by decide +kernel)
theorem k_s29 : Cond.selects "RobotFaultsModel" (.mk "RobotFaultsModel" "mayBe" "(II)Z") (.mk "RobotFaultsModel" "mayBe" "(II)Z") ∈ os_tb := os_in (i := 29) (by decide +kernel) (by decide +kernel)
theorem k_s30 : Cond.selects "RobotFaultsModel" (.mk "RobotFaultsModel" "reach" "(I)V") (.mk "RobotFaultsModel" "reach" "(I)V") ∈ os_tb := os_in (i := 30) (by decide +kernel) (by decide +kernel)
theorem k_s31 : Cond.selects "RobotFaultsModel" (.mk "RobotFaultsModel" "comePlanted" "()V") (.mk "RobotFaultsModel" "comePlanted" "()V") ∈ os_tb := os_in (i := 31) (by decide +kernel) (by decide +kernel)
theorem k_s32 : Cond.selects "RobotFaultsModel" (.mk "RobotFaultsModel" "isAlarm" "(I)Z") (.mk "RobotFaultsModel" "isAlarm" "(I)Z") ∈ os_tb := os_in (i := 32) (by decide +kernel) (by decide +kernel)
end
section
/-! decode rows: printed by wip/gen/names.py -/
theorem d_RF_init_0 : decode prog_1_method_1_code 0 = .ok (.aload_n 0, 1) := by decide +kernel
theorem d_RF_init_1 : decode prog_1_method_1_code 1 = .ok (.invokespecial 1, 3) := by decide +kernel
theorem d_RF_init_4 : decode prog_1_method_1_code 4 = .ok (.aload_n 0, 1) := by decide +kernel
theorem d_RF_init_5 : decode prog_1_method_1_code 5 = .ok (.new 7, 3) := by decide +kernel
theorem d_RF_init_8 : decode prog_1_method_1_code 8 = .ok (.dup, 1) := by decide +kernel
theorem d_RF_init_9 : decode prog_1_method_1_code 9 = .ok (.invokespecial 9, 3) := by decide +kernel
theorem d_RF_init_12 : decode prog_1_method_1_code 12 = .ok (.putfield 10, 3) := by decide +kernel
theorem d_RF_init_15 : decode prog_1_method_1_code 15 = .ok (.aload_n 0, 1) := by decide +kernel
theorem d_RF_init_16 : decode prog_1_method_1_code 16 = .ok (.bipush 8, 2) := by decide +kernel
theorem d_RF_init_18 : decode prog_1_method_1_code 18 = .ok (.anewarray 16, 3) := by decide +kernel
theorem d_RF_init_21 : decode prog_1_method_1_code 21 = .ok (.putfield 18, 3) := by decide +kernel
theorem d_RF_init_24 : decode prog_1_method_1_code 24 = .ok (.aload_n 0, 1) := by decide +kernel
theorem d_RF_init_25 : decode prog_1_method_1_code 25 = .ok (.bipush 8, 2) := by decide +kernel
theorem d_RF_init_27 : decode prog_1_method_1_code 27 = .ok (.anewarray 22, 3) := by decide +kernel
theorem d_RF_init_30 : decode prog_1_method_1_code 30 = .ok (.putfield 24, 3) := by decide +kernel
theorem d_RF_init_33 : decode prog_1_method_1_code 33 = .ok (.aload_n 0, 1) := by decide +kernel
theorem d_RF_init_34 : decode prog_1_method_1_code 34 = .ok (.bipush 40, 2) := by decide +kernel
theorem d_RF_init_36 : decode prog_1_method_1_code 36 = .ok (.anewarray 28, 3) := by decide +kernel
theorem d_RF_init_39 : decode prog_1_method_1_code 39 = .ok (.putfield 30, 3) := by decide +kernel
theorem d_RF_init_42 : decode prog_1_method_1_code 42 = .ok (.aload_n 0, 1) := by decide +kernel
theorem d_RF_init_43 : decode prog_1_method_1_code 43 = .ok (.bipush 40, 2) := by decide +kernel
theorem d_RF_init_45 : decode prog_1_method_1_code 45 = .ok (.anewarray 34, 3) := by decide +kernel
theorem d_RF_init_48 : decode prog_1_method_1_code 48 = .ok (.putfield 36, 3) := by decide +kernel
theorem d_RF_init_51 : decode prog_1_method_1_code 51 = .ok (.aload_n 0, 1) := by decide +kernel
theorem d_RF_init_52 : decode prog_1_method_1_code 52 = .ok (.bipush 10, 2) := by decide +kernel
theorem d_RF_init_54 : decode prog_1_method_1_code 54 = .ok (.anewarray 40, 3) := by decide +kernel
theorem d_RF_init_57 : decode prog_1_method_1_code 57 = .ok (.putfield 42, 3) := by decide +kernel
theorem d_RF_init_60 : decode prog_1_method_1_code 60 = .ok (.iconst 0, 1) := by decide +kernel
theorem d_RF_init_61 : decode prog_1_method_1_code 61 = .ok (.istore_n 1, 1) := by decide +kernel
theorem d_RF_init_62 : decode prog_1_method_1_code 62 = .ok (.iload_n 1, 1) := by decide +kernel
theorem d_RF_init_63 : decode prog_1_method_1_code 63 = .ok (.bipush 8, 2) := by decide +kernel
theorem d_RF_init_65 : decode prog_1_method_1_code 65 = .ok (.if_icmp .ge 22, 3) := by decide +kernel
theorem d_RF_init_68 : decode prog_1_method_1_code 68 = .ok (.aload_n 0, 1) := by decide +kernel
theorem d_RF_init_69 : decode prog_1_method_1_code 69 = .ok (.getfield 18, 3) := by decide +kernel
theorem d_RF_init_72 : decode prog_1_method_1_code 72 = .ok (.iload_n 1, 1) := by decide +kernel
theorem d_RF_init_73 : decode prog_1_method_1_code 73 = .ok (.new 16, 3) := by decide +kernel
theorem d_RF_init_76 : decode prog_1_method_1_code 76 = .ok (.dup, 1) := by decide +kernel
theorem d_RF_init_77 : decode prog_1_method_1_code 77 = .ok (.invokespecial 46, 3) := by decide +kernel
theorem d_RF_init_80 : decode prog_1_method_1_code 80 = .ok (.aastore, 1) := by decide +kernel
theorem d_RF_init_81 : decode prog_1_method_1_code 81 = .ok (.iinc 1 1, 3) := by decide +kernel
theorem d_RF_init_84 : decode prog_1_method_1_code 84 = .ok (.goto (-22), 3) := by decide +kernel
theorem d_RF_init_87 : decode prog_1_method_1_code 87 = .ok (.return_, 1) := by decide +kernel
theorem d_Track_init_0 : decode prog_7_method_1_code 0 = .ok (.aload_n 0, 1) := by decide +kernel
theorem d_Track_init_1 : decode prog_7_method_1_code 1 = .ok (.invokespecial 3, 3) := by decide +kernel
theorem d_Track_init_4 : decode prog_7_method_1_code 4 = .ok (.aload_n 0, 1) := by decide +kernel
theorem d_Track_init_5 : decode prog_7_method_1_code 5 = .ok (.bipush 20, 2) := by decide +kernel
theorem d_Track_init_7 : decode prog_7_method_1_code 7 = .ok (.newarray .int, 2) := by decide +kernel
theorem d_Track_init_9 : decode prog_7_method_1_code 9 = .ok (.putfield 9, 3) := by decide +kernel
theorem d_Track_init_12 : decode prog_7_method_1_code 12 = .ok (.return_, 1) := by decide +kernel
theorem d_Rule_init_0 : decode prog_6_method_1_code 0 = .ok (.aload_n 0, 1) := by decide +kernel
theorem d_Rule_init_1 : decode prog_6_method_1_code 1 = .ok (.invokespecial 1, 3) := by decide +kernel
theorem d_Rule_init_4 : decode prog_6_method_1_code 4 = .ok (.aload_n 0, 1) := by decide +kernel
theorem d_Rule_init_5 : decode prog_6_method_1_code 5 = .ok (.iconst 1, 1) := by decide +kernel
theorem d_Rule_init_6 : decode prog_6_method_1_code 6 = .ok (.putfield 7, 3) := by decide +kernel
theorem d_Rule_init_9 : decode prog_6_method_1_code 9 = .ok (.aload_n 0, 1) := by decide +kernel
theorem d_Rule_init_10 : decode prog_6_method_1_code 10 = .ok (.iconst 0, 1) := by decide +kernel
theorem d_Rule_init_11 : decode prog_6_method_1_code 11 = .ok (.putfield 13, 3) := by decide +kernel
theorem d_Rule_init_14 : decode prog_6_method_1_code 14 = .ok (.aload_n 0, 1) := by decide +kernel
theorem d_Rule_init_15 : decode prog_6_method_1_code 15 = .ok (.iconst 3, 1) := by decide +kernel
theorem d_Rule_init_16 : decode prog_6_method_1_code 16 = .ok (.putfield 17, 3) := by decide +kernel
theorem d_Rule_init_19 : decode prog_6_method_1_code 19 = .ok (.return_, 1) := by decide +kernel
theorem d_RF_first_0 : decode prog_1_method_21_code 0 = .ok (.iconst (-1), 1) := by decide +kernel
theorem d_RF_first_1 : decode prog_1_method_21_code 1 = .ok (.istore_n 1, 1) := by decide +kernel
theorem d_RF_first_2 : decode prog_1_method_21_code 2 = .ok (.iconst 0, 1) := by decide +kernel
theorem d_RF_first_3 : decode prog_1_method_21_code 3 = .ok (.istore_n 2, 1) := by decide +kernel
theorem d_RF_first_4 : decode prog_1_method_21_code 4 = .ok (.iload_n 2, 1) := by decide +kernel
theorem d_RF_first_5 : decode prog_1_method_21_code 5 = .ok (.aload_n 0, 1) := by decide +kernel
theorem d_RF_first_6 : decode prog_1_method_21_code 6 = .ok (.getfield 36, 3) := by decide +kernel
theorem d_RF_first_9 : decode prog_1_method_21_code 9 = .ok (.arraylength, 1) := by decide +kernel
theorem d_RF_first_10 : decode prog_1_method_21_code 10 = .ok (.if_icmp .ge 59, 3) := by decide +kernel
theorem d_RF_first_13 : decode prog_1_method_21_code 13 = .ok (.aload_n 0, 1) := by decide +kernel
theorem d_RF_first_14 : decode prog_1_method_21_code 14 = .ok (.getfield 36, 3) := by decide +kernel
theorem d_RF_first_17 : decode prog_1_method_21_code 17 = .ok (.iload_n 2, 1) := by decide +kernel
theorem d_RF_first_18 : decode prog_1_method_21_code 18 = .ok (.aaload, 1) := by decide +kernel
theorem d_RF_first_19 : decode prog_1_method_21_code 19 = .ok (.astore_n 3, 1) := by decide +kernel
theorem d_RF_first_20 : decode prog_1_method_21_code 20 = .ok (.aload_n 3, 1) := by decide +kernel
theorem d_RF_first_21 : decode prog_1_method_21_code 21 = .ok (.ifnull 42, 3) := by decide +kernel
theorem d_RF_first_24 : decode prog_1_method_21_code 24 = .ok (.aload_n 3, 1) := by decide +kernel
theorem d_RF_first_25 : decode prog_1_method_21_code 25 = .ok (.invokevirtual 224, 3) := by decide +kernel
theorem d_RF_first_28 : decode prog_1_method_21_code 28 = .ok (.ifCond .ne 35, 3) := by decide +kernel
theorem d_RF_first_31 : decode prog_1_method_21_code 31 = .ok (.iload_n 1, 1) := by decide +kernel
theorem d_RF_first_32 : decode prog_1_method_21_code 32 = .ok (.ifCond .ge 7, 3) := by decide +kernel
theorem d_RF_first_35 : decode prog_1_method_21_code 35 = .ok (.aconst_null, 1) := by decide +kernel
theorem d_RF_first_36 : decode prog_1_method_21_code 36 = .ok (.goto 9, 3) := by decide +kernel
theorem d_RF_first_39 : decode prog_1_method_21_code 39 = .ok (.aload_n 0, 1) := by decide +kernel
theorem d_RF_first_40 : decode prog_1_method_21_code 40 = .ok (.getfield 36, 3) := by decide +kernel
theorem d_RF_first_43 : decode prog_1_method_21_code 43 = .ok (.iload_n 1, 1) := by decide +kernel
theorem d_RF_first_44 : decode prog_1_method_21_code 44 = .ok (.aaload, 1) := by decide +kernel
theorem d_RF_first_45 : decode prog_1_method_21_code 45 = .ok (.astore 4, 2) := by decide +kernel
theorem d_RF_first_47 : decode prog_1_method_21_code 47 = .ok (.aload 4, 2) := by decide +kernel
theorem d_RF_first_49 : decode prog_1_method_21_code 49 = .ok (.ifnull 12, 3) := by decide +kernel
theorem d_RF_first_52 : decode prog_1_method_21_code 52 = .ok (.aload_n 3, 1) := by decide +kernel
theorem d_RF_first_53 : decode prog_1_method_21_code 53 = .ok (.aload 4, 2) := by decide +kernel
theorem d_RF_first_55 : decode prog_1_method_21_code 55 = .ok (.invokevirtual 276, 3) := by decide +kernel
theorem d_RF_first_58 : decode prog_1_method_21_code 58 = .ok (.ifCond .eq 5, 3) := by decide +kernel
theorem d_RF_first_61 : decode prog_1_method_21_code 61 = .ok (.iload_n 2, 1) := by decide +kernel
theorem d_RF_first_62 : decode prog_1_method_21_code 62 = .ok (.istore_n 1, 1) := by decide +kernel
theorem d_RF_first_63 : decode prog_1_method_21_code 63 = .ok (.iinc 2 1, 3) := by decide +kernel
theorem d_RF_first_66 : decode prog_1_method_21_code 66 = .ok (.goto (-62), 3) := by decide +kernel
theorem d_RF_first_69 : decode prog_1_method_21_code 69 = .ok (.iload_n 1, 1) := by decide +kernel
theorem d_RF_first_70 : decode prog_1_method_21_code 70 = .ok (.ireturn, 1) := by decide +kernel
theorem d_Alarm_isAcknowledged_0 : decode prog_2_method_2_code 0 = .ok (.aload_n 0, 1) := by decide +kernel
theorem d_Alarm_isAcknowledged_1 : decode prog_2_method_2_code 1 = .ok (.getfield 18, 3) := by decide +kernel
theorem d_Alarm_isAcknowledged_4 : decode prog_2_method_2_code 4 = .ok (.iconst (-1), 1) := by decide +kernel
theorem d_Alarm_isAcknowledged_5 : decode prog_2_method_2_code 5 = .ok (.if_icmp .eq 7, 3) := by decide +kernel
theorem d_Alarm_isAcknowledged_8 : decode prog_2_method_2_code 8 = .ok (.iconst 1, 1) := by decide +kernel
theorem d_Alarm_isAcknowledged_9 : decode prog_2_method_2_code 9 = .ok (.goto 4, 3) := by decide +kernel
theorem d_Alarm_isAcknowledged_12 : decode prog_2_method_2_code 12 = .ok (.iconst 0, 1) := by decide +kernel
theorem d_Alarm_isAcknowledged_13 : decode prog_2_method_2_code 13 = .ok (.ireturn, 1) := by decide +kernel
theorem d_Alarm_comesBefore_0 : decode prog_2_method_7_code 0 = .ok (.aload_n 0, 1) := by decide +kernel
theorem d_Alarm_comesBefore_1 : decode prog_2_method_7_code 1 = .ok (.getfield 9, 3) := by decide +kernel
theorem d_Alarm_comesBefore_4 : decode prog_2_method_7_code 4 = .ok (.aload_n 1, 1) := by decide +kernel
theorem d_Alarm_comesBefore_5 : decode prog_2_method_7_code 5 = .ok (.getfield 9, 3) := by decide +kernel
theorem d_Alarm_comesBefore_8 : decode prog_2_method_7_code 8 = .ok (.if_icmp .eq 22, 3) := by decide +kernel
theorem d_Alarm_comesBefore_11 : decode prog_2_method_7_code 11 = .ok (.aload_n 0, 1) := by decide +kernel
theorem d_Alarm_comesBefore_12 : decode prog_2_method_7_code 12 = .ok (.getfield 9, 3) := by decide +kernel
theorem d_Alarm_comesBefore_15 : decode prog_2_method_7_code 15 = .ok (.aload_n 1, 1) := by decide +kernel
theorem d_Alarm_comesBefore_16 : decode prog_2_method_7_code 16 = .ok (.getfield 9, 3) := by decide +kernel
theorem d_Alarm_comesBefore_19 : decode prog_2_method_7_code 19 = .ok (.if_icmp .le 7, 3) := by decide +kernel
theorem d_Alarm_comesBefore_22 : decode prog_2_method_7_code 22 = .ok (.iconst 1, 1) := by decide +kernel
theorem d_Alarm_comesBefore_23 : decode prog_2_method_7_code 23 = .ok (.goto 23, 3) := by decide +kernel
theorem d_Alarm_comesBefore_26 : decode prog_2_method_7_code 26 = .ok (.iconst 0, 1) := by decide +kernel
theorem d_Alarm_comesBefore_27 : decode prog_2_method_7_code 27 = .ok (.goto 19, 3) := by decide +kernel
theorem d_Alarm_comesBefore_30 : decode prog_2_method_7_code 30 = .ok (.aload_n 0, 1) := by decide +kernel
theorem d_Alarm_comesBefore_31 : decode prog_2_method_7_code 31 = .ok (.getfield 35, 3) := by decide +kernel
theorem d_Alarm_comesBefore_34 : decode prog_2_method_7_code 34 = .ok (.aload_n 1, 1) := by decide +kernel
theorem d_Alarm_comesBefore_35 : decode prog_2_method_7_code 35 = .ok (.getfield 35, 3) := by decide +kernel
theorem d_Alarm_comesBefore_38 : decode prog_2_method_7_code 38 = .ok (.if_icmp .ge 7, 3) := by decide +kernel
theorem d_Alarm_comesBefore_41 : decode prog_2_method_7_code 41 = .ok (.iconst 1, 1) := by decide +kernel
theorem d_Alarm_comesBefore_42 : decode prog_2_method_7_code 42 = .ok (.goto 4, 3) := by decide +kernel
theorem d_Alarm_comesBefore_45 : decode prog_2_method_7_code 45 = .ok (.iconst 0, 1) := by decide +kernel
theorem d_Alarm_comesBefore_46 : decode prog_2_method_7_code 46 = .ok (.ireturn, 1) := by decide +kernel
theorem d_RF_count_0 : decode prog_1_method_22_code 0 = .ok (.iload_n 1, 1) := by decide +kernel
theorem d_RF_count_1 : decode prog_1_method_22_code 1 = .ok (.tableswitch 99 0 8 #[51, 59, 64, 69, 74, 79, 84, 89, 94], 51) := by decide +kernel
theorem d_RF_count_52 : decode prog_1_method_22_code 52 = .ok (.aload_n 0, 1) := by decide +kernel
theorem d_RF_count_53 : decode prog_1_method_22_code 53 = .ok (.getfield 10, 3) := by decide +kernel
theorem d_RF_count_56 : decode prog_1_method_22_code 56 = .ok (.invokevirtual 280, 3) := by decide +kernel
theorem d_RF_count_59 : decode prog_1_method_22_code 59 = .ok (.ireturn, 1) := by decide +kernel
theorem d_RF_count_60 : decode prog_1_method_22_code 60 = .ok (.aload_n 0, 1) := by decide +kernel
theorem d_RF_count_61 : decode prog_1_method_22_code 61 = .ok (.getfield 75, 3) := by decide +kernel
theorem d_RF_count_64 : decode prog_1_method_22_code 64 = .ok (.ireturn, 1) := by decide +kernel
theorem d_RF_count_65 : decode prog_1_method_22_code 65 = .ok (.aload_n 0, 1) := by decide +kernel
theorem d_RF_count_66 : decode prog_1_method_22_code 66 = .ok (.getfield 283, 3) := by decide +kernel
theorem d_RF_count_69 : decode prog_1_method_22_code 69 = .ok (.ireturn, 1) := by decide +kernel
theorem d_RF_count_70 : decode prog_1_method_22_code 70 = .ok (.aload_n 0, 1) := by decide +kernel
theorem d_RF_count_71 : decode prog_1_method_22_code 71 = .ok (.invokevirtual 286, 3) := by decide +kernel
theorem d_RF_count_74 : decode prog_1_method_22_code 74 = .ok (.ireturn, 1) := by decide +kernel
theorem d_RF_count_75 : decode prog_1_method_22_code 75 = .ok (.aload_n 0, 1) := by decide +kernel
theorem d_RF_count_76 : decode prog_1_method_22_code 76 = .ok (.getfield 289, 3) := by decide +kernel
theorem d_RF_count_79 : decode prog_1_method_22_code 79 = .ok (.ireturn, 1) := by decide +kernel
theorem d_RF_count_80 : decode prog_1_method_22_code 80 = .ok (.aload_n 0, 1) := by decide +kernel
theorem d_RF_count_81 : decode prog_1_method_22_code 81 = .ok (.invokevirtual 292, 3) := by decide +kernel
theorem d_RF_count_84 : decode prog_1_method_22_code 84 = .ok (.ireturn, 1) := by decide +kernel
theorem d_RF_count_85 : decode prog_1_method_22_code 85 = .ok (.aload_n 0, 1) := by decide +kernel
theorem d_RF_count_86 : decode prog_1_method_22_code 86 = .ok (.getfield 158, 3) := by decide +kernel
theorem d_RF_count_89 : decode prog_1_method_22_code 89 = .ok (.ireturn, 1) := by decide +kernel
theorem d_RF_count_90 : decode prog_1_method_22_code 90 = .ok (.aload_n 0, 1) := by decide +kernel
theorem d_RF_count_91 : decode prog_1_method_22_code 91 = .ok (.invokevirtual 295, 3) := by decide +kernel
theorem d_RF_count_94 : decode prog_1_method_22_code 94 = .ok (.ireturn, 1) := by decide +kernel
theorem d_RF_count_95 : decode prog_1_method_22_code 95 = .ok (.aload_n 0, 1) := by decide +kernel
theorem d_RF_count_96 : decode prog_1_method_22_code 96 = .ok (.getfield 197, 3) := by decide +kernel
theorem d_RF_count_99 : decode prog_1_method_22_code 99 = .ok (.ireturn, 1) := by decide +kernel
theorem d_RF_count_100 : decode prog_1_method_22_code 100 = .ok (.iconst (-1), 1) := by decide +kernel
theorem d_RF_count_101 : decode prog_1_method_22_code 101 = .ok (.ireturn, 1) := by decide +kernel
theorem d_Track_size_0 : decode prog_7_method_2_code 0 = .ok (.aload_n 0, 1) := by decide +kernel
theorem d_Track_size_1 : decode prog_7_method_2_code 1 = .ok (.getfield 15, 3) := by decide +kernel
theorem d_Track_size_4 : decode prog_7_method_2_code 4 = .ok (.ireturn, 1) := by decide +kernel
theorem d_RF_openFaultCount_0 : decode prog_1_method_44_code 0 = .ok (.iconst 0, 1) := by decide +kernel
theorem d_RF_openFaultCount_1 : decode prog_1_method_44_code 1 = .ok (.istore_n 1, 1) := by decide +kernel
theorem d_RF_openFaultCount_2 : decode prog_1_method_44_code 2 = .ok (.aload_n 0, 1) := by decide +kernel
theorem d_RF_openFaultCount_3 : decode prog_1_method_44_code 3 = .ok (.getfield 30, 3) := by decide +kernel
theorem d_RF_openFaultCount_6 : decode prog_1_method_44_code 6 = .ok (.astore_n 2, 1) := by decide +kernel
theorem d_RF_openFaultCount_7 : decode prog_1_method_44_code 7 = .ok (.aload_n 2, 1) := by decide +kernel
theorem d_RF_openFaultCount_8 : decode prog_1_method_44_code 8 = .ok (.arraylength, 1) := by decide +kernel
theorem d_RF_openFaultCount_9 : decode prog_1_method_44_code 9 = .ok (.istore_n 3, 1) := by decide +kernel
theorem d_RF_openFaultCount_10 : decode prog_1_method_44_code 10 = .ok (.iconst 0, 1) := by decide +kernel
theorem d_RF_openFaultCount_11 : decode prog_1_method_44_code 11 = .ok (.istore 4, 2) := by decide +kernel
theorem d_RF_openFaultCount_13 : decode prog_1_method_44_code 13 = .ok (.iload 4, 2) := by decide +kernel
theorem d_RF_openFaultCount_15 : decode prog_1_method_44_code 15 = .ok (.iload_n 3, 1) := by decide +kernel
theorem d_RF_openFaultCount_16 : decode prog_1_method_44_code 16 = .ok (.if_icmp .ge 31, 3) := by decide +kernel
theorem d_RF_openFaultCount_19 : decode prog_1_method_44_code 19 = .ok (.aload_n 2, 1) := by decide +kernel
theorem d_RF_openFaultCount_20 : decode prog_1_method_44_code 20 = .ok (.iload 4, 2) := by decide +kernel
theorem d_RF_openFaultCount_22 : decode prog_1_method_44_code 22 = .ok (.aaload, 1) := by decide +kernel
theorem d_RF_openFaultCount_23 : decode prog_1_method_44_code 23 = .ok (.astore 5, 2) := by decide +kernel
theorem d_RF_openFaultCount_25 : decode prog_1_method_44_code 25 = .ok (.aload 5, 2) := by decide +kernel
theorem d_RF_openFaultCount_27 : decode prog_1_method_44_code 27 = .ok (.ifnull 14, 3) := by decide +kernel
theorem d_RF_openFaultCount_30 : decode prog_1_method_44_code 30 = .ok (.aload 5, 2) := by decide +kernel
theorem d_RF_openFaultCount_32 : decode prog_1_method_44_code 32 = .ok (.invokevirtual 147, 3) := by decide +kernel
theorem d_RF_openFaultCount_35 : decode prog_1_method_44_code 35 = .ok (.ifCond .eq 6, 3) := by decide +kernel
theorem d_RF_openFaultCount_38 : decode prog_1_method_44_code 38 = .ok (.iinc 1 1, 3) := by decide +kernel
theorem d_RF_openFaultCount_41 : decode prog_1_method_44_code 41 = .ok (.iinc 4 1, 3) := by decide +kernel
theorem d_RF_openFaultCount_44 : decode prog_1_method_44_code 44 = .ok (.goto (-31), 3) := by decide +kernel
theorem d_RF_openFaultCount_47 : decode prog_1_method_44_code 47 = .ok (.iload_n 1, 1) := by decide +kernel
theorem d_RF_openFaultCount_48 : decode prog_1_method_44_code 48 = .ok (.ireturn, 1) := by decide +kernel
theorem d_Fault_isOpen_0 : decode prog_3_method_2_code 0 = .ok (.aload_n 0, 1) := by decide +kernel
theorem d_Fault_isOpen_1 : decode prog_3_method_2_code 1 = .ok (.getfield 18, 3) := by decide +kernel
theorem d_Fault_isOpen_4 : decode prog_3_method_2_code 4 = .ok (.iconst (-1), 1) := by decide +kernel
theorem d_Fault_isOpen_5 : decode prog_3_method_2_code 5 = .ok (.if_icmp .ne 7, 3) := by decide +kernel
theorem d_Fault_isOpen_8 : decode prog_3_method_2_code 8 = .ok (.iconst 1, 1) := by decide +kernel
theorem d_Fault_isOpen_9 : decode prog_3_method_2_code 9 = .ok (.goto 4, 3) := by decide +kernel
theorem d_Fault_isOpen_12 : decode prog_3_method_2_code 12 = .ok (.iconst 0, 1) := by decide +kernel
theorem d_Fault_isOpen_13 : decode prog_3_method_2_code 13 = .ok (.ireturn, 1) := by decide +kernel
theorem d_RF_unheardAlarmCount_0 : decode prog_1_method_45_code 0 = .ok (.iconst 0, 1) := by decide +kernel
theorem d_RF_unheardAlarmCount_1 : decode prog_1_method_45_code 1 = .ok (.istore_n 1, 1) := by decide +kernel
theorem d_RF_unheardAlarmCount_2 : decode prog_1_method_45_code 2 = .ok (.aload_n 0, 1) := by decide +kernel
theorem d_RF_unheardAlarmCount_3 : decode prog_1_method_45_code 3 = .ok (.getfield 36, 3) := by decide +kernel
theorem d_RF_unheardAlarmCount_6 : decode prog_1_method_45_code 6 = .ok (.astore_n 2, 1) := by decide +kernel
theorem d_RF_unheardAlarmCount_7 : decode prog_1_method_45_code 7 = .ok (.aload_n 2, 1) := by decide +kernel
theorem d_RF_unheardAlarmCount_8 : decode prog_1_method_45_code 8 = .ok (.arraylength, 1) := by decide +kernel
theorem d_RF_unheardAlarmCount_9 : decode prog_1_method_45_code 9 = .ok (.istore_n 3, 1) := by decide +kernel
theorem d_RF_unheardAlarmCount_10 : decode prog_1_method_45_code 10 = .ok (.iconst 0, 1) := by decide +kernel
theorem d_RF_unheardAlarmCount_11 : decode prog_1_method_45_code 11 = .ok (.istore 4, 2) := by decide +kernel
theorem d_RF_unheardAlarmCount_13 : decode prog_1_method_45_code 13 = .ok (.iload 4, 2) := by decide +kernel
theorem d_RF_unheardAlarmCount_15 : decode prog_1_method_45_code 15 = .ok (.iload_n 3, 1) := by decide +kernel
theorem d_RF_unheardAlarmCount_16 : decode prog_1_method_45_code 16 = .ok (.if_icmp .ge 31, 3) := by decide +kernel
theorem d_RF_unheardAlarmCount_19 : decode prog_1_method_45_code 19 = .ok (.aload_n 2, 1) := by decide +kernel
theorem d_RF_unheardAlarmCount_20 : decode prog_1_method_45_code 20 = .ok (.iload 4, 2) := by decide +kernel
theorem d_RF_unheardAlarmCount_22 : decode prog_1_method_45_code 22 = .ok (.aaload, 1) := by decide +kernel
theorem d_RF_unheardAlarmCount_23 : decode prog_1_method_45_code 23 = .ok (.astore 5, 2) := by decide +kernel
theorem d_RF_unheardAlarmCount_25 : decode prog_1_method_45_code 25 = .ok (.aload 5, 2) := by decide +kernel
theorem d_RF_unheardAlarmCount_27 : decode prog_1_method_45_code 27 = .ok (.ifnull 14, 3) := by decide +kernel
theorem d_RF_unheardAlarmCount_30 : decode prog_1_method_45_code 30 = .ok (.aload 5, 2) := by decide +kernel
theorem d_RF_unheardAlarmCount_32 : decode prog_1_method_45_code 32 = .ok (.invokevirtual 224, 3) := by decide +kernel
theorem d_RF_unheardAlarmCount_35 : decode prog_1_method_45_code 35 = .ok (.ifCond .ne 6, 3) := by decide +kernel
theorem d_RF_unheardAlarmCount_38 : decode prog_1_method_45_code 38 = .ok (.iinc 1 1, 3) := by decide +kernel
theorem d_RF_unheardAlarmCount_41 : decode prog_1_method_45_code 41 = .ok (.iinc 4 1, 3) := by decide +kernel
theorem d_RF_unheardAlarmCount_44 : decode prog_1_method_45_code 44 = .ok (.goto (-31), 3) := by decide +kernel
theorem d_RF_unheardAlarmCount_47 : decode prog_1_method_45_code 47 = .ok (.iload_n 1, 1) := by decide +kernel
theorem d_RF_unheardAlarmCount_48 : decode prog_1_method_45_code 48 = .ok (.ireturn, 1) := by decide +kernel
theorem d_RF_openSeconds_0 : decode prog_1_method_46_code 0 = .ok (.iconst 0, 1) := by decide +kernel
theorem d_RF_openSeconds_1 : decode prog_1_method_46_code 1 = .ok (.istore_n 1, 1) := by decide +kernel
theorem d_RF_openSeconds_2 : decode prog_1_method_46_code 2 = .ok (.aload_n 0, 1) := by decide +kernel
theorem d_RF_openSeconds_3 : decode prog_1_method_46_code 3 = .ok (.getfield 30, 3) := by decide +kernel
theorem d_RF_openSeconds_6 : decode prog_1_method_46_code 6 = .ok (.astore_n 2, 1) := by decide +kernel
theorem d_RF_openSeconds_7 : decode prog_1_method_46_code 7 = .ok (.aload_n 2, 1) := by decide +kernel
theorem d_RF_openSeconds_8 : decode prog_1_method_46_code 8 = .ok (.arraylength, 1) := by decide +kernel
theorem d_RF_openSeconds_9 : decode prog_1_method_46_code 9 = .ok (.istore_n 3, 1) := by decide +kernel
theorem d_RF_openSeconds_10 : decode prog_1_method_46_code 10 = .ok (.iconst 0, 1) := by decide +kernel
theorem d_RF_openSeconds_11 : decode prog_1_method_46_code 11 = .ok (.istore 4, 2) := by decide +kernel
theorem d_RF_openSeconds_13 : decode prog_1_method_46_code 13 = .ok (.iload 4, 2) := by decide +kernel
theorem d_RF_openSeconds_15 : decode prog_1_method_46_code 15 = .ok (.iload_n 3, 1) := by decide +kernel
theorem d_RF_openSeconds_16 : decode prog_1_method_46_code 16 = .ok (.if_icmp .ge 32, 3) := by decide +kernel
theorem d_RF_openSeconds_19 : decode prog_1_method_46_code 19 = .ok (.aload_n 2, 1) := by decide +kernel
theorem d_RF_openSeconds_20 : decode prog_1_method_46_code 20 = .ok (.iload 4, 2) := by decide +kernel
theorem d_RF_openSeconds_22 : decode prog_1_method_46_code 22 = .ok (.aaload, 1) := by decide +kernel
theorem d_RF_openSeconds_23 : decode prog_1_method_46_code 23 = .ok (.astore 5, 2) := by decide +kernel
theorem d_RF_openSeconds_25 : decode prog_1_method_46_code 25 = .ok (.aload 5, 2) := by decide +kernel
theorem d_RF_openSeconds_27 : decode prog_1_method_46_code 27 = .ok (.ifnull 15, 3) := by decide +kernel
theorem d_RF_openSeconds_30 : decode prog_1_method_46_code 30 = .ok (.iload_n 1, 1) := by decide +kernel
theorem d_RF_openSeconds_31 : decode prog_1_method_46_code 31 = .ok (.aload 5, 2) := by decide +kernel
theorem d_RF_openSeconds_33 : decode prog_1_method_46_code 33 = .ok (.aload_n 0, 1) := by decide +kernel
theorem d_RF_openSeconds_34 : decode prog_1_method_46_code 34 = .ok (.getfield 158, 3) := by decide +kernel
theorem d_RF_openSeconds_37 : decode prog_1_method_46_code 37 = .ok (.invokevirtual 384, 3) := by decide +kernel
theorem d_RF_openSeconds_40 : decode prog_1_method_46_code 40 = .ok (.iadd, 1) := by decide +kernel
theorem d_RF_openSeconds_41 : decode prog_1_method_46_code 41 = .ok (.istore_n 1, 1) := by decide +kernel
theorem d_RF_openSeconds_42 : decode prog_1_method_46_code 42 = .ok (.iinc 4 1, 3) := by decide +kernel
theorem d_RF_openSeconds_45 : decode prog_1_method_46_code 45 = .ok (.goto (-32), 3) := by decide +kernel
theorem d_RF_openSeconds_48 : decode prog_1_method_46_code 48 = .ok (.iload_n 1, 1) := by decide +kernel
theorem d_RF_openSeconds_49 : decode prog_1_method_46_code 49 = .ok (.ireturn, 1) := by decide +kernel
theorem d_Fault_openSecondsUntil_0 : decode prog_3_method_4_code 0 = .ok (.aload_n 0, 1) := by decide +kernel
theorem d_Fault_openSecondsUntil_1 : decode prog_3_method_4_code 1 = .ok (.invokevirtual 59, 3) := by decide +kernel
theorem d_Fault_openSecondsUntil_4 : decode prog_3_method_4_code 4 = .ok (.ifCond .eq 7, 3) := by decide +kernel
theorem d_Fault_openSecondsUntil_7 : decode prog_3_method_4_code 7 = .ok (.iload_n 1, 1) := by decide +kernel
theorem d_Fault_openSecondsUntil_8 : decode prog_3_method_4_code 8 = .ok (.goto 7, 3) := by decide +kernel
theorem d_Fault_openSecondsUntil_11 : decode prog_3_method_4_code 11 = .ok (.aload_n 0, 1) := by decide +kernel
theorem d_Fault_openSecondsUntil_12 : decode prog_3_method_4_code 12 = .ok (.getfield 18, 3) := by decide +kernel
theorem d_Fault_openSecondsUntil_15 : decode prog_3_method_4_code 15 = .ok (.aload_n 0, 1) := by decide +kernel
theorem d_Fault_openSecondsUntil_16 : decode prog_3_method_4_code 16 = .ok (.getfield 31, 3) := by decide +kernel
theorem d_Fault_openSecondsUntil_19 : decode prog_3_method_4_code 19 = .ok (.isub, 1) := by decide +kernel
theorem d_Fault_openSecondsUntil_20 : decode prog_3_method_4_code 20 = .ok (.ireturn, 1) := by decide +kernel
theorem d_Law_piece_0 : decode method_3_code 0 = .ok (.aload_n 1, 1) := by decide +kernel
theorem d_Law_piece_1 : decode method_3_code 1 = .ok (.iconst 0, 1) := by decide +kernel
theorem d_Law_piece_2 : decode method_3_code 2 = .ok (.aload_n 0, 1) := by decide +kernel
theorem d_Law_piece_3 : decode method_3_code 3 = .ok (.invokevirtual 7, 3) := by decide +kernel
theorem d_Law_piece_6 : decode method_3_code 6 = .ok (.i2l, 1) := by decide +kernel
theorem d_Law_piece_7 : decode method_3_code 7 = .ok (.lastore, 1) := by decide +kernel
theorem d_Law_piece_8 : decode method_3_code 8 = .ok (.goto 6, 3) := by decide +kernel
theorem d_Law_piece_11 : decode method_3_code 11 = .ok (.astore_n 2, 1) := by decide +kernel
theorem d_Law_piece_12 : decode method_3_code 12 = .ok (.iconst 1, 1) := by decide +kernel
theorem d_Law_piece_13 : decode method_3_code 13 = .ok (.ireturn, 1) := by decide +kernel
theorem d_Law_piece_14 : decode method_3_code 14 = .ok (.iconst 0, 1) := by decide +kernel
theorem d_Law_piece_15 : decode method_3_code 15 = .ok (.ireturn, 1) := by decide +kernel
theorem d_RF_piece_0 : decode prog_1_method_2_code 0 = .ok (.aload_n 0, 1) := by decide +kernel
theorem d_RF_piece_1 : decode prog_1_method_2_code 1 = .ok (.getfield 10, 3) := by decide +kernel
theorem d_RF_piece_4 : decode prog_1_method_2_code 4 = .ok (.invokevirtual 47, 3) := by decide +kernel
theorem d_RF_piece_7 : decode prog_1_method_2_code 7 = .ok (.ifCond .eq 13, 3) := by decide +kernel
theorem d_RF_piece_10 : decode prog_1_method_2_code 10 = .ok (.new 51, 3) := by decide +kernel
theorem d_RF_piece_13 : decode prog_1_method_2_code 13 = .ok (.dup, 1) := by decide +kernel
theorem d_RF_piece_14 : decode prog_1_method_2_code 14 = .ok (.ldc 53, 2) := by decide +kernel
theorem d_RF_piece_16 : decode prog_1_method_2_code 16 = .ok (.invokespecial 55, 3) := by decide +kernel
theorem d_RF_piece_19 : decode prog_1_method_2_code 19 = .ok (.athrow, 1) := by decide +kernel
theorem d_RF_piece_20 : decode prog_1_method_2_code 20 = .ok (.aload_n 0, 1) := by decide +kernel
theorem d_RF_piece_21 : decode prog_1_method_2_code 21 = .ok (.getfield 10, 3) := by decide +kernel
theorem d_RF_piece_24 : decode prog_1_method_2_code 24 = .ok (.invokevirtual 58, 3) := by decide +kernel
theorem d_RF_piece_27 : decode prog_1_method_2_code 27 = .ok (.ireturn, 1) := by decide +kernel
theorem d_Track_isFull_0 : decode prog_7_method_3_code 0 = .ok (.aload_n 0, 1) := by decide +kernel
theorem d_Track_isFull_1 : decode prog_7_method_3_code 1 = .ok (.getfield 15, 3) := by decide +kernel
theorem d_Track_isFull_4 : decode prog_7_method_3_code 4 = .ok (.aload_n 0, 1) := by decide +kernel
theorem d_Track_isFull_5 : decode prog_7_method_3_code 5 = .ok (.getfield 9, 3) := by decide +kernel
theorem d_Track_isFull_8 : decode prog_7_method_3_code 8 = .ok (.arraylength, 1) := by decide +kernel
theorem d_Track_isFull_9 : decode prog_7_method_3_code 9 = .ok (.if_icmp .lt 7, 3) := by decide +kernel
theorem d_Track_isFull_12 : decode prog_7_method_3_code 12 = .ok (.iconst 1, 1) := by decide +kernel
theorem d_Track_isFull_13 : decode prog_7_method_3_code 13 = .ok (.goto 4, 3) := by decide +kernel
theorem d_Track_isFull_16 : decode prog_7_method_3_code 16 = .ok (.iconst 0, 1) := by decide +kernel
theorem d_Track_isFull_17 : decode prog_7_method_3_code 17 = .ok (.ireturn, 1) := by decide +kernel
theorem d_Track_add_0 : decode prog_7_method_5_code 0 = .ok (.aload_n 0, 1) := by decide +kernel
theorem d_Track_add_1 : decode prog_7_method_5_code 1 = .ok (.getfield 15, 3) := by decide +kernel
theorem d_Track_add_4 : decode prog_7_method_5_code 4 = .ok (.istore_n 1, 1) := by decide +kernel
theorem d_Track_add_5 : decode prog_7_method_5_code 5 = .ok (.aload_n 0, 1) := by decide +kernel
theorem d_Track_add_6 : decode prog_7_method_5_code 6 = .ok (.dup, 1) := by decide +kernel
theorem d_Track_add_7 : decode prog_7_method_5_code 7 = .ok (.getfield 15, 3) := by decide +kernel
theorem d_Track_add_10 : decode prog_7_method_5_code 10 = .ok (.iconst 1, 1) := by decide +kernel
theorem d_Track_add_11 : decode prog_7_method_5_code 11 = .ok (.iadd, 1) := by decide +kernel
theorem d_Track_add_12 : decode prog_7_method_5_code 12 = .ok (.putfield 15, 3) := by decide +kernel
theorem d_Track_add_15 : decode prog_7_method_5_code 15 = .ok (.iload_n 1, 1) := by decide +kernel
theorem d_Track_add_16 : decode prog_7_method_5_code 16 = .ok (.ireturn, 1) := by decide +kernel
theorem d_Law_link_0 : decode method_4_code 0 = .ok (.aload_n 0, 1) := by decide +kernel
theorem d_Law_link_1 : decode method_4_code 1 = .ok (.iload_n 1, 1) := by decide +kernel
theorem d_Law_link_2 : decode method_4_code 2 = .ok (.iload_n 2, 1) := by decide +kernel
theorem d_Law_link_3 : decode method_4_code 3 = .ok (.invokevirtual 15, 3) := by decide +kernel
theorem d_Law_link_6 : decode method_4_code 6 = .ok (.goto 9, 3) := by decide +kernel
theorem d_Law_link_9 : decode method_4_code 9 = .ok (.astore_n 3, 1) := by decide +kernel
theorem d_Law_link_10 : decode method_4_code 10 = .ok (.iconst 1, 1) := by decide +kernel
theorem d_Law_link_11 : decode method_4_code 11 = .ok (.ireturn, 1) := by decide +kernel
theorem d_Law_link_12 : decode method_4_code 12 = .ok (.astore_n 3, 1) := by decide +kernel
theorem d_Law_link_13 : decode method_4_code 13 = .ok (.iconst 2, 1) := by decide +kernel
theorem d_Law_link_14 : decode method_4_code 14 = .ok (.ireturn, 1) := by decide +kernel
theorem d_Law_link_15 : decode method_4_code 15 = .ok (.iconst 0, 1) := by decide +kernel
theorem d_Law_link_16 : decode method_4_code 16 = .ok (.ireturn, 1) := by decide +kernel
theorem d_RF_link_0 : decode prog_1_method_3_code 0 = .ok (.aload_n 0, 1) := by decide +kernel
theorem d_RF_link_1 : decode prog_1_method_3_code 1 = .ok (.iload_n 1, 1) := by decide +kernel
theorem d_RF_link_2 : decode prog_1_method_3_code 2 = .ok (.invokevirtual 62, 3) := by decide +kernel
theorem d_RF_link_5 : decode prog_1_method_3_code 5 = .ok (.aload_n 0, 1) := by decide +kernel
theorem d_RF_link_6 : decode prog_1_method_3_code 6 = .ok (.iload_n 2, 1) := by decide +kernel
theorem d_RF_link_7 : decode prog_1_method_3_code 7 = .ok (.invokevirtual 62, 3) := by decide +kernel
theorem d_RF_link_10 : decode prog_1_method_3_code 10 = .ok (.iload_n 1, 1) := by decide +kernel
theorem d_RF_link_11 : decode prog_1_method_3_code 11 = .ok (.iload_n 2, 1) := by decide +kernel
theorem d_RF_link_12 : decode prog_1_method_3_code 12 = .ok (.if_icmp .ne 13, 3) := by decide +kernel
theorem d_RF_link_15 : decode prog_1_method_3_code 15 = .ok (.new 66, 3) := by decide +kernel
theorem d_RF_link_18 : decode prog_1_method_3_code 18 = .ok (.dup, 1) := by decide +kernel
theorem d_RF_link_19 : decode prog_1_method_3_code 19 = .ok (.ldc 68, 2) := by decide +kernel
theorem d_RF_link_21 : decode prog_1_method_3_code 21 = .ok (.invokespecial 70, 3) := by decide +kernel
theorem d_RF_link_24 : decode prog_1_method_3_code 24 = .ok (.athrow, 1) := by decide +kernel
theorem d_RF_link_25 : decode prog_1_method_3_code 25 = .ok (.aload_n 0, 1) := by decide +kernel
theorem d_RF_link_26 : decode prog_1_method_3_code 26 = .ok (.getfield 10, 3) := by decide +kernel
theorem d_RF_link_29 : decode prog_1_method_3_code 29 = .ok (.iload_n 1, 1) := by decide +kernel
theorem d_RF_link_30 : decode prog_1_method_3_code 30 = .ok (.iload_n 2, 1) := by decide +kernel
theorem d_RF_link_31 : decode prog_1_method_3_code 31 = .ok (.invokevirtual 71, 3) := by decide +kernel
theorem d_RF_link_34 : decode prog_1_method_3_code 34 = .ok (.return_, 1) := by decide +kernel
theorem d_RF_needPiece_0 : decode prog_1_method_23_code 0 = .ok (.aload_n 0, 1) := by decide +kernel
theorem d_RF_needPiece_1 : decode prog_1_method_23_code 1 = .ok (.getfield 10, 3) := by decide +kernel
theorem d_RF_needPiece_4 : decode prog_1_method_23_code 4 = .ok (.iload_n 1, 1) := by decide +kernel
theorem d_RF_needPiece_5 : decode prog_1_method_23_code 5 = .ok (.invokevirtual 298, 3) := by decide +kernel
theorem d_RF_needPiece_8 : decode prog_1_method_23_code 8 = .ok (.ifCond .ne 14, 3) := by decide +kernel
theorem d_RF_needPiece_11 : decode prog_1_method_23_code 11 = .ok (.new 302, 3) := by decide +kernel
theorem d_RF_needPiece_14 : decode prog_1_method_23_code 14 = .ok (.dup, 1) := by decide +kernel
theorem d_RF_needPiece_15 : decode prog_1_method_23_code 15 = .ok (.ldc_w 304, 3) := by decide +kernel
theorem d_RF_needPiece_18 : decode prog_1_method_23_code 18 = .ok (.invokespecial 306, 3) := by decide +kernel
theorem d_RF_needPiece_21 : decode prog_1_method_23_code 21 = .ok (.athrow, 1) := by decide +kernel
theorem d_RF_needPiece_22 : decode prog_1_method_23_code 22 = .ok (.return_, 1) := by decide +kernel
theorem d_Track_has_0 : decode prog_7_method_4_code 0 = .ok (.iload_n 1, 1) := by decide +kernel
theorem d_Track_has_1 : decode prog_7_method_4_code 1 = .ok (.ifCond .lt 15, 3) := by decide +kernel
theorem d_Track_has_4 : decode prog_7_method_4_code 4 = .ok (.iload_n 1, 1) := by decide +kernel
theorem d_Track_has_5 : decode prog_7_method_4_code 5 = .ok (.aload_n 0, 1) := by decide +kernel
theorem d_Track_has_6 : decode prog_7_method_4_code 6 = .ok (.getfield 15, 3) := by decide +kernel
theorem d_Track_has_9 : decode prog_7_method_4_code 9 = .ok (.if_icmp .ge 7, 3) := by decide +kernel
theorem d_Track_has_12 : decode prog_7_method_4_code 12 = .ok (.iconst 1, 1) := by decide +kernel
theorem d_Track_has_13 : decode prog_7_method_4_code 13 = .ok (.goto 4, 3) := by decide +kernel
theorem d_Track_has_16 : decode prog_7_method_4_code 16 = .ok (.iconst 0, 1) := by decide +kernel
theorem d_Track_has_17 : decode prog_7_method_4_code 17 = .ok (.ireturn, 1) := by decide +kernel
theorem d_Track_connect_0 : decode prog_7_method_6_code 0 = .ok (.aload_n 0, 1) := by decide +kernel
theorem d_Track_connect_1 : decode prog_7_method_6_code 1 = .ok (.getfield 9, 3) := by decide +kernel
theorem d_Track_connect_4 : decode prog_7_method_6_code 4 = .ok (.iload_n 1, 1) := by decide +kernel
theorem d_Track_connect_5 : decode prog_7_method_6_code 5 = .ok (.dup2, 1) := by decide +kernel
theorem d_Track_connect_6 : decode prog_7_method_6_code 6 = .ok (.iaload, 1) := by decide +kernel
theorem d_Track_connect_7 : decode prog_7_method_6_code 7 = .ok (.iconst 1, 1) := by decide +kernel
theorem d_Track_connect_8 : decode prog_7_method_6_code 8 = .ok (.iload_n 2, 1) := by decide +kernel
theorem d_Track_connect_9 : decode prog_7_method_6_code 9 = .ok (.ishl, 1) := by decide +kernel
theorem d_Track_connect_10 : decode prog_7_method_6_code 10 = .ok (.ior, 1) := by decide +kernel
theorem d_Track_connect_11 : decode prog_7_method_6_code 11 = .ok (.iastore, 1) := by decide +kernel
theorem d_Track_connect_12 : decode prog_7_method_6_code 12 = .ok (.aload_n 0, 1) := by decide +kernel
theorem d_Track_connect_13 : decode prog_7_method_6_code 13 = .ok (.getfield 9, 3) := by decide +kernel
theorem d_Track_connect_16 : decode prog_7_method_6_code 16 = .ok (.iload_n 2, 1) := by decide +kernel
theorem d_Track_connect_17 : decode prog_7_method_6_code 17 = .ok (.dup2, 1) := by decide +kernel
theorem d_Track_connect_18 : decode prog_7_method_6_code 18 = .ok (.iaload, 1) := by decide +kernel
theorem d_Track_connect_19 : decode prog_7_method_6_code 19 = .ok (.iconst 1, 1) := by decide +kernel
theorem d_Track_connect_20 : decode prog_7_method_6_code 20 = .ok (.iload_n 1, 1) := by decide +kernel
theorem d_Track_connect_21 : decode prog_7_method_6_code 21 = .ok (.ishl, 1) := by decide +kernel
theorem d_Track_connect_22 : decode prog_7_method_6_code 22 = .ok (.ior, 1) := by decide +kernel
theorem d_Track_connect_23 : decode prog_7_method_6_code 23 = .ok (.iastore, 1) := by decide +kernel
theorem d_Track_connect_24 : decode prog_7_method_6_code 24 = .ok (.return_, 1) := by decide +kernel
theorem d_Law_robot_0 : decode method_5_code 0 = .ok (.aload_n 2, 1) := by decide +kernel
theorem d_Law_robot_1 : decode method_5_code 1 = .ok (.iconst 0, 1) := by decide +kernel
theorem d_Law_robot_2 : decode method_5_code 2 = .ok (.aload_n 0, 1) := by decide +kernel
theorem d_Law_robot_3 : decode method_5_code 3 = .ok (.iload_n 1, 1) := by decide +kernel
theorem d_Law_robot_4 : decode method_5_code 4 = .ok (.invokevirtual 23, 3) := by decide +kernel
theorem d_Law_robot_7 : decode method_5_code 7 = .ok (.i2l, 1) := by decide +kernel
theorem d_Law_robot_8 : decode method_5_code 8 = .ok (.lastore, 1) := by decide +kernel
theorem d_Law_robot_9 : decode method_5_code 9 = .ok (.goto 9, 3) := by decide +kernel
theorem d_Law_robot_12 : decode method_5_code 12 = .ok (.astore_n 3, 1) := by decide +kernel
theorem d_Law_robot_13 : decode method_5_code 13 = .ok (.iconst 1, 1) := by decide +kernel
theorem d_Law_robot_14 : decode method_5_code 14 = .ok (.ireturn, 1) := by decide +kernel
theorem d_Law_robot_15 : decode method_5_code 15 = .ok (.astore_n 3, 1) := by decide +kernel
theorem d_Law_robot_16 : decode method_5_code 16 = .ok (.iconst 2, 1) := by decide +kernel
theorem d_Law_robot_17 : decode method_5_code 17 = .ok (.ireturn, 1) := by decide +kernel
theorem d_Law_robot_18 : decode method_5_code 18 = .ok (.iconst 0, 1) := by decide +kernel
theorem d_Law_robot_19 : decode method_5_code 19 = .ok (.ireturn, 1) := by decide +kernel
theorem d_RF_robot_0 : decode prog_1_method_4_code 0 = .ok (.aload_n 0, 1) := by decide +kernel
theorem d_RF_robot_1 : decode prog_1_method_4_code 1 = .ok (.iload_n 1, 1) := by decide +kernel
theorem d_RF_robot_2 : decode prog_1_method_4_code 2 = .ok (.invokevirtual 62, 3) := by decide +kernel
theorem d_RF_robot_5 : decode prog_1_method_4_code 5 = .ok (.aload_n 0, 1) := by decide +kernel
theorem d_RF_robot_6 : decode prog_1_method_4_code 6 = .ok (.getfield 75, 3) := by decide +kernel
theorem d_RF_robot_9 : decode prog_1_method_4_code 9 = .ok (.aload_n 0, 1) := by decide +kernel
theorem d_RF_robot_10 : decode prog_1_method_4_code 10 = .ok (.getfield 24, 3) := by decide +kernel
theorem d_RF_robot_13 : decode prog_1_method_4_code 13 = .ok (.arraylength, 1) := by decide +kernel
theorem d_RF_robot_14 : decode prog_1_method_4_code 14 = .ok (.if_icmp .lt 13, 3) := by decide +kernel
theorem d_RF_robot_17 : decode prog_1_method_4_code 17 = .ok (.new 51, 3) := by decide +kernel
theorem d_RF_robot_20 : decode prog_1_method_4_code 20 = .ok (.dup, 1) := by decide +kernel
theorem d_RF_robot_21 : decode prog_1_method_4_code 21 = .ok (.ldc 79, 2) := by decide +kernel
theorem d_RF_robot_23 : decode prog_1_method_4_code 23 = .ok (.invokespecial 55, 3) := by decide +kernel
theorem d_RF_robot_26 : decode prog_1_method_4_code 26 = .ok (.athrow, 1) := by decide +kernel
theorem d_RF_robot_27 : decode prog_1_method_4_code 27 = .ok (.new 22, 3) := by decide +kernel
theorem d_RF_robot_30 : decode prog_1_method_4_code 30 = .ok (.dup, 1) := by decide +kernel
theorem d_RF_robot_31 : decode prog_1_method_4_code 31 = .ok (.aload_n 0, 1) := by decide +kernel
theorem d_RF_robot_32 : decode prog_1_method_4_code 32 = .ok (.getfield 75, 3) := by decide +kernel
theorem d_RF_robot_35 : decode prog_1_method_4_code 35 = .ok (.iload_n 1, 1) := by decide +kernel
theorem d_RF_robot_36 : decode prog_1_method_4_code 36 = .ok (.invokespecial 81, 3) := by decide +kernel
theorem d_RF_robot_39 : decode prog_1_method_4_code 39 = .ok (.astore_n 2, 1) := by decide +kernel
theorem d_RF_robot_40 : decode prog_1_method_4_code 40 = .ok (.aload_n 0, 1) := by decide +kernel
theorem d_RF_robot_41 : decode prog_1_method_4_code 41 = .ok (.getfield 24, 3) := by decide +kernel
theorem d_RF_robot_44 : decode prog_1_method_4_code 44 = .ok (.aload_n 0, 1) := by decide +kernel
theorem d_RF_robot_45 : decode prog_1_method_4_code 45 = .ok (.getfield 75, 3) := by decide +kernel
theorem d_RF_robot_48 : decode prog_1_method_4_code 48 = .ok (.aload_n 2, 1) := by decide +kernel
theorem d_RF_robot_49 : decode prog_1_method_4_code 49 = .ok (.aastore, 1) := by decide +kernel
theorem d_RF_robot_50 : decode prog_1_method_4_code 50 = .ok (.aload_n 0, 1) := by decide +kernel
theorem d_RF_robot_51 : decode prog_1_method_4_code 51 = .ok (.dup, 1) := by decide +kernel
theorem d_RF_robot_52 : decode prog_1_method_4_code 52 = .ok (.getfield 75, 3) := by decide +kernel
theorem d_RF_robot_55 : decode prog_1_method_4_code 55 = .ok (.iconst 1, 1) := by decide +kernel
theorem d_RF_robot_56 : decode prog_1_method_4_code 56 = .ok (.iadd, 1) := by decide +kernel
theorem d_RF_robot_57 : decode prog_1_method_4_code 57 = .ok (.putfield 75, 3) := by decide +kernel
theorem d_RF_robot_60 : decode prog_1_method_4_code 60 = .ok (.aload_n 2, 1) := by decide +kernel
theorem d_RF_robot_61 : decode prog_1_method_4_code 61 = .ok (.getfield 83, 3) := by decide +kernel
theorem d_RF_robot_64 : decode prog_1_method_4_code 64 = .ok (.ireturn, 1) := by decide +kernel
theorem d_Robot_init_0 : decode prog_5_method_1_code 0 = .ok (.aload_n 0, 1) := by decide +kernel
theorem d_Robot_init_1 : decode prog_5_method_1_code 1 = .ok (.invokespecial 3, 3) := by decide +kernel
theorem d_Robot_init_4 : decode prog_5_method_1_code 4 = .ok (.aload_n 0, 1) := by decide +kernel
theorem d_Robot_init_5 : decode prog_5_method_1_code 5 = .ok (.iconst 0, 1) := by decide +kernel
theorem d_Robot_init_6 : decode prog_5_method_1_code 6 = .ok (.putfield 9, 3) := by decide +kernel
theorem d_Robot_init_9 : decode prog_5_method_1_code 9 = .ok (.aload_n 0, 1) := by decide +kernel
theorem d_Robot_init_10 : decode prog_5_method_1_code 10 = .ok (.iconst (-1), 1) := by decide +kernel
theorem d_Robot_init_11 : decode prog_5_method_1_code 11 = .ok (.putfield 15, 3) := by decide +kernel
theorem d_Robot_init_14 : decode prog_5_method_1_code 14 = .ok (.aload_n 0, 1) := by decide +kernel
theorem d_Robot_init_15 : decode prog_5_method_1_code 15 = .ok (.iconst 0, 1) := by decide +kernel
theorem d_Robot_init_16 : decode prog_5_method_1_code 16 = .ok (.putfield 18, 3) := by decide +kernel
theorem d_Robot_init_19 : decode prog_5_method_1_code 19 = .ok (.aload_n 0, 1) := by decide +kernel
theorem d_Robot_init_20 : decode prog_5_method_1_code 20 = .ok (.iconst 0, 1) := by decide +kernel
theorem d_Robot_init_21 : decode prog_5_method_1_code 21 = .ok (.putfield 22, 3) := by decide +kernel
theorem d_Robot_init_24 : decode prog_5_method_1_code 24 = .ok (.aload_n 0, 1) := by decide +kernel
theorem d_Robot_init_25 : decode prog_5_method_1_code 25 = .ok (.iload_n 1, 1) := by decide +kernel
theorem d_Robot_init_26 : decode prog_5_method_1_code 26 = .ok (.putfield 25, 3) := by decide +kernel
theorem d_Robot_init_29 : decode prog_5_method_1_code 29 = .ok (.aload_n 0, 1) := by decide +kernel
theorem d_Robot_init_30 : decode prog_5_method_1_code 30 = .ok (.iload_n 2, 1) := by decide +kernel
theorem d_Robot_init_31 : decode prog_5_method_1_code 31 = .ok (.putfield 28, 3) := by decide +kernel
theorem d_Robot_init_34 : decode prog_5_method_1_code 34 = .ok (.return_, 1) := by decide +kernel
theorem d_Law_rule_0 : decode method_6_code 0 = .ok (.aload_n 0, 1) := by decide +kernel
theorem d_Law_rule_1 : decode method_6_code 1 = .ok (.iload_n 1, 1) := by decide +kernel
theorem d_Law_rule_2 : decode method_6_code 2 = .ok (.iload_n 2, 1) := by decide +kernel
theorem d_Law_rule_3 : decode method_6_code 3 = .ok (.iload_n 3, 1) := by decide +kernel
theorem d_Law_rule_4 : decode method_6_code 4 = .ok (.iload 4, 2) := by decide +kernel
theorem d_Law_rule_6 : decode method_6_code 6 = .ok (.invokevirtual 27, 3) := by decide +kernel
theorem d_Law_rule_9 : decode method_6_code 9 = .ok (.goto 7, 3) := by decide +kernel
theorem d_Law_rule_12 : decode method_6_code 12 = .ok (.astore 5, 2) := by decide +kernel
theorem d_Law_rule_14 : decode method_6_code 14 = .ok (.iconst 1, 1) := by decide +kernel
theorem d_Law_rule_15 : decode method_6_code 15 = .ok (.ireturn, 1) := by decide +kernel
theorem d_Law_rule_16 : decode method_6_code 16 = .ok (.iconst 0, 1) := by decide +kernel
theorem d_Law_rule_17 : decode method_6_code 17 = .ok (.ireturn, 1) := by decide +kernel
theorem d_RF_rule_0 : decode prog_1_method_5_code 0 = .ok (.iload_n 1, 1) := by decide +kernel
theorem d_RF_rule_1 : decode prog_1_method_5_code 1 = .ok (.invokestatic 86, 3) := by decide +kernel
theorem d_RF_rule_4 : decode prog_1_method_5_code 4 = .ok (.iload_n 2, 1) := by decide +kernel
theorem d_RF_rule_5 : decode prog_1_method_5_code 5 = .ok (.iconst 1, 1) := by decide +kernel
theorem d_RF_rule_6 : decode prog_1_method_5_code 6 = .ok (.if_icmp .lt 8, 3) := by decide +kernel
theorem d_RF_rule_9 : decode prog_1_method_5_code 9 = .ok (.iload_n 2, 1) := by decide +kernel
theorem d_RF_rule_10 : decode prog_1_method_5_code 10 = .ok (.iconst 2, 1) := by decide +kernel
theorem d_RF_rule_11 : decode prog_1_method_5_code 11 = .ok (.if_icmp .le 13, 3) := by decide +kernel
theorem d_RF_rule_14 : decode prog_1_method_5_code 14 = .ok (.new 66, 3) := by decide +kernel
theorem d_RF_rule_17 : decode prog_1_method_5_code 17 = .ok (.dup, 1) := by decide +kernel
theorem d_RF_rule_18 : decode prog_1_method_5_code 18 = .ok (.ldc 89, 2) := by decide +kernel
theorem d_RF_rule_20 : decode prog_1_method_5_code 20 = .ok (.invokespecial 70, 3) := by decide +kernel
theorem d_RF_rule_23 : decode prog_1_method_5_code 23 = .ok (.athrow, 1) := by decide +kernel
theorem d_RF_rule_24 : decode prog_1_method_5_code 24 = .ok (.iload 4, 2) := by decide +kernel
theorem d_RF_rule_26 : decode prog_1_method_5_code 26 = .ok (.iconst 1, 1) := by decide +kernel
theorem d_RF_rule_27 : decode prog_1_method_5_code 27 = .ok (.if_icmp .lt 9, 3) := by decide +kernel
theorem d_RF_rule_30 : decode prog_1_method_5_code 30 = .ok (.iload 4, 2) := by decide +kernel
theorem d_RF_rule_32 : decode prog_1_method_5_code 32 = .ok (.iconst 5, 1) := by decide +kernel
theorem d_RF_rule_33 : decode prog_1_method_5_code 33 = .ok (.if_icmp .le 13, 3) := by decide +kernel
theorem d_RF_rule_36 : decode prog_1_method_5_code 36 = .ok (.new 66, 3) := by decide +kernel
theorem d_RF_rule_39 : decode prog_1_method_5_code 39 = .ok (.dup, 1) := by decide +kernel
theorem d_RF_rule_40 : decode prog_1_method_5_code 40 = .ok (.ldc 91, 2) := by decide +kernel
theorem d_RF_rule_42 : decode prog_1_method_5_code 42 = .ok (.invokespecial 70, 3) := by decide +kernel
theorem d_RF_rule_45 : decode prog_1_method_5_code 45 = .ok (.athrow, 1) := by decide +kernel
end
section
/-! decode rows: printed by wip/gen/names.py -/
theorem d_RF_rule_46 : decode prog_1_method_5_code 46 = .ok (.aload_n 0, 1) := by decide +kernel
theorem d_RF_rule_47 : decode prog_1_method_5_code 47 = .ok (.getfield 18, 3) := by decide +kernel
theorem d_RF_rule_50 : decode prog_1_method_5_code 50 = .ok (.iload_n 1, 1) := by decide +kernel
theorem d_RF_rule_51 : decode prog_1_method_5_code 51 = .ok (.aaload, 1) := by decide +kernel
theorem d_RF_rule_52 : decode prog_1_method_5_code 52 = .ok (.iload_n 2, 1) := by decide +kernel
theorem d_RF_rule_53 : decode prog_1_method_5_code 53 = .ok (.iload_n 3, 1) := by decide +kernel
theorem d_RF_rule_54 : decode prog_1_method_5_code 54 = .ok (.iload 4, 2) := by decide +kernel
theorem d_RF_rule_56 : decode prog_1_method_5_code 56 = .ok (.invokevirtual 93, 3) := by decide +kernel
theorem d_RF_rule_59 : decode prog_1_method_5_code 59 = .ok (.return_, 1) := by decide +kernel
theorem d_RF_needKind_0 : decode prog_1_method_27_code 0 = .ok (.iload_n 0, 1) := by decide +kernel
theorem d_RF_needKind_1 : decode prog_1_method_27_code 1 = .ok (.ifCond .lt 9, 3) := by decide +kernel
theorem d_RF_needKind_4 : decode prog_1_method_27_code 4 = .ok (.iload_n 0, 1) := by decide +kernel
theorem d_RF_needKind_5 : decode prog_1_method_27_code 5 = .ok (.bipush 8, 2) := by decide +kernel
theorem d_RF_needKind_7 : decode prog_1_method_27_code 7 = .ok (.if_icmp .lt 14, 3) := by decide +kernel
theorem d_RF_needKind_10 : decode prog_1_method_27_code 10 = .ok (.new 66, 3) := by decide +kernel
theorem d_RF_needKind_13 : decode prog_1_method_27_code 13 = .ok (.dup, 1) := by decide +kernel
theorem d_RF_needKind_14 : decode prog_1_method_27_code 14 = .ok (.ldc_w 313, 3) := by decide +kernel
theorem d_RF_needKind_17 : decode prog_1_method_27_code 17 = .ok (.invokespecial 70, 3) := by decide +kernel
theorem d_RF_needKind_20 : decode prog_1_method_27_code 20 = .ok (.athrow, 1) := by decide +kernel
theorem d_RF_needKind_21 : decode prog_1_method_27_code 21 = .ok (.return_, 1) := by decide +kernel
theorem d_Rule_set_0 : decode prog_6_method_2_code 0 = .ok (.aload_n 0, 1) := by decide +kernel
theorem d_Rule_set_1 : decode prog_6_method_2_code 1 = .ok (.iload_n 1, 1) := by decide +kernel
theorem d_Rule_set_2 : decode prog_6_method_2_code 2 = .ok (.putfield 7, 3) := by decide +kernel
theorem d_Rule_set_5 : decode prog_6_method_2_code 5 = .ok (.aload_n 0, 1) := by decide +kernel
theorem d_Rule_set_6 : decode prog_6_method_2_code 6 = .ok (.iload_n 2, 1) := by decide +kernel
theorem d_Rule_set_7 : decode prog_6_method_2_code 7 = .ok (.putfield 13, 3) := by decide +kernel
theorem d_Rule_set_10 : decode prog_6_method_2_code 10 = .ok (.aload_n 0, 1) := by decide +kernel
theorem d_Rule_set_11 : decode prog_6_method_2_code 11 = .ok (.iload_n 3, 1) := by decide +kernel
theorem d_Rule_set_12 : decode prog_6_method_2_code 12 = .ok (.putfield 17, 3) := by decide +kernel
theorem d_Rule_set_15 : decode prog_6_method_2_code 15 = .ok (.return_, 1) := by decide +kernel
theorem d_Law_move_0 : decode method_7_code 0 = .ok (.aload_n 0, 1) := by decide +kernel
theorem d_Law_move_1 : decode method_7_code 1 = .ok (.iload_n 1, 1) := by decide +kernel
theorem d_Law_move_2 : decode method_7_code 2 = .ok (.iload_n 2, 1) := by decide +kernel
theorem d_Law_move_3 : decode method_7_code 3 = .ok (.invokevirtual 31, 3) := by decide +kernel
theorem d_Law_move_6 : decode method_7_code 6 = .ok (.goto 9, 3) := by decide +kernel
theorem d_Law_move_9 : decode method_7_code 9 = .ok (.astore_n 3, 1) := by decide +kernel
theorem d_Law_move_10 : decode method_7_code 10 = .ok (.iconst 1, 1) := by decide +kernel
theorem d_Law_move_11 : decode method_7_code 11 = .ok (.ireturn, 1) := by decide +kernel
theorem d_Law_move_12 : decode method_7_code 12 = .ok (.astore_n 3, 1) := by decide +kernel
theorem d_Law_move_13 : decode method_7_code 13 = .ok (.iconst 2, 1) := by decide +kernel
theorem d_Law_move_14 : decode method_7_code 14 = .ok (.ireturn, 1) := by decide +kernel
theorem d_Law_move_15 : decode method_7_code 15 = .ok (.iconst 0, 1) := by decide +kernel
theorem d_Law_move_16 : decode method_7_code 16 = .ok (.ireturn, 1) := by decide +kernel
theorem d_RF_move_0 : decode prog_1_method_6_code 0 = .ok (.aload_n 0, 1) := by decide +kernel
theorem d_RF_move_1 : decode prog_1_method_6_code 1 = .ok (.iload_n 1, 1) := by decide +kernel
theorem d_RF_move_2 : decode prog_1_method_6_code 2 = .ok (.invokevirtual 97, 3) := by decide +kernel
theorem d_RF_move_5 : decode prog_1_method_6_code 5 = .ok (.astore_n 3, 1) := by decide +kernel
theorem d_RF_move_6 : decode prog_1_method_6_code 6 = .ok (.aload_n 0, 1) := by decide +kernel
theorem d_RF_move_7 : decode prog_1_method_6_code 7 = .ok (.iload_n 2, 1) := by decide +kernel
theorem d_RF_move_8 : decode prog_1_method_6_code 8 = .ok (.invokevirtual 62, 3) := by decide +kernel
theorem d_RF_move_11 : decode prog_1_method_6_code 11 = .ok (.aload_n 3, 1) := by decide +kernel
theorem d_RF_move_12 : decode prog_1_method_6_code 12 = .ok (.getfield 101, 3) := by decide +kernel
theorem d_RF_move_15 : decode prog_1_method_6_code 15 = .ok (.ifCond .eq 13, 3) := by decide +kernel
theorem d_RF_move_18 : decode prog_1_method_6_code 18 = .ok (.new 104, 3) := by decide +kernel
theorem d_RF_move_21 : decode prog_1_method_6_code 21 = .ok (.dup, 1) := by decide +kernel
theorem d_RF_move_22 : decode prog_1_method_6_code 22 = .ok (.ldc 106, 2) := by decide +kernel
theorem d_RF_move_24 : decode prog_1_method_6_code 24 = .ok (.invokespecial 108, 3) := by decide +kernel
theorem d_RF_move_27 : decode prog_1_method_6_code 27 = .ok (.athrow, 1) := by decide +kernel
theorem d_RF_move_28 : decode prog_1_method_6_code 28 = .ok (.aload_n 0, 1) := by decide +kernel
theorem d_RF_move_29 : decode prog_1_method_6_code 29 = .ok (.getfield 10, 3) := by decide +kernel
theorem d_RF_move_32 : decode prog_1_method_6_code 32 = .ok (.aload_n 3, 1) := by decide +kernel
theorem d_RF_move_33 : decode prog_1_method_6_code 33 = .ok (.getfield 109, 3) := by decide +kernel
theorem d_RF_move_36 : decode prog_1_method_6_code 36 = .ok (.iload_n 2, 1) := by decide +kernel
theorem d_RF_move_37 : decode prog_1_method_6_code 37 = .ok (.invokevirtual 112, 3) := by decide +kernel
theorem d_RF_move_40 : decode prog_1_method_6_code 40 = .ok (.ifCond .ne 13, 3) := by decide +kernel
theorem d_RF_move_43 : decode prog_1_method_6_code 43 = .ok (.new 104, 3) := by decide +kernel
theorem d_RF_move_46 : decode prog_1_method_6_code 46 = .ok (.dup, 1) := by decide +kernel
theorem d_RF_move_47 : decode prog_1_method_6_code 47 = .ok (.ldc 116, 2) := by decide +kernel
theorem d_RF_move_49 : decode prog_1_method_6_code 49 = .ok (.invokespecial 108, 3) := by decide +kernel
theorem d_RF_move_52 : decode prog_1_method_6_code 52 = .ok (.athrow, 1) := by decide +kernel
theorem d_RF_move_53 : decode prog_1_method_6_code 53 = .ok (.aload_n 3, 1) := by decide +kernel
theorem d_RF_move_54 : decode prog_1_method_6_code 54 = .ok (.iload_n 2, 1) := by decide +kernel
theorem d_RF_move_55 : decode prog_1_method_6_code 55 = .ok (.putfield 109, 3) := by decide +kernel
theorem d_RF_move_58 : decode prog_1_method_6_code 58 = .ok (.return_, 1) := by decide +kernel
theorem d_RF_robotAt_0 : decode prog_1_method_24_code 0 = .ok (.iload_n 1, 1) := by decide +kernel
theorem d_RF_robotAt_1 : decode prog_1_method_24_code 1 = .ok (.ifCond .lt 21, 3) := by decide +kernel
theorem d_RF_robotAt_4 : decode prog_1_method_24_code 4 = .ok (.iload_n 1, 1) := by decide +kernel
theorem d_RF_robotAt_5 : decode prog_1_method_24_code 5 = .ok (.aload_n 0, 1) := by decide +kernel
theorem d_RF_robotAt_6 : decode prog_1_method_24_code 6 = .ok (.getfield 24, 3) := by decide +kernel
theorem d_RF_robotAt_9 : decode prog_1_method_24_code 9 = .ok (.arraylength, 1) := by decide +kernel
theorem d_RF_robotAt_10 : decode prog_1_method_24_code 10 = .ok (.if_icmp .ge 12, 3) := by decide +kernel
theorem d_RF_robotAt_13 : decode prog_1_method_24_code 13 = .ok (.aload_n 0, 1) := by decide +kernel
theorem d_RF_robotAt_14 : decode prog_1_method_24_code 14 = .ok (.getfield 24, 3) := by decide +kernel
theorem d_RF_robotAt_17 : decode prog_1_method_24_code 17 = .ok (.iload_n 1, 1) := by decide +kernel
theorem d_RF_robotAt_18 : decode prog_1_method_24_code 18 = .ok (.aaload, 1) := by decide +kernel
theorem d_RF_robotAt_19 : decode prog_1_method_24_code 19 = .ok (.goto 4, 3) := by decide +kernel
theorem d_RF_robotAt_22 : decode prog_1_method_24_code 22 = .ok (.aconst_null, 1) := by decide +kernel
theorem d_RF_robotAt_23 : decode prog_1_method_24_code 23 = .ok (.astore_n 2, 1) := by decide +kernel
theorem d_RF_robotAt_24 : decode prog_1_method_24_code 24 = .ok (.aload_n 2, 1) := by decide +kernel
theorem d_RF_robotAt_25 : decode prog_1_method_24_code 25 = .ok (.ifnonnull 14, 3) := by decide +kernel
theorem d_RF_robotAt_28 : decode prog_1_method_24_code 28 = .ok (.new 302, 3) := by decide +kernel
theorem d_RF_robotAt_31 : decode prog_1_method_24_code 31 = .ok (.dup, 1) := by decide +kernel
theorem d_RF_robotAt_32 : decode prog_1_method_24_code 32 = .ok (.ldc_w 307, 3) := by decide +kernel
theorem d_RF_robotAt_35 : decode prog_1_method_24_code 35 = .ok (.invokespecial 306, 3) := by decide +kernel
theorem d_RF_robotAt_38 : decode prog_1_method_24_code 38 = .ok (.athrow, 1) := by decide +kernel
theorem d_RF_robotAt_39 : decode prog_1_method_24_code 39 = .ok (.aload_n 2, 1) := by decide +kernel
theorem d_RF_robotAt_40 : decode prog_1_method_24_code 40 = .ok (.areturn, 1) := by decide +kernel
theorem d_Track_areConnected_0 : decode prog_7_method_7_code 0 = .ok (.aload_n 0, 1) := by decide +kernel
theorem d_Track_areConnected_1 : decode prog_7_method_7_code 1 = .ok (.getfield 9, 3) := by decide +kernel
theorem d_Track_areConnected_4 : decode prog_7_method_7_code 4 = .ok (.iload_n 1, 1) := by decide +kernel
theorem d_Track_areConnected_5 : decode prog_7_method_7_code 5 = .ok (.iaload, 1) := by decide +kernel
theorem d_Track_areConnected_6 : decode prog_7_method_7_code 6 = .ok (.iload_n 2, 1) := by decide +kernel
theorem d_Track_areConnected_7 : decode prog_7_method_7_code 7 = .ok (.invokestatic 19, 3) := by decide +kernel
theorem d_Track_areConnected_10 : decode prog_7_method_7_code 10 = .ok (.ireturn, 1) := by decide +kernel
theorem d_RF_holds_0 : decode prog_1_method_30_code 0 = .ok (.iload_n 0, 1) := by decide +kernel
theorem d_RF_holds_1 : decode prog_1_method_30_code 1 = .ok (.iload_n 1, 1) := by decide +kernel
theorem d_RF_holds_2 : decode prog_1_method_30_code 2 = .ok (.ishr, 1) := by decide +kernel
theorem d_RF_holds_3 : decode prog_1_method_30_code 3 = .ok (.iconst 1, 1) := by decide +kernel
theorem d_RF_holds_4 : decode prog_1_method_30_code 4 = .ok (.iand, 1) := by decide +kernel
theorem d_RF_holds_5 : decode prog_1_method_30_code 5 = .ok (.iconst 1, 1) := by decide +kernel
theorem d_RF_holds_6 : decode prog_1_method_30_code 6 = .ok (.if_icmp .ne 7, 3) := by decide +kernel
theorem d_RF_holds_9 : decode prog_1_method_30_code 9 = .ok (.iconst 1, 1) := by decide +kernel
theorem d_RF_holds_10 : decode prog_1_method_30_code 10 = .ok (.goto 4, 3) := by decide +kernel
theorem d_RF_holds_13 : decode prog_1_method_30_code 13 = .ok (.iconst 0, 1) := by decide +kernel
theorem d_RF_holds_14 : decode prog_1_method_30_code 14 = .ok (.ireturn, 1) := by decide +kernel
theorem d_Law_load_0 : decode method_8_code 0 = .ok (.aload_n 0, 1) := by decide +kernel
theorem d_Law_load_1 : decode method_8_code 1 = .ok (.iload_n 1, 1) := by decide +kernel
theorem d_Law_load_2 : decode method_8_code 2 = .ok (.iload_n 2, 1) := by decide +kernel
theorem d_Law_load_3 : decode method_8_code 3 = .ok (.invokevirtual 36, 3) := by decide +kernel
theorem d_Law_load_6 : decode method_8_code 6 = .ok (.goto 12, 3) := by decide +kernel
theorem d_Law_load_9 : decode method_8_code 9 = .ok (.astore_n 3, 1) := by decide +kernel
theorem d_Law_load_10 : decode method_8_code 10 = .ok (.iconst 1, 1) := by decide +kernel
theorem d_Law_load_11 : decode method_8_code 11 = .ok (.ireturn, 1) := by decide +kernel
theorem d_Law_load_12 : decode method_8_code 12 = .ok (.astore_n 3, 1) := by decide +kernel
theorem d_Law_load_13 : decode method_8_code 13 = .ok (.iconst 2, 1) := by decide +kernel
theorem d_Law_load_14 : decode method_8_code 14 = .ok (.ireturn, 1) := by decide +kernel
theorem d_Law_load_15 : decode method_8_code 15 = .ok (.astore_n 3, 1) := by decide +kernel
theorem d_Law_load_16 : decode method_8_code 16 = .ok (.iconst 3, 1) := by decide +kernel
theorem d_Law_load_17 : decode method_8_code 17 = .ok (.ireturn, 1) := by decide +kernel
theorem d_Law_load_18 : decode method_8_code 18 = .ok (.iconst 0, 1) := by decide +kernel
theorem d_Law_load_19 : decode method_8_code 19 = .ok (.ireturn, 1) := by decide +kernel
theorem d_RF_load_0 : decode prog_1_method_7_code 0 = .ok (.aload_n 0, 1) := by decide +kernel
theorem d_RF_load_1 : decode prog_1_method_7_code 1 = .ok (.iload_n 1, 1) := by decide +kernel
theorem d_RF_load_2 : decode prog_1_method_7_code 2 = .ok (.invokevirtual 97, 3) := by decide +kernel
theorem d_RF_load_5 : decode prog_1_method_7_code 5 = .ok (.astore_n 3, 1) := by decide +kernel
theorem d_RF_load_6 : decode prog_1_method_7_code 6 = .ok (.iload_n 2, 1) := by decide +kernel
theorem d_RF_load_7 : decode prog_1_method_7_code 7 = .ok (.iconst (-1), 1) := by decide +kernel
theorem d_RF_load_8 : decode prog_1_method_7_code 8 = .ok (.if_icmp .lt 9, 3) := by decide +kernel
theorem d_RF_load_11 : decode prog_1_method_7_code 11 = .ok (.iload_n 2, 1) := by decide +kernel
theorem d_RF_load_12 : decode prog_1_method_7_code 12 = .ok (.bipush 99, 2) := by decide +kernel
theorem d_RF_load_14 : decode prog_1_method_7_code 14 = .ok (.if_icmp .le 13, 3) := by decide +kernel
theorem d_RF_load_17 : decode prog_1_method_7_code 17 = .ok (.new 66, 3) := by decide +kernel
theorem d_RF_load_20 : decode prog_1_method_7_code 20 = .ok (.dup, 1) := by decide +kernel
theorem d_RF_load_21 : decode prog_1_method_7_code 21 = .ok (.ldc 118, 2) := by decide +kernel
theorem d_RF_load_23 : decode prog_1_method_7_code 23 = .ok (.invokespecial 70, 3) := by decide +kernel
theorem d_RF_load_26 : decode prog_1_method_7_code 26 = .ok (.athrow, 1) := by decide +kernel
theorem d_RF_load_27 : decode prog_1_method_7_code 27 = .ok (.aload_n 3, 1) := by decide +kernel
theorem d_RF_load_28 : decode prog_1_method_7_code 28 = .ok (.getfield 101, 3) := by decide +kernel
theorem d_RF_load_31 : decode prog_1_method_7_code 31 = .ok (.iconst 2, 1) := by decide +kernel
theorem d_RF_load_32 : decode prog_1_method_7_code 32 = .ok (.if_icmp .ne 13, 3) := by decide +kernel
theorem d_RF_load_35 : decode prog_1_method_7_code 35 = .ok (.new 104, 3) := by decide +kernel
theorem d_RF_load_38 : decode prog_1_method_7_code 38 = .ok (.dup, 1) := by decide +kernel
theorem d_RF_load_39 : decode prog_1_method_7_code 39 = .ok (.ldc 120, 2) := by decide +kernel
theorem d_RF_load_41 : decode prog_1_method_7_code 41 = .ok (.invokespecial 108, 3) := by decide +kernel
theorem d_RF_load_44 : decode prog_1_method_7_code 44 = .ok (.athrow, 1) := by decide +kernel
theorem d_RF_load_45 : decode prog_1_method_7_code 45 = .ok (.aload_n 3, 1) := by decide +kernel
theorem d_RF_load_46 : decode prog_1_method_7_code 46 = .ok (.iload_n 2, 1) := by decide +kernel
theorem d_RF_load_47 : decode prog_1_method_7_code 47 = .ok (.putfield 122, 3) := by decide +kernel
theorem d_RF_load_50 : decode prog_1_method_7_code 50 = .ok (.return_, 1) := by decide +kernel
theorem d_Law_fault_0 : decode method_9_code 0 = .ok (.aload_n 3, 1) := by decide +kernel
theorem d_Law_fault_1 : decode method_9_code 1 = .ok (.iconst 0, 1) := by decide +kernel
theorem d_Law_fault_2 : decode method_9_code 2 = .ok (.aload_n 0, 1) := by decide +kernel
theorem d_Law_fault_3 : decode method_9_code 3 = .ok (.iload_n 1, 1) := by decide +kernel
theorem d_Law_fault_4 : decode method_9_code 4 = .ok (.iload_n 2, 1) := by decide +kernel
theorem d_Law_fault_5 : decode method_9_code 5 = .ok (.invokevirtual 39, 3) := by decide +kernel
theorem d_Law_fault_8 : decode method_9_code 8 = .ok (.i2l, 1) := by decide +kernel
theorem d_Law_fault_9 : decode method_9_code 9 = .ok (.lastore, 1) := by decide +kernel
theorem d_Law_fault_10 : decode method_9_code 10 = .ok (.goto 19, 3) := by decide +kernel
theorem d_Law_fault_13 : decode method_9_code 13 = .ok (.astore 4, 2) := by decide +kernel
theorem d_Law_fault_15 : decode method_9_code 15 = .ok (.iconst 1, 1) := by decide +kernel
theorem d_Law_fault_16 : decode method_9_code 16 = .ok (.ireturn, 1) := by decide +kernel
theorem d_Law_fault_17 : decode method_9_code 17 = .ok (.astore 4, 2) := by decide +kernel
theorem d_Law_fault_19 : decode method_9_code 19 = .ok (.iconst 2, 1) := by decide +kernel
theorem d_Law_fault_20 : decode method_9_code 20 = .ok (.ireturn, 1) := by decide +kernel
theorem d_Law_fault_21 : decode method_9_code 21 = .ok (.astore 4, 2) := by decide +kernel
theorem d_Law_fault_23 : decode method_9_code 23 = .ok (.iconst 3, 1) := by decide +kernel
theorem d_Law_fault_24 : decode method_9_code 24 = .ok (.ireturn, 1) := by decide +kernel
theorem d_Law_fault_25 : decode method_9_code 25 = .ok (.astore 4, 2) := by decide +kernel
theorem d_Law_fault_27 : decode method_9_code 27 = .ok (.iconst 4, 1) := by decide +kernel
theorem d_Law_fault_28 : decode method_9_code 28 = .ok (.ireturn, 1) := by decide +kernel
theorem d_Law_fault_29 : decode method_9_code 29 = .ok (.iconst 0, 1) := by decide +kernel
theorem d_Law_fault_30 : decode method_9_code 30 = .ok (.ireturn, 1) := by decide +kernel
theorem d_RF_fault_0 : decode prog_1_method_8_code 0 = .ok (.aload_n 0, 1) := by decide +kernel
theorem d_RF_fault_1 : decode prog_1_method_8_code 1 = .ok (.iload_n 1, 1) := by decide +kernel
theorem d_RF_fault_2 : decode prog_1_method_8_code 2 = .ok (.invokevirtual 97, 3) := by decide +kernel
theorem d_RF_fault_5 : decode prog_1_method_8_code 5 = .ok (.astore_n 3, 1) := by decide +kernel
theorem d_RF_fault_6 : decode prog_1_method_8_code 6 = .ok (.iload_n 2, 1) := by decide +kernel
theorem d_RF_fault_7 : decode prog_1_method_8_code 7 = .ok (.invokestatic 86, 3) := by decide +kernel
theorem d_RF_fault_10 : decode prog_1_method_8_code 10 = .ok (.aload_n 3, 1) := by decide +kernel
theorem d_RF_fault_11 : decode prog_1_method_8_code 11 = .ok (.iload_n 2, 1) := by decide +kernel
theorem d_RF_fault_12 : decode prog_1_method_8_code 12 = .ok (.invokestatic 125, 3) := by decide +kernel
theorem d_RF_fault_15 : decode prog_1_method_8_code 15 = .ok (.ifCond .eq 13, 3) := by decide +kernel
theorem d_RF_fault_18 : decode prog_1_method_8_code 18 = .ok (.new 104, 3) := by decide +kernel
theorem d_RF_fault_21 : decode prog_1_method_8_code 21 = .ok (.dup, 1) := by decide +kernel
theorem d_RF_fault_22 : decode prog_1_method_8_code 22 = .ok (.ldc 129, 2) := by decide +kernel
theorem d_RF_fault_24 : decode prog_1_method_8_code 24 = .ok (.invokespecial 108, 3) := by decide +kernel
theorem d_RF_fault_27 : decode prog_1_method_8_code 27 = .ok (.athrow, 1) := by decide +kernel
theorem d_RF_fault_28 : decode prog_1_method_8_code 28 = .ok (.aload_n 0, 1) := by decide +kernel
theorem d_RF_fault_29 : decode prog_1_method_8_code 29 = .ok (.invokevirtual 131, 3) := by decide +kernel
theorem d_RF_fault_32 : decode prog_1_method_8_code 32 = .ok (.ifCond .ne 13, 3) := by decide +kernel
theorem d_RF_fault_35 : decode prog_1_method_8_code 35 = .ok (.new 51, 3) := by decide +kernel
theorem d_RF_fault_38 : decode prog_1_method_8_code 38 = .ok (.dup, 1) := by decide +kernel
theorem d_RF_fault_39 : decode prog_1_method_8_code 39 = .ok (.ldc 134, 2) := by decide +kernel
theorem d_RF_fault_41 : decode prog_1_method_8_code 41 = .ok (.invokespecial 55, 3) := by decide +kernel
theorem d_RF_fault_44 : decode prog_1_method_8_code 44 = .ok (.athrow, 1) := by decide +kernel
theorem d_RF_fault_45 : decode prog_1_method_8_code 45 = .ok (.aload_n 0, 1) := by decide +kernel
theorem d_RF_fault_46 : decode prog_1_method_8_code 46 = .ok (.aload_n 3, 1) := by decide +kernel
theorem d_RF_fault_47 : decode prog_1_method_8_code 47 = .ok (.iload_n 2, 1) := by decide +kernel
theorem d_RF_fault_48 : decode prog_1_method_8_code 48 = .ok (.iconst 0, 1) := by decide +kernel
theorem d_RF_fault_49 : decode prog_1_method_8_code 49 = .ok (.invokevirtual 136, 3) := by decide +kernel
theorem d_RF_fault_52 : decode prog_1_method_8_code 52 = .ok (.ireturn, 1) := by decide +kernel
theorem d_RF_hasNoLoadToLose_0 : decode prog_1_method_31_code 0 = .ok (.iload_n 1, 1) := by decide +kernel
theorem d_RF_hasNoLoadToLose_1 : decode prog_1_method_31_code 1 = .ok (.iconst 2, 1) := by decide +kernel
theorem d_RF_hasNoLoadToLose_2 : decode prog_1_method_31_code 2 = .ok (.if_icmp .ne 15, 3) := by decide +kernel
theorem d_RF_hasNoLoadToLose_5 : decode prog_1_method_31_code 5 = .ok (.aload_n 0, 1) := by decide +kernel
theorem d_RF_hasNoLoadToLose_6 : decode prog_1_method_31_code 6 = .ok (.getfield 122, 3) := by decide +kernel
theorem d_RF_hasNoLoadToLose_9 : decode prog_1_method_31_code 9 = .ok (.iconst (-1), 1) := by decide +kernel
theorem d_RF_hasNoLoadToLose_10 : decode prog_1_method_31_code 10 = .ok (.if_icmp .ne 7, 3) := by decide +kernel
theorem d_RF_hasNoLoadToLose_13 : decode prog_1_method_31_code 13 = .ok (.iconst 1, 1) := by decide +kernel
theorem d_RF_hasNoLoadToLose_14 : decode prog_1_method_31_code 14 = .ok (.goto 4, 3) := by decide +kernel
theorem d_RF_hasNoLoadToLose_17 : decode prog_1_method_31_code 17 = .ok (.iconst 0, 1) := by decide +kernel
theorem d_RF_hasNoLoadToLose_18 : decode prog_1_method_31_code 18 = .ok (.ireturn, 1) := by decide +kernel
theorem d_RF_hasRoomForFault_0 : decode prog_1_method_32_code 0 = .ok (.aload_n 0, 1) := by decide +kernel
theorem d_RF_hasRoomForFault_1 : decode prog_1_method_32_code 1 = .ok (.getfield 283, 3) := by decide +kernel
theorem d_RF_hasRoomForFault_4 : decode prog_1_method_32_code 4 = .ok (.aload_n 0, 1) := by decide +kernel
theorem d_RF_hasRoomForFault_5 : decode prog_1_method_32_code 5 = .ok (.getfield 30, 3) := by decide +kernel
theorem d_RF_hasRoomForFault_8 : decode prog_1_method_32_code 8 = .ok (.arraylength, 1) := by decide +kernel
theorem d_RF_hasRoomForFault_9 : decode prog_1_method_32_code 9 = .ok (.if_icmp .ge 19, 3) := by decide +kernel
theorem d_RF_hasRoomForFault_12 : decode prog_1_method_32_code 12 = .ok (.aload_n 0, 1) := by decide +kernel
theorem d_RF_hasRoomForFault_13 : decode prog_1_method_32_code 13 = .ok (.getfield 289, 3) := by decide +kernel
theorem d_RF_hasRoomForFault_16 : decode prog_1_method_32_code 16 = .ok (.aload_n 0, 1) := by decide +kernel
theorem d_RF_hasRoomForFault_17 : decode prog_1_method_32_code 17 = .ok (.getfield 36, 3) := by decide +kernel
theorem d_RF_hasRoomForFault_20 : decode prog_1_method_32_code 20 = .ok (.arraylength, 1) := by decide +kernel
theorem d_RF_hasRoomForFault_21 : decode prog_1_method_32_code 21 = .ok (.if_icmp .ge 7, 3) := by decide +kernel
theorem d_RF_hasRoomForFault_24 : decode prog_1_method_32_code 24 = .ok (.iconst 1, 1) := by decide +kernel
theorem d_RF_hasRoomForFault_25 : decode prog_1_method_32_code 25 = .ok (.goto 4, 3) := by decide +kernel
theorem d_RF_hasRoomForFault_28 : decode prog_1_method_32_code 28 = .ok (.iconst 0, 1) := by decide +kernel
theorem d_RF_hasRoomForFault_29 : decode prog_1_method_32_code 29 = .ok (.ireturn, 1) := by decide +kernel
theorem d_RF_openOrNewFault_0 : decode prog_1_method_33_code 0 = .ok (.aload_n 0, 1) := by decide +kernel
theorem d_RF_openOrNewFault_1 : decode prog_1_method_33_code 1 = .ok (.aload_n 1, 1) := by decide +kernel
theorem d_RF_openOrNewFault_2 : decode prog_1_method_33_code 2 = .ok (.iload_n 2, 1) := by decide +kernel
theorem d_RF_openOrNewFault_3 : decode prog_1_method_33_code 3 = .ok (.invokevirtual 319, 3) := by decide +kernel
theorem d_RF_openOrNewFault_6 : decode prog_1_method_33_code 6 = .ok (.astore 4, 2) := by decide +kernel
theorem d_RF_openOrNewFault_8 : decode prog_1_method_33_code 8 = .ok (.aload 4, 2) := by decide +kernel
theorem d_RF_openOrNewFault_10 : decode prog_1_method_33_code 10 = .ok (.ifnonnull 13, 3) := by decide +kernel
theorem d_RF_openOrNewFault_13 : decode prog_1_method_33_code 13 = .ok (.aload_n 0, 1) := by decide +kernel
theorem d_RF_openOrNewFault_14 : decode prog_1_method_33_code 14 = .ok (.aload_n 1, 1) := by decide +kernel
theorem d_RF_openOrNewFault_15 : decode prog_1_method_33_code 15 = .ok (.iload_n 2, 1) := by decide +kernel
theorem d_RF_openOrNewFault_16 : decode prog_1_method_33_code 16 = .ok (.iload_n 3, 1) := by decide +kernel
theorem d_RF_openOrNewFault_17 : decode prog_1_method_33_code 17 = .ok (.invokevirtual 323, 3) := by decide +kernel
theorem d_RF_openOrNewFault_20 : decode prog_1_method_33_code 20 = .ok (.goto 9, 3) := by decide +kernel
theorem d_RF_openOrNewFault_23 : decode prog_1_method_33_code 23 = .ok (.aload 4, 2) := by decide +kernel
theorem d_RF_openOrNewFault_25 : decode prog_1_method_33_code 25 = .ok (.getfield 326, 3) := by decide +kernel
theorem d_RF_openOrNewFault_28 : decode prog_1_method_33_code 28 = .ok (.ineg, 1) := by decide +kernel
theorem d_RF_openOrNewFault_29 : decode prog_1_method_33_code 29 = .ok (.ireturn, 1) := by decide +kernel
theorem d_RF_openFault_0 : decode prog_1_method_34_code 0 = .ok (.aload_n 0, 1) := by decide +kernel
theorem d_RF_openFault_1 : decode prog_1_method_34_code 1 = .ok (.getfield 30, 3) := by decide +kernel
theorem d_RF_openFault_4 : decode prog_1_method_34_code 4 = .ok (.astore_n 3, 1) := by decide +kernel
theorem d_RF_openFault_5 : decode prog_1_method_34_code 5 = .ok (.aload_n 3, 1) := by decide +kernel
theorem d_RF_openFault_6 : decode prog_1_method_34_code 6 = .ok (.arraylength, 1) := by decide +kernel
theorem d_RF_openFault_7 : decode prog_1_method_34_code 7 = .ok (.istore 4, 2) := by decide +kernel
theorem d_RF_openFault_9 : decode prog_1_method_34_code 9 = .ok (.iconst 0, 1) := by decide +kernel
theorem d_RF_openFault_10 : decode prog_1_method_34_code 10 = .ok (.istore 5, 2) := by decide +kernel
theorem d_RF_openFault_12 : decode prog_1_method_34_code 12 = .ok (.iload 5, 2) := by decide +kernel
theorem d_RF_openFault_14 : decode prog_1_method_34_code 14 = .ok (.iload 4, 2) := by decide +kernel
theorem d_RF_openFault_16 : decode prog_1_method_34_code 16 = .ok (.if_icmp .ge 49, 3) := by decide +kernel
theorem d_RF_openFault_19 : decode prog_1_method_34_code 19 = .ok (.aload_n 3, 1) := by decide +kernel
theorem d_RF_openFault_20 : decode prog_1_method_34_code 20 = .ok (.iload 5, 2) := by decide +kernel
theorem d_RF_openFault_22 : decode prog_1_method_34_code 22 = .ok (.aaload, 1) := by decide +kernel
theorem d_RF_openFault_23 : decode prog_1_method_34_code 23 = .ok (.astore 6, 2) := by decide +kernel
theorem d_RF_openFault_25 : decode prog_1_method_34_code 25 = .ok (.aload 6, 2) := by decide +kernel
theorem d_RF_openFault_27 : decode prog_1_method_34_code 27 = .ok (.ifnull 32, 3) := by decide +kernel
theorem d_RF_openFault_30 : decode prog_1_method_34_code 30 = .ok (.aload 6, 2) := by decide +kernel
theorem d_RF_openFault_32 : decode prog_1_method_34_code 32 = .ok (.invokevirtual 147, 3) := by decide +kernel
theorem d_RF_openFault_35 : decode prog_1_method_34_code 35 = .ok (.ifCond .eq 24, 3) := by decide +kernel
theorem d_RF_openFault_38 : decode prog_1_method_34_code 38 = .ok (.aload 6, 2) := by decide +kernel
theorem d_RF_openFault_40 : decode prog_1_method_34_code 40 = .ok (.getfield 257, 3) := by decide +kernel
theorem d_RF_openFault_43 : decode prog_1_method_34_code 43 = .ok (.aload_n 1, 1) := by decide +kernel
theorem d_RF_openFault_44 : decode prog_1_method_34_code 44 = .ok (.if_acmp .ne 15, 3) := by decide +kernel
theorem d_RF_openFault_47 : decode prog_1_method_34_code 47 = .ok (.aload 6, 2) := by decide +kernel
theorem d_RF_openFault_49 : decode prog_1_method_34_code 49 = .ok (.getfield 258, 3) := by decide +kernel
theorem d_RF_openFault_52 : decode prog_1_method_34_code 52 = .ok (.iload_n 2, 1) := by decide +kernel
theorem d_RF_openFault_53 : decode prog_1_method_34_code 53 = .ok (.if_icmp .ne 6, 3) := by decide +kernel
theorem d_RF_openFault_56 : decode prog_1_method_34_code 56 = .ok (.aload 6, 2) := by decide +kernel
theorem d_RF_openFault_58 : decode prog_1_method_34_code 58 = .ok (.areturn, 1) := by decide +kernel
theorem d_RF_openFault_59 : decode prog_1_method_34_code 59 = .ok (.iinc 5 1, 3) := by decide +kernel
theorem d_RF_openFault_62 : decode prog_1_method_34_code 62 = .ok (.goto (-50), 3) := by decide +kernel
theorem d_RF_openFault_65 : decode prog_1_method_34_code 65 = .ok (.aconst_null, 1) := by decide +kernel
theorem d_RF_openFault_66 : decode prog_1_method_34_code 66 = .ok (.areturn, 1) := by decide +kernel
theorem d_RF_newFault_0 : decode prog_1_method_35_code 0 = .ok (.aload_n 0, 1) := by decide +kernel
theorem d_RF_newFault_1 : decode prog_1_method_35_code 1 = .ok (.getfield 18, 3) := by decide +kernel
theorem d_RF_newFault_4 : decode prog_1_method_35_code 4 = .ok (.iload_n 2, 1) := by decide +kernel
theorem d_RF_newFault_5 : decode prog_1_method_35_code 5 = .ok (.aaload, 1) := by decide +kernel
theorem d_RF_newFault_6 : decode prog_1_method_35_code 6 = .ok (.astore 4, 2) := by decide +kernel
theorem d_RF_newFault_8 : decode prog_1_method_35_code 8 = .ok (.new 28, 3) := by decide +kernel
theorem d_RF_newFault_11 : decode prog_1_method_35_code 11 = .ok (.dup, 1) := by decide +kernel
theorem d_RF_newFault_12 : decode prog_1_method_35_code 12 = .ok (.aload_n 0, 1) := by decide +kernel
theorem d_RF_newFault_13 : decode prog_1_method_35_code 13 = .ok (.getfield 283, 3) := by decide +kernel
theorem d_RF_newFault_16 : decode prog_1_method_35_code 16 = .ok (.iconst 1, 1) := by decide +kernel
theorem d_RF_newFault_17 : decode prog_1_method_35_code 17 = .ok (.iadd, 1) := by decide +kernel
theorem d_RF_newFault_18 : decode prog_1_method_35_code 18 = .ok (.aload_n 1, 1) := by decide +kernel
theorem d_RF_newFault_19 : decode prog_1_method_35_code 19 = .ok (.iload_n 2, 1) := by decide +kernel
theorem d_RF_newFault_20 : decode prog_1_method_35_code 20 = .ok (.aload_n 0, 1) := by decide +kernel
theorem d_RF_newFault_21 : decode prog_1_method_35_code 21 = .ok (.getfield 158, 3) := by decide +kernel
theorem d_RF_newFault_24 : decode prog_1_method_35_code 24 = .ok (.aload 4, 2) := by decide +kernel
theorem d_RF_newFault_26 : decode prog_1_method_35_code 26 = .ok (.getfield 327, 3) := by decide +kernel
theorem d_RF_newFault_29 : decode prog_1_method_35_code 29 = .ok (.iload_n 3, 1) := by decide +kernel
theorem d_RF_newFault_30 : decode prog_1_method_35_code 30 = .ok (.invokespecial 330, 3) := by decide +kernel
theorem d_RF_newFault_33 : decode prog_1_method_35_code 33 = .ok (.astore 5, 2) := by decide +kernel
theorem d_RF_newFault_35 : decode prog_1_method_35_code 35 = .ok (.aload_n 0, 1) := by decide +kernel
theorem d_RF_newFault_36 : decode prog_1_method_35_code 36 = .ok (.getfield 30, 3) := by decide +kernel
theorem d_RF_newFault_39 : decode prog_1_method_35_code 39 = .ok (.aload_n 0, 1) := by decide +kernel
theorem d_RF_newFault_40 : decode prog_1_method_35_code 40 = .ok (.getfield 283, 3) := by decide +kernel
theorem d_RF_newFault_43 : decode prog_1_method_35_code 43 = .ok (.aload 5, 2) := by decide +kernel
theorem d_RF_newFault_45 : decode prog_1_method_35_code 45 = .ok (.aastore, 1) := by decide +kernel
theorem d_RF_newFault_46 : decode prog_1_method_35_code 46 = .ok (.aload_n 0, 1) := by decide +kernel
theorem d_RF_newFault_47 : decode prog_1_method_35_code 47 = .ok (.dup, 1) := by decide +kernel
theorem d_RF_newFault_48 : decode prog_1_method_35_code 48 = .ok (.getfield 283, 3) := by decide +kernel
theorem d_RF_newFault_51 : decode prog_1_method_35_code 51 = .ok (.iconst 1, 1) := by decide +kernel
theorem d_RF_newFault_52 : decode prog_1_method_35_code 52 = .ok (.iadd, 1) := by decide +kernel
theorem d_RF_newFault_53 : decode prog_1_method_35_code 53 = .ok (.putfield 283, 3) := by decide +kernel
theorem d_RF_newFault_56 : decode prog_1_method_35_code 56 = .ok (.aload 5, 2) := by decide +kernel
theorem d_RF_newFault_58 : decode prog_1_method_35_code 58 = .ok (.aload_n 0, 1) := by decide +kernel
theorem d_RF_newFault_59 : decode prog_1_method_35_code 59 = .ok (.aload 5, 2) := by decide +kernel
theorem d_RF_newFault_61 : decode prog_1_method_35_code 61 = .ok (.aload 4, 2) := by decide +kernel
theorem d_RF_newFault_63 : decode prog_1_method_35_code 63 = .ok (.getfield 333, 3) := by decide +kernel
theorem d_RF_newFault_66 : decode prog_1_method_35_code 66 = .ok (.invokevirtual 334, 3) := by decide +kernel
theorem d_RF_newFault_69 : decode prog_1_method_35_code 69 = .ok (.putfield 262, 3) := by decide +kernel
theorem d_RF_newFault_72 : decode prog_1_method_35_code 72 = .ok (.aload_n 1, 1) := by decide +kernel
theorem d_RF_newFault_73 : decode prog_1_method_35_code 73 = .ok (.iload_n 2, 1) := by decide +kernel
theorem d_RF_newFault_74 : decode prog_1_method_35_code 74 = .ok (.aload_n 0, 1) := by decide +kernel
theorem d_RF_newFault_75 : decode prog_1_method_35_code 75 = .ok (.getfield 158, 3) := by decide +kernel
theorem d_RF_newFault_78 : decode prog_1_method_35_code 78 = .ok (.aload 4, 2) := by decide +kernel
theorem d_RF_newFault_80 : decode prog_1_method_35_code 80 = .ok (.getfield 338, 3) := by decide +kernel
theorem d_RF_newFault_83 : decode prog_1_method_35_code 83 = .ok (.invokevirtual 341, 3) := by decide +kernel
theorem d_RF_newFault_86 : decode prog_1_method_35_code 86 = .ok (.aload 5, 2) := by decide +kernel
theorem d_RF_newFault_88 : decode prog_1_method_35_code 88 = .ok (.getfield 326, 3) := by decide +kernel
theorem d_RF_newFault_91 : decode prog_1_method_35_code 91 = .ok (.ireturn, 1) := by decide +kernel
theorem d_Fault_init_0 : decode prog_3_method_1_code 0 = .ok (.aload_n 0, 1) := by decide +kernel
theorem d_Fault_init_1 : decode prog_3_method_1_code 1 = .ok (.invokespecial 3, 3) := by decide +kernel
theorem d_Fault_init_4 : decode prog_3_method_1_code 4 = .ok (.aload_n 0, 1) := by decide +kernel
theorem d_Fault_init_5 : decode prog_3_method_1_code 5 = .ok (.iconst (-1), 1) := by decide +kernel
theorem d_Fault_init_6 : decode prog_3_method_1_code 6 = .ok (.putfield 9, 3) := by decide +kernel
theorem d_Fault_init_9 : decode prog_3_method_1_code 9 = .ok (.aload_n 0, 1) := by decide +kernel
theorem d_Fault_init_10 : decode prog_3_method_1_code 10 = .ok (.iconst 0, 1) := by decide +kernel
theorem d_Fault_init_11 : decode prog_3_method_1_code 11 = .ok (.putfield 15, 3) := by decide +kernel
theorem d_Fault_init_14 : decode prog_3_method_1_code 14 = .ok (.aload_n 0, 1) := by decide +kernel
theorem d_Fault_init_15 : decode prog_3_method_1_code 15 = .ok (.iconst (-1), 1) := by decide +kernel
theorem d_Fault_init_16 : decode prog_3_method_1_code 16 = .ok (.putfield 18, 3) := by decide +kernel
theorem d_Fault_init_19 : decode prog_3_method_1_code 19 = .ok (.aload_n 0, 1) := by decide +kernel
theorem d_Fault_init_20 : decode prog_3_method_1_code 20 = .ok (.iload_n 1, 1) := by decide +kernel
theorem d_Fault_init_21 : decode prog_3_method_1_code 21 = .ok (.putfield 21, 3) := by decide +kernel
theorem d_Fault_init_24 : decode prog_3_method_1_code 24 = .ok (.aload_n 0, 1) := by decide +kernel
theorem d_Fault_init_25 : decode prog_3_method_1_code 25 = .ok (.aload_n 2, 1) := by decide +kernel
theorem d_Fault_init_26 : decode prog_3_method_1_code 26 = .ok (.putfield 24, 3) := by decide +kernel
theorem d_Fault_init_29 : decode prog_3_method_1_code 29 = .ok (.aload_n 0, 1) := by decide +kernel
theorem d_Fault_init_30 : decode prog_3_method_1_code 30 = .ok (.iload_n 3, 1) := by decide +kernel
theorem d_Fault_init_31 : decode prog_3_method_1_code 31 = .ok (.putfield 28, 3) := by decide +kernel
theorem d_Fault_init_34 : decode prog_3_method_1_code 34 = .ok (.aload_n 0, 1) := by decide +kernel
theorem d_Fault_init_35 : decode prog_3_method_1_code 35 = .ok (.iload 4, 2) := by decide +kernel
theorem d_Fault_init_37 : decode prog_3_method_1_code 37 = .ok (.putfield 31, 3) := by decide +kernel
theorem d_Fault_init_40 : decode prog_3_method_1_code 40 = .ok (.aload_n 0, 1) := by decide +kernel
theorem d_Fault_init_41 : decode prog_3_method_1_code 41 = .ok (.iload 5, 2) := by decide +kernel
theorem d_Fault_init_43 : decode prog_3_method_1_code 43 = .ok (.putfield 34, 3) := by decide +kernel
theorem d_Fault_init_46 : decode prog_3_method_1_code 46 = .ok (.aload_n 0, 1) := by decide +kernel
theorem d_Fault_init_47 : decode prog_3_method_1_code 47 = .ok (.iload 6, 2) := by decide +kernel
theorem d_Fault_init_49 : decode prog_3_method_1_code 49 = .ok (.putfield 37, 3) := by decide +kernel
theorem d_Fault_init_52 : decode prog_3_method_1_code 52 = .ok (.aload_n 0, 1) := by decide +kernel
theorem d_Fault_init_53 : decode prog_3_method_1_code 53 = .ok (.aload_n 2, 1) := by decide +kernel
theorem d_Fault_init_54 : decode prog_3_method_1_code 54 = .ok (.getfield 41, 3) := by decide +kernel
theorem d_Fault_init_57 : decode prog_3_method_1_code 57 = .ok (.putfield 46, 3) := by decide +kernel
theorem d_Fault_init_60 : decode prog_3_method_1_code 60 = .ok (.aload_n 0, 1) := by decide +kernel
theorem d_Fault_init_61 : decode prog_3_method_1_code 61 = .ok (.iload_n 3, 1) := by decide +kernel
theorem d_Fault_init_62 : decode prog_3_method_1_code 62 = .ok (.iconst 2, 1) := by decide +kernel
theorem d_Fault_init_63 : decode prog_3_method_1_code 63 = .ok (.if_icmp .ne 10, 3) := by decide +kernel
theorem d_Fault_init_66 : decode prog_3_method_1_code 66 = .ok (.aload_n 2, 1) := by decide +kernel
theorem d_Fault_init_67 : decode prog_3_method_1_code 67 = .ok (.getfield 47, 3) := by decide +kernel
theorem d_Fault_init_70 : decode prog_3_method_1_code 70 = .ok (.goto 4, 3) := by decide +kernel
theorem d_Fault_init_73 : decode prog_3_method_1_code 73 = .ok (.iconst (-1), 1) := by decide +kernel
theorem d_Fault_init_74 : decode prog_3_method_1_code 74 = .ok (.putfield 50, 3) := by decide +kernel
theorem d_Fault_init_77 : decode prog_3_method_1_code 77 = .ok (.return_, 1) := by decide +kernel
theorem d_RF_alarmFor_0 : decode prog_1_method_36_code 0 = .ok (.aload_n 0, 1) := by decide +kernel
theorem d_RF_alarmFor_1 : decode prog_1_method_36_code 1 = .ok (.aload_n 1, 1) := by decide +kernel
theorem d_RF_alarmFor_2 : decode prog_1_method_36_code 2 = .ok (.getfield 257, 3) := by decide +kernel
theorem d_RF_alarmFor_5 : decode prog_1_method_36_code 5 = .ok (.aload_n 1, 1) := by decide +kernel
theorem d_RF_alarmFor_6 : decode prog_1_method_36_code 6 = .ok (.getfield 258, 3) := by decide +kernel
theorem d_RF_alarmFor_9 : decode prog_1_method_36_code 9 = .ok (.invokevirtual 345, 3) := by decide +kernel
theorem d_RF_alarmFor_12 : decode prog_1_method_36_code 12 = .ok (.astore_n 3, 1) := by decide +kernel
theorem d_RF_alarmFor_13 : decode prog_1_method_36_code 13 = .ok (.aload_n 3, 1) := by decide +kernel
theorem d_RF_alarmFor_14 : decode prog_1_method_36_code 14 = .ok (.ifnull 30, 3) := by decide +kernel
theorem d_RF_alarmFor_17 : decode prog_1_method_36_code 17 = .ok (.aload_n 0, 1) := by decide +kernel
theorem d_RF_alarmFor_18 : decode prog_1_method_36_code 18 = .ok (.getfield 158, 3) := by decide +kernel
theorem d_RF_alarmFor_21 : decode prog_1_method_36_code 21 = .ok (.aload_n 3, 1) := by decide +kernel
theorem d_RF_alarmFor_22 : decode prog_1_method_36_code 22 = .ok (.getfield 248, 3) := by decide +kernel
theorem d_RF_alarmFor_25 : decode prog_1_method_36_code 25 = .ok (.getfield 252, 3) := by decide +kernel
theorem d_RF_alarmFor_28 : decode prog_1_method_36_code 28 = .ok (.isub, 1) := by decide +kernel
theorem d_RF_alarmFor_29 : decode prog_1_method_36_code 29 = .ok (.bipush 60, 2) := by decide +kernel
theorem d_RF_alarmFor_31 : decode prog_1_method_36_code 31 = .ok (.if_icmp .gt 13, 3) := by decide +kernel
theorem d_RF_alarmFor_34 : decode prog_1_method_36_code 34 = .ok (.aload_n 3, 1) := by decide +kernel
theorem d_RF_alarmFor_35 : decode prog_1_method_36_code 35 = .ok (.aload_n 1, 1) := by decide +kernel
theorem d_RF_alarmFor_36 : decode prog_1_method_36_code 36 = .ok (.invokevirtual 349, 3) := by decide +kernel
theorem d_RF_alarmFor_39 : decode prog_1_method_36_code 39 = .ok (.aload_n 3, 1) := by decide +kernel
theorem d_RF_alarmFor_40 : decode prog_1_method_36_code 40 = .ok (.getfield 353, 3) := by decide +kernel
theorem d_RF_alarmFor_43 : decode prog_1_method_36_code 43 = .ok (.ireturn, 1) := by decide +kernel
theorem d_RF_alarmFor_44 : decode prog_1_method_36_code 44 = .ok (.new 34, 3) := by decide +kernel
theorem d_RF_alarmFor_47 : decode prog_1_method_36_code 47 = .ok (.dup, 1) := by decide +kernel
theorem d_RF_alarmFor_48 : decode prog_1_method_36_code 48 = .ok (.aload_n 0, 1) := by decide +kernel
theorem d_RF_alarmFor_49 : decode prog_1_method_36_code 49 = .ok (.getfield 289, 3) := by decide +kernel
theorem d_RF_alarmFor_52 : decode prog_1_method_36_code 52 = .ok (.aload_n 1, 1) := by decide +kernel
theorem d_RF_alarmFor_53 : decode prog_1_method_36_code 53 = .ok (.iload_n 2, 1) := by decide +kernel
theorem d_RF_alarmFor_54 : decode prog_1_method_36_code 54 = .ok (.invokespecial 354, 3) := by decide +kernel
theorem d_RF_alarmFor_57 : decode prog_1_method_36_code 57 = .ok (.astore 4, 2) := by decide +kernel
theorem d_RF_alarmFor_59 : decode prog_1_method_36_code 59 = .ok (.aload_n 0, 1) := by decide +kernel
theorem d_RF_alarmFor_60 : decode prog_1_method_36_code 60 = .ok (.getfield 36, 3) := by decide +kernel
theorem d_RF_alarmFor_63 : decode prog_1_method_36_code 63 = .ok (.aload_n 0, 1) := by decide +kernel
theorem d_RF_alarmFor_64 : decode prog_1_method_36_code 64 = .ok (.getfield 289, 3) := by decide +kernel
theorem d_RF_alarmFor_67 : decode prog_1_method_36_code 67 = .ok (.aload 4, 2) := by decide +kernel
theorem d_RF_alarmFor_69 : decode prog_1_method_36_code 69 = .ok (.aastore, 1) := by decide +kernel
theorem d_RF_alarmFor_70 : decode prog_1_method_36_code 70 = .ok (.aload_n 0, 1) := by decide +kernel
theorem d_RF_alarmFor_71 : decode prog_1_method_36_code 71 = .ok (.dup, 1) := by decide +kernel
theorem d_RF_alarmFor_72 : decode prog_1_method_36_code 72 = .ok (.getfield 289, 3) := by decide +kernel
theorem d_RF_alarmFor_75 : decode prog_1_method_36_code 75 = .ok (.iconst 1, 1) := by decide +kernel
theorem d_RF_alarmFor_76 : decode prog_1_method_36_code 76 = .ok (.iadd, 1) := by decide +kernel
theorem d_RF_alarmFor_77 : decode prog_1_method_36_code 77 = .ok (.putfield 289, 3) := by decide +kernel
theorem d_RF_alarmFor_80 : decode prog_1_method_36_code 80 = .ok (.aload 4, 2) := by decide +kernel
theorem d_RF_alarmFor_82 : decode prog_1_method_36_code 82 = .ok (.getfield 353, 3) := by decide +kernel
theorem d_RF_alarmFor_85 : decode prog_1_method_36_code 85 = .ok (.ireturn, 1) := by decide +kernel
theorem d_RF_latestAlarm_0 : decode prog_1_method_37_code 0 = .ok (.aconst_null, 1) := by decide +kernel
theorem d_RF_latestAlarm_1 : decode prog_1_method_37_code 1 = .ok (.astore_n 3, 1) := by decide +kernel
theorem d_RF_latestAlarm_2 : decode prog_1_method_37_code 2 = .ok (.aload_n 0, 1) := by decide +kernel
theorem d_RF_latestAlarm_3 : decode prog_1_method_37_code 3 = .ok (.getfield 36, 3) := by decide +kernel
theorem d_RF_latestAlarm_6 : decode prog_1_method_37_code 6 = .ok (.astore 4, 2) := by decide +kernel
theorem d_RF_latestAlarm_8 : decode prog_1_method_37_code 8 = .ok (.aload 4, 2) := by decide +kernel
theorem d_RF_latestAlarm_10 : decode prog_1_method_37_code 10 = .ok (.arraylength, 1) := by decide +kernel
theorem d_RF_latestAlarm_11 : decode prog_1_method_37_code 11 = .ok (.istore 5, 2) := by decide +kernel
theorem d_RF_latestAlarm_13 : decode prog_1_method_37_code 13 = .ok (.iconst 0, 1) := by decide +kernel
theorem d_RF_latestAlarm_14 : decode prog_1_method_37_code 14 = .ok (.istore 6, 2) := by decide +kernel
theorem d_RF_latestAlarm_16 : decode prog_1_method_37_code 16 = .ok (.iload 6, 2) := by decide +kernel
theorem d_RF_latestAlarm_18 : decode prog_1_method_37_code 18 = .ok (.iload 5, 2) := by decide +kernel
theorem d_RF_latestAlarm_20 : decode prog_1_method_37_code 20 = .ok (.if_icmp .ge 42, 3) := by decide +kernel
theorem d_RF_latestAlarm_23 : decode prog_1_method_37_code 23 = .ok (.aload 4, 2) := by decide +kernel
theorem d_RF_latestAlarm_25 : decode prog_1_method_37_code 25 = .ok (.iload 6, 2) := by decide +kernel
theorem d_RF_latestAlarm_27 : decode prog_1_method_37_code 27 = .ok (.aaload, 1) := by decide +kernel
theorem d_RF_latestAlarm_28 : decode prog_1_method_37_code 28 = .ok (.astore 7, 2) := by decide +kernel
theorem d_RF_latestAlarm_30 : decode prog_1_method_37_code 30 = .ok (.aload 7, 2) := by decide +kernel
theorem d_RF_latestAlarm_32 : decode prog_1_method_37_code 32 = .ok (.ifnull 24, 3) := by decide +kernel
theorem d_RF_latestAlarm_35 : decode prog_1_method_37_code 35 = .ok (.aload 7, 2) := by decide +kernel
theorem d_RF_latestAlarm_37 : decode prog_1_method_37_code 37 = .ok (.getfield 235, 3) := by decide +kernel
theorem d_RF_latestAlarm_40 : decode prog_1_method_37_code 40 = .ok (.aload_n 1, 1) := by decide +kernel
theorem d_RF_latestAlarm_41 : decode prog_1_method_37_code 41 = .ok (.if_acmp .ne 15, 3) := by decide +kernel
theorem d_RF_latestAlarm_44 : decode prog_1_method_37_code 44 = .ok (.aload 7, 2) := by decide +kernel
theorem d_RF_latestAlarm_46 : decode prog_1_method_37_code 46 = .ok (.getfield 239, 3) := by decide +kernel
theorem d_RF_latestAlarm_49 : decode prog_1_method_37_code 49 = .ok (.iload_n 2, 1) := by decide +kernel
theorem d_RF_latestAlarm_50 : decode prog_1_method_37_code 50 = .ok (.if_icmp .ne 6, 3) := by decide +kernel
theorem d_RF_latestAlarm_53 : decode prog_1_method_37_code 53 = .ok (.aload 7, 2) := by decide +kernel
theorem d_RF_latestAlarm_55 : decode prog_1_method_37_code 55 = .ok (.astore_n 3, 1) := by decide +kernel
theorem d_RF_latestAlarm_56 : decode prog_1_method_37_code 56 = .ok (.iinc 6 1, 3) := by decide +kernel
theorem d_RF_latestAlarm_59 : decode prog_1_method_37_code 59 = .ok (.goto (-43), 3) := by decide +kernel
theorem d_RF_latestAlarm_62 : decode prog_1_method_37_code 62 = .ok (.aload_n 3, 1) := by decide +kernel
theorem d_RF_latestAlarm_63 : decode prog_1_method_37_code 63 = .ok (.areturn, 1) := by decide +kernel
theorem d_Alarm_join_0 : decode prog_2_method_3_code 0 = .ok (.aload_n 0, 1) := by decide +kernel
theorem d_Alarm_join_1 : decode prog_2_method_3_code 1 = .ok (.aload_n 1, 1) := by decide +kernel
theorem d_Alarm_join_2 : decode prog_2_method_3_code 2 = .ok (.putfield 38, 3) := by decide +kernel
theorem d_Alarm_join_5 : decode prog_2_method_3_code 5 = .ok (.aload_n 0, 1) := by decide +kernel
theorem d_Alarm_join_6 : decode prog_2_method_3_code 6 = .ok (.dup, 1) := by decide +kernel
theorem d_Alarm_join_7 : decode prog_2_method_3_code 7 = .ok (.getfield 15, 3) := by decide +kernel
theorem d_Alarm_join_10 : decode prog_2_method_3_code 10 = .ok (.iconst 1, 1) := by decide +kernel
theorem d_Alarm_join_11 : decode prog_2_method_3_code 11 = .ok (.iadd, 1) := by decide +kernel
theorem d_Alarm_join_12 : decode prog_2_method_3_code 12 = .ok (.putfield 15, 3) := by decide +kernel
theorem d_Alarm_join_15 : decode prog_2_method_3_code 15 = .ok (.aload_n 0, 1) := by decide +kernel
theorem d_Alarm_join_16 : decode prog_2_method_3_code 16 = .ok (.iconst (-1), 1) := by decide +kernel
theorem d_Alarm_join_17 : decode prog_2_method_3_code 17 = .ok (.putfield 18, 3) := by decide +kernel
theorem d_Alarm_join_20 : decode prog_2_method_3_code 20 = .ok (.return_, 1) := by decide +kernel
theorem d_Alarm_init_0 : decode prog_2_method_1_code 0 = .ok (.aload_n 0, 1) := by decide +kernel
theorem d_Alarm_init_1 : decode prog_2_method_1_code 1 = .ok (.invokespecial 3, 3) := by decide +kernel
theorem d_Alarm_init_4 : decode prog_2_method_1_code 4 = .ok (.aload_n 0, 1) := by decide +kernel
theorem d_Alarm_init_5 : decode prog_2_method_1_code 5 = .ok (.iconst 0, 1) := by decide +kernel
theorem d_Alarm_init_6 : decode prog_2_method_1_code 6 = .ok (.putfield 9, 3) := by decide +kernel
theorem d_Alarm_init_9 : decode prog_2_method_1_code 9 = .ok (.aload_n 0, 1) := by decide +kernel
theorem d_Alarm_init_10 : decode prog_2_method_1_code 10 = .ok (.iconst 1, 1) := by decide +kernel
theorem d_Alarm_init_11 : decode prog_2_method_1_code 11 = .ok (.putfield 15, 3) := by decide +kernel
theorem d_Alarm_init_14 : decode prog_2_method_1_code 14 = .ok (.aload_n 0, 1) := by decide +kernel
theorem d_Alarm_init_15 : decode prog_2_method_1_code 15 = .ok (.iconst (-1), 1) := by decide +kernel
theorem d_Alarm_init_16 : decode prog_2_method_1_code 16 = .ok (.putfield 18, 3) := by decide +kernel
theorem d_Alarm_init_19 : decode prog_2_method_1_code 19 = .ok (.aload_n 0, 1) := by decide +kernel
theorem d_Alarm_init_20 : decode prog_2_method_1_code 20 = .ok (.iload_n 1, 1) := by decide +kernel
theorem d_Alarm_init_21 : decode prog_2_method_1_code 21 = .ok (.putfield 21, 3) := by decide +kernel
theorem d_Alarm_init_24 : decode prog_2_method_1_code 24 = .ok (.aload_n 0, 1) := by decide +kernel
theorem d_Alarm_init_25 : decode prog_2_method_1_code 25 = .ok (.aload_n 2, 1) := by decide +kernel
theorem d_Alarm_init_26 : decode prog_2_method_1_code 26 = .ok (.getfield 24, 3) := by decide +kernel
theorem d_Alarm_init_29 : decode prog_2_method_1_code 29 = .ok (.putfield 30, 3) := by decide +kernel
theorem d_Alarm_init_32 : decode prog_2_method_1_code 32 = .ok (.aload_n 0, 1) := by decide +kernel
theorem d_Alarm_init_33 : decode prog_2_method_1_code 33 = .ok (.aload_n 2, 1) := by decide +kernel
theorem d_Alarm_init_34 : decode prog_2_method_1_code 34 = .ok (.getfield 31, 3) := by decide +kernel
theorem d_Alarm_init_37 : decode prog_2_method_1_code 37 = .ok (.putfield 34, 3) := by decide +kernel
theorem d_Alarm_init_40 : decode prog_2_method_1_code 40 = .ok (.aload_n 0, 1) := by decide +kernel
theorem d_Alarm_init_41 : decode prog_2_method_1_code 41 = .ok (.iload_n 3, 1) := by decide +kernel
theorem d_Alarm_init_42 : decode prog_2_method_1_code 42 = .ok (.putfield 35, 3) := by decide +kernel
theorem d_Alarm_init_45 : decode prog_2_method_1_code 45 = .ok (.aload_n 0, 1) := by decide +kernel
theorem d_Alarm_init_46 : decode prog_2_method_1_code 46 = .ok (.aload_n 2, 1) := by decide +kernel
end
section
/-! decode rows: printed by wip/gen/names.py -/
theorem d_Alarm_init_47 : decode prog_2_method_1_code 47 = .ok (.putfield 38, 3) := by decide +kernel
theorem d_Alarm_init_50 : decode prog_2_method_1_code 50 = .ok (.return_, 1) := by decide +kernel
theorem d_Robot_suffer_0 : decode prog_5_method_2_code 0 = .ok (.iload_n 1, 1) := by decide +kernel
theorem d_Robot_suffer_1 : decode prog_5_method_2_code 1 = .ok (.iconst 1, 1) := by decide +kernel
theorem d_Robot_suffer_2 : decode prog_5_method_2_code 2 = .ok (.if_icmp .ne 16, 3) := by decide +kernel
theorem d_Robot_suffer_5 : decode prog_5_method_2_code 5 = .ok (.aload_n 0, 1) := by decide +kernel
theorem d_Robot_suffer_6 : decode prog_5_method_2_code 6 = .ok (.iconst 2, 1) := by decide +kernel
theorem d_Robot_suffer_7 : decode prog_5_method_2_code 7 = .ok (.putfield 9, 3) := by decide +kernel
theorem d_Robot_suffer_10 : decode prog_5_method_2_code 10 = .ok (.aload_n 0, 1) := by decide +kernel
theorem d_Robot_suffer_11 : decode prog_5_method_2_code 11 = .ok (.iload_n 2, 1) := by decide +kernel
theorem d_Robot_suffer_12 : decode prog_5_method_2_code 12 = .ok (.putfield 22, 3) := by decide +kernel
theorem d_Robot_suffer_15 : decode prog_5_method_2_code 15 = .ok (.goto 15, 3) := by decide +kernel
theorem d_Robot_suffer_18 : decode prog_5_method_2_code 18 = .ok (.aload_n 0, 1) := by decide +kernel
theorem d_Robot_suffer_19 : decode prog_5_method_2_code 19 = .ok (.getfield 9, 3) := by decide +kernel
theorem d_Robot_suffer_22 : decode prog_5_method_2_code 22 = .ok (.ifCond .ne 8, 3) := by decide +kernel
theorem d_Robot_suffer_25 : decode prog_5_method_2_code 25 = .ok (.aload_n 0, 1) := by decide +kernel
theorem d_Robot_suffer_26 : decode prog_5_method_2_code 26 = .ok (.iconst 1, 1) := by decide +kernel
theorem d_Robot_suffer_27 : decode prog_5_method_2_code 27 = .ok (.putfield 9, 3) := by decide +kernel
theorem d_Robot_suffer_30 : decode prog_5_method_2_code 30 = .ok (.iload_n 1, 1) := by decide +kernel
theorem d_Robot_suffer_31 : decode prog_5_method_2_code 31 = .ok (.iconst 2, 1) := by decide +kernel
theorem d_Robot_suffer_32 : decode prog_5_method_2_code 32 = .ok (.if_icmp .ne 8, 3) := by decide +kernel
theorem d_Robot_suffer_35 : decode prog_5_method_2_code 35 = .ok (.aload_n 0, 1) := by decide +kernel
theorem d_Robot_suffer_36 : decode prog_5_method_2_code 36 = .ok (.iconst (-1), 1) := by decide +kernel
theorem d_Robot_suffer_37 : decode prog_5_method_2_code 37 = .ok (.putfield 15, 3) := by decide +kernel
theorem d_Robot_suffer_40 : decode prog_5_method_2_code 40 = .ok (.iload_n 3, 1) := by decide +kernel
theorem d_Robot_suffer_41 : decode prog_5_method_2_code 41 = .ok (.ifCond .eq 8, 3) := by decide +kernel
theorem d_Robot_suffer_44 : decode prog_5_method_2_code 44 = .ok (.aload_n 0, 1) := by decide +kernel
theorem d_Robot_suffer_45 : decode prog_5_method_2_code 45 = .ok (.iconst 1, 1) := by decide +kernel
theorem d_Robot_suffer_46 : decode prog_5_method_2_code 46 = .ok (.putfield 18, 3) := by decide +kernel
theorem d_Robot_suffer_49 : decode prog_5_method_2_code 49 = .ok (.return_, 1) := by decide +kernel
theorem d_Law_step_0 : decode method_10_code 0 = .ok (.aload_n 3, 1) := by decide +kernel
theorem d_Law_step_1 : decode method_10_code 1 = .ok (.iconst 0, 1) := by decide +kernel
theorem d_Law_step_2 : decode method_10_code 2 = .ok (.aload_n 0, 1) := by decide +kernel
theorem d_Law_step_3 : decode method_10_code 3 = .ok (.iload_n 1, 1) := by decide +kernel
theorem d_Law_step_4 : decode method_10_code 4 = .ok (.iload_n 2, 1) := by decide +kernel
theorem d_Law_step_5 : decode method_10_code 5 = .ok (.invokevirtual 43, 3) := by decide +kernel
theorem d_Law_step_8 : decode method_10_code 8 = .ok (.i2l, 1) := by decide +kernel
theorem d_Law_step_9 : decode method_10_code 9 = .ok (.lastore, 1) := by decide +kernel
theorem d_Law_step_10 : decode method_10_code 10 = .ok (.goto 15, 3) := by decide +kernel
theorem d_Law_step_13 : decode method_10_code 13 = .ok (.astore 4, 2) := by decide +kernel
theorem d_Law_step_15 : decode method_10_code 15 = .ok (.iconst 1, 1) := by decide +kernel
theorem d_Law_step_16 : decode method_10_code 16 = .ok (.ireturn, 1) := by decide +kernel
theorem d_Law_step_17 : decode method_10_code 17 = .ok (.astore 4, 2) := by decide +kernel
theorem d_Law_step_19 : decode method_10_code 19 = .ok (.iconst 2, 1) := by decide +kernel
theorem d_Law_step_20 : decode method_10_code 20 = .ok (.ireturn, 1) := by decide +kernel
theorem d_Law_step_21 : decode method_10_code 21 = .ok (.astore 4, 2) := by decide +kernel
theorem d_Law_step_23 : decode method_10_code 23 = .ok (.iconst 3, 1) := by decide +kernel
theorem d_Law_step_24 : decode method_10_code 24 = .ok (.ireturn, 1) := by decide +kernel
theorem d_Law_step_25 : decode method_10_code 25 = .ok (.iconst 0, 1) := by decide +kernel
theorem d_Law_step_26 : decode method_10_code 26 = .ok (.ireturn, 1) := by decide +kernel
theorem d_RF_step_0 : decode prog_1_method_9_code 0 = .ok (.aload_n 0, 1) := by decide +kernel
theorem d_RF_step_1 : decode prog_1_method_9_code 1 = .ok (.iload_n 1, 1) := by decide +kernel
theorem d_RF_step_2 : decode prog_1_method_9_code 2 = .ok (.invokevirtual 140, 3) := by decide +kernel
theorem d_RF_step_5 : decode prog_1_method_9_code 5 = .ok (.astore_n 3, 1) := by decide +kernel
theorem d_RF_step_6 : decode prog_1_method_9_code 6 = .ok (.iload_n 2, 1) := by decide +kernel
theorem d_RF_step_7 : decode prog_1_method_9_code 7 = .ok (.invokestatic 144, 3) := by decide +kernel
theorem d_RF_step_10 : decode prog_1_method_9_code 10 = .ok (.aload_n 3, 1) := by decide +kernel
theorem d_RF_step_11 : decode prog_1_method_9_code 11 = .ok (.invokevirtual 147, 3) := by decide +kernel
theorem d_RF_step_14 : decode prog_1_method_9_code 14 = .ok (.ifCond .ne 13, 3) := by decide +kernel
theorem d_RF_step_17 : decode prog_1_method_9_code 17 = .ok (.new 104, 3) := by decide +kernel
theorem d_RF_step_20 : decode prog_1_method_9_code 20 = .ok (.dup, 1) := by decide +kernel
theorem d_RF_step_21 : decode prog_1_method_9_code 21 = .ok (.ldc 150, 2) := by decide +kernel
theorem d_RF_step_23 : decode prog_1_method_9_code 23 = .ok (.invokespecial 108, 3) := by decide +kernel
theorem d_RF_step_26 : decode prog_1_method_9_code 26 = .ok (.athrow, 1) := by decide +kernel
theorem d_RF_step_27 : decode prog_1_method_9_code 27 = .ok (.aload_n 3, 1) := by decide +kernel
theorem d_RF_step_28 : decode prog_1_method_9_code 28 = .ok (.getfield 152, 3) := by decide +kernel
theorem d_RF_step_31 : decode prog_1_method_9_code 31 = .ok (.iload_n 2, 1) := by decide +kernel
theorem d_RF_step_32 : decode prog_1_method_9_code 32 = .ok (.invokestatic 155, 3) := by decide +kernel
theorem d_RF_step_35 : decode prog_1_method_9_code 35 = .ok (.ifCond .eq 5, 3) := by decide +kernel
theorem d_RF_step_38 : decode prog_1_method_9_code 38 = .ok (.iconst 2, 1) := by decide +kernel
theorem d_RF_step_39 : decode prog_1_method_9_code 39 = .ok (.ireturn, 1) := by decide +kernel
theorem d_RF_step_40 : decode prog_1_method_9_code 40 = .ok (.aload_n 3, 1) := by decide +kernel
theorem d_RF_step_41 : decode prog_1_method_9_code 41 = .ok (.iload_n 2, 1) := by decide +kernel
theorem d_RF_step_42 : decode prog_1_method_9_code 42 = .ok (.aload_n 0, 1) := by decide +kernel
theorem d_RF_step_43 : decode prog_1_method_9_code 43 = .ok (.getfield 158, 3) := by decide +kernel
theorem d_RF_step_46 : decode prog_1_method_9_code 46 = .ok (.invokevirtual 161, 3) := by decide +kernel
theorem d_RF_step_49 : decode prog_1_method_9_code 49 = .ok (.aload_n 3, 1) := by decide +kernel
theorem d_RF_step_50 : decode prog_1_method_9_code 50 = .ok (.invokevirtual 147, 3) := by decide +kernel
theorem d_RF_step_53 : decode prog_1_method_9_code 53 = .ok (.ifCond .eq 7, 3) := by decide +kernel
theorem d_RF_step_56 : decode prog_1_method_9_code 56 = .ok (.iconst 0, 1) := by decide +kernel
theorem d_RF_step_57 : decode prog_1_method_9_code 57 = .ok (.goto 4, 3) := by decide +kernel
theorem d_RF_step_60 : decode prog_1_method_9_code 60 = .ok (.iconst 1, 1) := by decide +kernel
theorem d_RF_step_61 : decode prog_1_method_9_code 61 = .ok (.ireturn, 1) := by decide +kernel
theorem d_RF_faultAt_0 : decode prog_1_method_25_code 0 = .ok (.iload_n 1, 1) := by decide +kernel
theorem d_RF_faultAt_1 : decode prog_1_method_25_code 1 = .ok (.iconst 1, 1) := by decide +kernel
theorem d_RF_faultAt_2 : decode prog_1_method_25_code 2 = .ok (.if_icmp .lt 23, 3) := by decide +kernel
theorem d_RF_faultAt_5 : decode prog_1_method_25_code 5 = .ok (.iload_n 1, 1) := by decide +kernel
theorem d_RF_faultAt_6 : decode prog_1_method_25_code 6 = .ok (.aload_n 0, 1) := by decide +kernel
theorem d_RF_faultAt_7 : decode prog_1_method_25_code 7 = .ok (.getfield 30, 3) := by decide +kernel
theorem d_RF_faultAt_10 : decode prog_1_method_25_code 10 = .ok (.arraylength, 1) := by decide +kernel
theorem d_RF_faultAt_11 : decode prog_1_method_25_code 11 = .ok (.if_icmp .gt 14, 3) := by decide +kernel
theorem d_RF_faultAt_14 : decode prog_1_method_25_code 14 = .ok (.aload_n 0, 1) := by decide +kernel
theorem d_RF_faultAt_15 : decode prog_1_method_25_code 15 = .ok (.getfield 30, 3) := by decide +kernel
theorem d_RF_faultAt_18 : decode prog_1_method_25_code 18 = .ok (.iload_n 1, 1) := by decide +kernel
theorem d_RF_faultAt_19 : decode prog_1_method_25_code 19 = .ok (.iconst 1, 1) := by decide +kernel
theorem d_RF_faultAt_20 : decode prog_1_method_25_code 20 = .ok (.isub, 1) := by decide +kernel
theorem d_RF_faultAt_21 : decode prog_1_method_25_code 21 = .ok (.aaload, 1) := by decide +kernel
theorem d_RF_faultAt_22 : decode prog_1_method_25_code 22 = .ok (.goto 4, 3) := by decide +kernel
theorem d_RF_faultAt_25 : decode prog_1_method_25_code 25 = .ok (.aconst_null, 1) := by decide +kernel
theorem d_RF_faultAt_26 : decode prog_1_method_25_code 26 = .ok (.astore_n 2, 1) := by decide +kernel
theorem d_RF_faultAt_27 : decode prog_1_method_25_code 27 = .ok (.aload_n 2, 1) := by decide +kernel
theorem d_RF_faultAt_28 : decode prog_1_method_25_code 28 = .ok (.ifnonnull 14, 3) := by decide +kernel
theorem d_RF_faultAt_31 : decode prog_1_method_25_code 31 = .ok (.new 302, 3) := by decide +kernel
theorem d_RF_faultAt_34 : decode prog_1_method_25_code 34 = .ok (.dup, 1) := by decide +kernel
theorem d_RF_faultAt_35 : decode prog_1_method_25_code 35 = .ok (.ldc_w 309, 3) := by decide +kernel
theorem d_RF_faultAt_38 : decode prog_1_method_25_code 38 = .ok (.invokespecial 306, 3) := by decide +kernel
theorem d_RF_faultAt_41 : decode prog_1_method_25_code 41 = .ok (.athrow, 1) := by decide +kernel
theorem d_RF_faultAt_42 : decode prog_1_method_25_code 42 = .ok (.aload_n 2, 1) := by decide +kernel
theorem d_RF_faultAt_43 : decode prog_1_method_25_code 43 = .ok (.areturn, 1) := by decide +kernel
theorem d_RF_needPerson_0 : decode prog_1_method_28_code 0 = .ok (.iload_n 0, 1) := by decide +kernel
theorem d_RF_needPerson_1 : decode prog_1_method_28_code 1 = .ok (.ifCond .lt 9, 3) := by decide +kernel
theorem d_RF_needPerson_4 : decode prog_1_method_28_code 4 = .ok (.iload_n 0, 1) := by decide +kernel
theorem d_RF_needPerson_5 : decode prog_1_method_28_code 5 = .ok (.bipush 8, 2) := by decide +kernel
theorem d_RF_needPerson_7 : decode prog_1_method_28_code 7 = .ok (.if_icmp .lt 14, 3) := by decide +kernel
theorem d_RF_needPerson_10 : decode prog_1_method_28_code 10 = .ok (.new 66, 3) := by decide +kernel
theorem d_RF_needPerson_13 : decode prog_1_method_28_code 13 = .ok (.dup, 1) := by decide +kernel
theorem d_RF_needPerson_14 : decode prog_1_method_28_code 14 = .ok (.ldc_w 315, 3) := by decide +kernel
theorem d_RF_needPerson_17 : decode prog_1_method_28_code 17 = .ok (.invokespecial 70, 3) := by decide +kernel
theorem d_RF_needPerson_20 : decode prog_1_method_28_code 20 = .ok (.athrow, 1) := by decide +kernel
theorem d_RF_needPerson_21 : decode prog_1_method_28_code 21 = .ok (.return_, 1) := by decide +kernel
theorem d_Fault_addStep_0 : decode prog_3_method_3_code 0 = .ok (.aload_n 0, 1) := by decide +kernel
theorem d_Fault_addStep_1 : decode prog_3_method_3_code 1 = .ok (.dup, 1) := by decide +kernel
theorem d_Fault_addStep_2 : decode prog_3_method_3_code 2 = .ok (.getfield 15, 3) := by decide +kernel
theorem d_Fault_addStep_5 : decode prog_3_method_3_code 5 = .ok (.iconst 1, 1) := by decide +kernel
theorem d_Fault_addStep_6 : decode prog_3_method_3_code 6 = .ok (.iload_n 1, 1) := by decide +kernel
theorem d_Fault_addStep_7 : decode prog_3_method_3_code 7 = .ok (.ishl, 1) := by decide +kernel
theorem d_Fault_addStep_8 : decode prog_3_method_3_code 8 = .ok (.ior, 1) := by decide +kernel
theorem d_Fault_addStep_9 : decode prog_3_method_3_code 9 = .ok (.putfield 15, 3) := by decide +kernel
theorem d_Fault_addStep_12 : decode prog_3_method_3_code 12 = .ok (.aload_n 0, 1) := by decide +kernel
theorem d_Fault_addStep_13 : decode prog_3_method_3_code 13 = .ok (.getfield 15, 3) := by decide +kernel
theorem d_Fault_addStep_16 : decode prog_3_method_3_code 16 = .ok (.invokestatic 53, 3) := by decide +kernel
theorem d_Fault_addStep_19 : decode prog_3_method_3_code 19 = .ok (.aload_n 0, 1) := by decide +kernel
theorem d_Fault_addStep_20 : decode prog_3_method_3_code 20 = .ok (.getfield 34, 3) := by decide +kernel
theorem d_Fault_addStep_23 : decode prog_3_method_3_code 23 = .ok (.if_icmp .lt 8, 3) := by decide +kernel
theorem d_Fault_addStep_26 : decode prog_3_method_3_code 26 = .ok (.aload_n 0, 1) := by decide +kernel
theorem d_Fault_addStep_27 : decode prog_3_method_3_code 27 = .ok (.iload_n 2, 1) := by decide +kernel
theorem d_Fault_addStep_28 : decode prog_3_method_3_code 28 = .ok (.putfield 18, 3) := by decide +kernel
theorem d_Fault_addStep_31 : decode prog_3_method_3_code 31 = .ok (.return_, 1) := by decide +kernel
theorem d_Integer_bitCount_0 : decode prog_13_method_49_code 0 = .ok (.iload_n 0, 1) := by decide +kernel
theorem d_Integer_bitCount_1 : decode prog_13_method_49_code 1 = .ok (.iload_n 0, 1) := by decide +kernel
theorem d_Integer_bitCount_2 : decode prog_13_method_49_code 2 = .ok (.iconst 1, 1) := by decide +kernel
theorem d_Integer_bitCount_3 : decode prog_13_method_49_code 3 = .ok (.iushr, 1) := by decide +kernel
theorem d_Integer_bitCount_4 : decode prog_13_method_49_code 4 = .ok (.ldc_w 265, 3) := by decide +kernel
theorem d_Integer_bitCount_7 : decode prog_13_method_49_code 7 = .ok (.iand, 1) := by decide +kernel
theorem d_Integer_bitCount_8 : decode prog_13_method_49_code 8 = .ok (.isub, 1) := by decide +kernel
theorem d_Integer_bitCount_9 : decode prog_13_method_49_code 9 = .ok (.istore_n 0, 1) := by decide +kernel
theorem d_Integer_bitCount_10 : decode prog_13_method_49_code 10 = .ok (.iload_n 0, 1) := by decide +kernel
theorem d_Integer_bitCount_11 : decode prog_13_method_49_code 11 = .ok (.ldc_w 266, 3) := by decide +kernel
theorem d_Integer_bitCount_14 : decode prog_13_method_49_code 14 = .ok (.iand, 1) := by decide +kernel
theorem d_Integer_bitCount_15 : decode prog_13_method_49_code 15 = .ok (.iload_n 0, 1) := by decide +kernel
theorem d_Integer_bitCount_16 : decode prog_13_method_49_code 16 = .ok (.iconst 2, 1) := by decide +kernel
theorem d_Integer_bitCount_17 : decode prog_13_method_49_code 17 = .ok (.iushr, 1) := by decide +kernel
theorem d_Integer_bitCount_18 : decode prog_13_method_49_code 18 = .ok (.ldc_w 266, 3) := by decide +kernel
theorem d_Integer_bitCount_21 : decode prog_13_method_49_code 21 = .ok (.iand, 1) := by decide +kernel
theorem d_Integer_bitCount_22 : decode prog_13_method_49_code 22 = .ok (.iadd, 1) := by decide +kernel
theorem d_Integer_bitCount_23 : decode prog_13_method_49_code 23 = .ok (.istore_n 0, 1) := by decide +kernel
theorem d_Integer_bitCount_24 : decode prog_13_method_49_code 24 = .ok (.iload_n 0, 1) := by decide +kernel
theorem d_Integer_bitCount_25 : decode prog_13_method_49_code 25 = .ok (.iload_n 0, 1) := by decide +kernel
theorem d_Integer_bitCount_26 : decode prog_13_method_49_code 26 = .ok (.iconst 4, 1) := by decide +kernel
theorem d_Integer_bitCount_27 : decode prog_13_method_49_code 27 = .ok (.iushr, 1) := by decide +kernel
theorem d_Integer_bitCount_28 : decode prog_13_method_49_code 28 = .ok (.iadd, 1) := by decide +kernel
theorem d_Integer_bitCount_29 : decode prog_13_method_49_code 29 = .ok (.ldc_w 267, 3) := by decide +kernel
theorem d_Integer_bitCount_32 : decode prog_13_method_49_code 32 = .ok (.iand, 1) := by decide +kernel
theorem d_Integer_bitCount_33 : decode prog_13_method_49_code 33 = .ok (.istore_n 0, 1) := by decide +kernel
theorem d_Integer_bitCount_34 : decode prog_13_method_49_code 34 = .ok (.iload_n 0, 1) := by decide +kernel
theorem d_Integer_bitCount_35 : decode prog_13_method_49_code 35 = .ok (.iload_n 0, 1) := by decide +kernel
theorem d_Integer_bitCount_36 : decode prog_13_method_49_code 36 = .ok (.bipush 8, 2) := by decide +kernel
theorem d_Integer_bitCount_38 : decode prog_13_method_49_code 38 = .ok (.iushr, 1) := by decide +kernel
theorem d_Integer_bitCount_39 : decode prog_13_method_49_code 39 = .ok (.iadd, 1) := by decide +kernel
theorem d_Integer_bitCount_40 : decode prog_13_method_49_code 40 = .ok (.istore_n 0, 1) := by decide +kernel
theorem d_Integer_bitCount_41 : decode prog_13_method_49_code 41 = .ok (.iload_n 0, 1) := by decide +kernel
theorem d_Integer_bitCount_42 : decode prog_13_method_49_code 42 = .ok (.iload_n 0, 1) := by decide +kernel
theorem d_Integer_bitCount_43 : decode prog_13_method_49_code 43 = .ok (.bipush 16, 2) := by decide +kernel
theorem d_Integer_bitCount_45 : decode prog_13_method_49_code 45 = .ok (.iushr, 1) := by decide +kernel
theorem d_Integer_bitCount_46 : decode prog_13_method_49_code 46 = .ok (.iadd, 1) := by decide +kernel
theorem d_Integer_bitCount_47 : decode prog_13_method_49_code 47 = .ok (.istore_n 0, 1) := by decide +kernel
theorem d_Integer_bitCount_48 : decode prog_13_method_49_code 48 = .ok (.iload_n 0, 1) := by decide +kernel
theorem d_Integer_bitCount_49 : decode prog_13_method_49_code 49 = .ok (.bipush 63, 2) := by decide +kernel
theorem d_Integer_bitCount_51 : decode prog_13_method_49_code 51 = .ok (.iand, 1) := by decide +kernel
theorem d_Integer_bitCount_52 : decode prog_13_method_49_code 52 = .ok (.ireturn, 1) := by decide +kernel
theorem d_Law_test_0 : decode method_11_code 0 = .ok (.aload_n 3, 1) := by decide +kernel
theorem d_Law_test_1 : decode method_11_code 1 = .ok (.iconst 0, 1) := by decide +kernel
theorem d_Law_test_2 : decode method_11_code 2 = .ok (.aload_n 0, 1) := by decide +kernel
theorem d_Law_test_3 : decode method_11_code 3 = .ok (.iload_n 1, 1) := by decide +kernel
theorem d_Law_test_4 : decode method_11_code 4 = .ok (.iload_n 2, 1) := by decide +kernel
theorem d_Law_test_5 : decode method_11_code 5 = .ok (.invokevirtual 46, 3) := by decide +kernel
theorem d_Law_test_8 : decode method_11_code 8 = .ok (.ifCond .eq 7, 3) := by decide +kernel
theorem d_Law_test_11 : decode method_11_code 11 = .ok (.lconst 1, 1) := by decide +kernel
theorem d_Law_test_12 : decode method_11_code 12 = .ok (.goto 4, 3) := by decide +kernel
theorem d_Law_test_15 : decode method_11_code 15 = .ok (.lconst 0, 1) := by decide +kernel
theorem d_Law_test_16 : decode method_11_code 16 = .ok (.lastore, 1) := by decide +kernel
theorem d_Law_test_17 : decode method_11_code 17 = .ok (.goto 11, 3) := by decide +kernel
theorem d_Law_test_20 : decode method_11_code 20 = .ok (.astore 4, 2) := by decide +kernel
theorem d_Law_test_22 : decode method_11_code 22 = .ok (.iconst 1, 1) := by decide +kernel
theorem d_Law_test_23 : decode method_11_code 23 = .ok (.ireturn, 1) := by decide +kernel
theorem d_Law_test_24 : decode method_11_code 24 = .ok (.astore 4, 2) := by decide +kernel
theorem d_Law_test_26 : decode method_11_code 26 = .ok (.iconst 2, 1) := by decide +kernel
theorem d_Law_test_27 : decode method_11_code 27 = .ok (.ireturn, 1) := by decide +kernel
theorem d_Law_test_28 : decode method_11_code 28 = .ok (.iconst 0, 1) := by decide +kernel
theorem d_Law_test_29 : decode method_11_code 29 = .ok (.ireturn, 1) := by decide +kernel
theorem d_RF_test_0 : decode prog_1_method_10_code 0 = .ok (.aload_n 0, 1) := by decide +kernel
theorem d_RF_test_1 : decode prog_1_method_10_code 1 = .ok (.iload_n 1, 1) := by decide +kernel
theorem d_RF_test_2 : decode prog_1_method_10_code 2 = .ok (.invokevirtual 97, 3) := by decide +kernel
theorem d_RF_test_5 : decode prog_1_method_10_code 5 = .ok (.astore_n 3, 1) := by decide +kernel
theorem d_RF_test_6 : decode prog_1_method_10_code 6 = .ok (.aload_n 3, 1) := by decide +kernel
theorem d_RF_test_7 : decode prog_1_method_10_code 7 = .ok (.getfield 101, 3) := by decide +kernel
theorem d_RF_test_10 : decode prog_1_method_10_code 10 = .ok (.ifCond .eq 11, 3) := by decide +kernel
theorem d_RF_test_13 : decode prog_1_method_10_code 13 = .ok (.aload_n 3, 1) := by decide +kernel
theorem d_RF_test_14 : decode prog_1_method_10_code 14 = .ok (.getfield 101, 3) := by decide +kernel
theorem d_RF_test_17 : decode prog_1_method_10_code 17 = .ok (.iconst 2, 1) := by decide +kernel
theorem d_RF_test_18 : decode prog_1_method_10_code 18 = .ok (.if_icmp .ne 13, 3) := by decide +kernel
theorem d_RF_test_21 : decode prog_1_method_10_code 21 = .ok (.new 104, 3) := by decide +kernel
theorem d_RF_test_24 : decode prog_1_method_10_code 24 = .ok (.dup, 1) := by decide +kernel
theorem d_RF_test_25 : decode prog_1_method_10_code 25 = .ok (.ldc 164, 2) := by decide +kernel
theorem d_RF_test_27 : decode prog_1_method_10_code 27 = .ok (.invokespecial 108, 3) := by decide +kernel
theorem d_RF_test_30 : decode prog_1_method_10_code 30 = .ok (.athrow, 1) := by decide +kernel
theorem d_RF_test_31 : decode prog_1_method_10_code 31 = .ok (.aload_n 0, 1) := by decide +kernel
theorem d_RF_test_32 : decode prog_1_method_10_code 32 = .ok (.aload_n 3, 1) := by decide +kernel
theorem d_RF_test_33 : decode prog_1_method_10_code 33 = .ok (.invokevirtual 166, 3) := by decide +kernel
theorem d_RF_test_36 : decode prog_1_method_10_code 36 = .ok (.ifCond .eq 13, 3) := by decide +kernel
theorem d_RF_test_39 : decode prog_1_method_10_code 39 = .ok (.new 104, 3) := by decide +kernel
theorem d_RF_test_42 : decode prog_1_method_10_code 42 = .ok (.dup, 1) := by decide +kernel
theorem d_RF_test_43 : decode prog_1_method_10_code 43 = .ok (.ldc 170, 2) := by decide +kernel
theorem d_RF_test_45 : decode prog_1_method_10_code 45 = .ok (.invokespecial 108, 3) := by decide +kernel
theorem d_RF_test_48 : decode prog_1_method_10_code 48 = .ok (.athrow, 1) := by decide +kernel
theorem d_RF_test_49 : decode prog_1_method_10_code 49 = .ok (.aload_n 3, 1) := by decide +kernel
theorem d_RF_test_50 : decode prog_1_method_10_code 50 = .ok (.iload_n 2, 1) := by decide +kernel
theorem d_RF_test_51 : decode prog_1_method_10_code 51 = .ok (.ifCond .ne 7, 3) := by decide +kernel
theorem d_RF_test_54 : decode prog_1_method_10_code 54 = .ok (.iconst 1, 1) := by decide +kernel
theorem d_RF_test_55 : decode prog_1_method_10_code 55 = .ok (.goto 4, 3) := by decide +kernel
theorem d_RF_test_58 : decode prog_1_method_10_code 58 = .ok (.iconst 0, 1) := by decide +kernel
theorem d_RF_test_59 : decode prog_1_method_10_code 59 = .ok (.putfield 172, 3) := by decide +kernel
theorem d_RF_test_62 : decode prog_1_method_10_code 62 = .ok (.iload_n 2, 1) := by decide +kernel
theorem d_RF_test_63 : decode prog_1_method_10_code 63 = .ok (.ireturn, 1) := by decide +kernel
theorem d_RF_openKinds_0 : decode prog_1_method_38_code 0 = .ok (.iconst 0, 1) := by decide +kernel
theorem d_RF_openKinds_1 : decode prog_1_method_38_code 1 = .ok (.istore_n 2, 1) := by decide +kernel
theorem d_RF_openKinds_2 : decode prog_1_method_38_code 2 = .ok (.aload_n 0, 1) := by decide +kernel
theorem d_RF_openKinds_3 : decode prog_1_method_38_code 3 = .ok (.getfield 30, 3) := by decide +kernel
theorem d_RF_openKinds_6 : decode prog_1_method_38_code 6 = .ok (.astore_n 3, 1) := by decide +kernel
theorem d_RF_openKinds_7 : decode prog_1_method_38_code 7 = .ok (.aload_n 3, 1) := by decide +kernel
theorem d_RF_openKinds_8 : decode prog_1_method_38_code 8 = .ok (.arraylength, 1) := by decide +kernel
theorem d_RF_openKinds_9 : decode prog_1_method_38_code 9 = .ok (.istore 4, 2) := by decide +kernel
theorem d_RF_openKinds_11 : decode prog_1_method_38_code 11 = .ok (.iconst 0, 1) := by decide +kernel
theorem d_RF_openKinds_12 : decode prog_1_method_38_code 12 = .ok (.istore 5, 2) := by decide +kernel
theorem d_RF_openKinds_14 : decode prog_1_method_38_code 14 = .ok (.iload 5, 2) := by decide +kernel
theorem d_RF_openKinds_16 : decode prog_1_method_38_code 16 = .ok (.iload 4, 2) := by decide +kernel
theorem d_RF_openKinds_18 : decode prog_1_method_38_code 18 = .ok (.if_icmp .ge 47, 3) := by decide +kernel
theorem d_RF_openKinds_21 : decode prog_1_method_38_code 21 = .ok (.aload_n 3, 1) := by decide +kernel
theorem d_RF_openKinds_22 : decode prog_1_method_38_code 22 = .ok (.iload 5, 2) := by decide +kernel
theorem d_RF_openKinds_24 : decode prog_1_method_38_code 24 = .ok (.aaload, 1) := by decide +kernel
theorem d_RF_openKinds_25 : decode prog_1_method_38_code 25 = .ok (.astore 6, 2) := by decide +kernel
theorem d_RF_openKinds_27 : decode prog_1_method_38_code 27 = .ok (.aload 6, 2) := by decide +kernel
theorem d_RF_openKinds_29 : decode prog_1_method_38_code 29 = .ok (.ifnull 30, 3) := by decide +kernel
theorem d_RF_openKinds_32 : decode prog_1_method_38_code 32 = .ok (.aload 6, 2) := by decide +kernel
theorem d_RF_openKinds_34 : decode prog_1_method_38_code 34 = .ok (.invokevirtual 147, 3) := by decide +kernel
theorem d_RF_openKinds_37 : decode prog_1_method_38_code 37 = .ok (.ifCond .eq 22, 3) := by decide +kernel
theorem d_RF_openKinds_40 : decode prog_1_method_38_code 40 = .ok (.aload 6, 2) := by decide +kernel
theorem d_RF_openKinds_42 : decode prog_1_method_38_code 42 = .ok (.getfield 257, 3) := by decide +kernel
theorem d_RF_openKinds_45 : decode prog_1_method_38_code 45 = .ok (.aload_n 1, 1) := by decide +kernel
theorem d_RF_openKinds_46 : decode prog_1_method_38_code 46 = .ok (.if_acmp .ne 13, 3) := by decide +kernel
theorem d_RF_openKinds_49 : decode prog_1_method_38_code 49 = .ok (.iload_n 2, 1) := by decide +kernel
theorem d_RF_openKinds_50 : decode prog_1_method_38_code 50 = .ok (.iconst 1, 1) := by decide +kernel
theorem d_RF_openKinds_51 : decode prog_1_method_38_code 51 = .ok (.aload 6, 2) := by decide +kernel
theorem d_RF_openKinds_53 : decode prog_1_method_38_code 53 = .ok (.getfield 258, 3) := by decide +kernel
theorem d_RF_openKinds_56 : decode prog_1_method_38_code 56 = .ok (.ishl, 1) := by decide +kernel
theorem d_RF_openKinds_57 : decode prog_1_method_38_code 57 = .ok (.ior, 1) := by decide +kernel
theorem d_RF_openKinds_58 : decode prog_1_method_38_code 58 = .ok (.istore_n 2, 1) := by decide +kernel
theorem d_RF_openKinds_59 : decode prog_1_method_38_code 59 = .ok (.iinc 5 1, 3) := by decide +kernel
theorem d_RF_openKinds_62 : decode prog_1_method_38_code 62 = .ok (.goto (-48), 3) := by decide +kernel
theorem d_RF_openKinds_65 : decode prog_1_method_38_code 65 = .ok (.iload_n 2, 1) := by decide +kernel
theorem d_RF_openKinds_66 : decode prog_1_method_38_code 66 = .ok (.ireturn, 1) := by decide +kernel
theorem d_Law_resume_0 : decode method_12_code 0 = .ok (.aload_n 2, 1) := by decide +kernel
theorem d_Law_resume_1 : decode method_12_code 1 = .ok (.iconst 0, 1) := by decide +kernel
theorem d_Law_resume_2 : decode method_12_code 2 = .ok (.aload_n 0, 1) := by decide +kernel
theorem d_Law_resume_3 : decode method_12_code 3 = .ok (.iload_n 1, 1) := by decide +kernel
theorem d_Law_resume_4 : decode method_12_code 4 = .ok (.invokevirtual 50, 3) := by decide +kernel
theorem d_Law_resume_7 : decode method_12_code 7 = .ok (.i2l, 1) := by decide +kernel
theorem d_Law_resume_8 : decode method_12_code 8 = .ok (.lastore, 1) := by decide +kernel
theorem d_Law_resume_9 : decode method_12_code 9 = .ok (.goto 9, 3) := by decide +kernel
theorem d_Law_resume_12 : decode method_12_code 12 = .ok (.astore_n 3, 1) := by decide +kernel
theorem d_Law_resume_13 : decode method_12_code 13 = .ok (.iconst 1, 1) := by decide +kernel
theorem d_Law_resume_14 : decode method_12_code 14 = .ok (.ireturn, 1) := by decide +kernel
theorem d_Law_resume_15 : decode method_12_code 15 = .ok (.astore_n 3, 1) := by decide +kernel
theorem d_Law_resume_16 : decode method_12_code 16 = .ok (.iconst 2, 1) := by decide +kernel
theorem d_Law_resume_17 : decode method_12_code 17 = .ok (.ireturn, 1) := by decide +kernel
theorem d_Law_resume_18 : decode method_12_code 18 = .ok (.iconst 0, 1) := by decide +kernel
theorem d_Law_resume_19 : decode method_12_code 19 = .ok (.ireturn, 1) := by decide +kernel
theorem d_RF_resume_0 : decode prog_1_method_11_code 0 = .ok (.aload_n 0, 1) := by decide +kernel
theorem d_RF_resume_1 : decode prog_1_method_11_code 1 = .ok (.iload_n 1, 1) := by decide +kernel
theorem d_RF_resume_2 : decode prog_1_method_11_code 2 = .ok (.invokevirtual 97, 3) := by decide +kernel
theorem d_RF_resume_5 : decode prog_1_method_11_code 5 = .ok (.astore_n 2, 1) := by decide +kernel
theorem d_RF_resume_6 : decode prog_1_method_11_code 6 = .ok (.aload_n 2, 1) := by decide +kernel
theorem d_RF_resume_7 : decode prog_1_method_11_code 7 = .ok (.getfield 101, 3) := by decide +kernel
theorem d_RF_resume_10 : decode prog_1_method_11_code 10 = .ok (.ifCond .ne 13, 3) := by decide +kernel
theorem d_RF_resume_13 : decode prog_1_method_11_code 13 = .ok (.new 104, 3) := by decide +kernel
theorem d_RF_resume_16 : decode prog_1_method_11_code 16 = .ok (.dup, 1) := by decide +kernel
theorem d_RF_resume_17 : decode prog_1_method_11_code 17 = .ok (.ldc 176, 2) := by decide +kernel
theorem d_RF_resume_19 : decode prog_1_method_11_code 19 = .ok (.invokespecial 108, 3) := by decide +kernel
theorem d_RF_resume_22 : decode prog_1_method_11_code 22 = .ok (.athrow, 1) := by decide +kernel
theorem d_RF_resume_23 : decode prog_1_method_11_code 23 = .ok (.aload_n 0, 1) := by decide +kernel
theorem d_RF_resume_24 : decode prog_1_method_11_code 24 = .ok (.aload_n 2, 1) := by decide +kernel
theorem d_RF_resume_25 : decode prog_1_method_11_code 25 = .ok (.invokevirtual 166, 3) := by decide +kernel
theorem d_RF_resume_28 : decode prog_1_method_11_code 28 = .ok (.ifCond .eq 5, 3) := by decide +kernel
theorem d_RF_resume_31 : decode prog_1_method_11_code 31 = .ok (.iconst (-1), 1) := by decide +kernel
theorem d_RF_resume_32 : decode prog_1_method_11_code 32 = .ok (.ireturn, 1) := by decide +kernel
theorem d_RF_resume_33 : decode prog_1_method_11_code 33 = .ok (.aload_n 2, 1) := by decide +kernel
theorem d_RF_resume_34 : decode prog_1_method_11_code 34 = .ok (.getfield 101, 3) := by decide +kernel
theorem d_RF_resume_37 : decode prog_1_method_11_code 37 = .ok (.iconst 2, 1) := by decide +kernel
theorem d_RF_resume_38 : decode prog_1_method_11_code 38 = .ok (.if_icmp .ne 6, 3) := by decide +kernel
theorem d_RF_resume_41 : decode prog_1_method_11_code 41 = .ok (.bipush (-2), 2) := by decide +kernel
theorem d_RF_resume_43 : decode prog_1_method_11_code 43 = .ok (.ireturn, 1) := by decide +kernel
theorem d_RF_resume_44 : decode prog_1_method_11_code 44 = .ok (.aload_n 2, 1) := by decide +kernel
theorem d_RF_resume_45 : decode prog_1_method_11_code 45 = .ok (.getfield 172, 3) := by decide +kernel
theorem d_RF_resume_48 : decode prog_1_method_11_code 48 = .ok (.ifCond .eq 6, 3) := by decide +kernel
theorem d_RF_resume_51 : decode prog_1_method_11_code 51 = .ok (.bipush (-3), 2) := by decide +kernel
theorem d_RF_resume_53 : decode prog_1_method_11_code 53 = .ok (.ireturn, 1) := by decide +kernel
theorem d_RF_resume_54 : decode prog_1_method_11_code 54 = .ok (.aload_n 2, 1) := by decide +kernel
theorem d_RF_resume_55 : decode prog_1_method_11_code 55 = .ok (.iconst 0, 1) := by decide +kernel
theorem d_RF_resume_56 : decode prog_1_method_11_code 56 = .ok (.putfield 101, 3) := by decide +kernel
theorem d_RF_resume_59 : decode prog_1_method_11_code 59 = .ok (.iconst 1, 1) := by decide +kernel
theorem d_RF_resume_60 : decode prog_1_method_11_code 60 = .ok (.ireturn, 1) := by decide +kernel
theorem d_Law_zone_0 : decode method_13_code 0 = .ok (.aload_n 3, 1) := by decide +kernel
theorem d_Law_zone_1 : decode method_13_code 1 = .ok (.iconst 0, 1) := by decide +kernel
theorem d_Law_zone_2 : decode method_13_code 2 = .ok (.aload_n 0, 1) := by decide +kernel
theorem d_Law_zone_3 : decode method_13_code 3 = .ok (.iload_n 1, 1) := by decide +kernel
theorem d_Law_zone_4 : decode method_13_code 4 = .ok (.iload_n 2, 1) := by decide +kernel
theorem d_Law_zone_5 : decode method_13_code 5 = .ok (.invokevirtual 53, 3) := by decide +kernel
theorem d_Law_zone_8 : decode method_13_code 8 = .ok (.i2l, 1) := by decide +kernel
theorem d_Law_zone_9 : decode method_13_code 9 = .ok (.lastore, 1) := by decide +kernel
theorem d_Law_zone_10 : decode method_13_code 10 = .ok (.goto 15, 3) := by decide +kernel
theorem d_Law_zone_13 : decode method_13_code 13 = .ok (.astore 4, 2) := by decide +kernel
theorem d_Law_zone_15 : decode method_13_code 15 = .ok (.iconst 1, 1) := by decide +kernel
theorem d_Law_zone_16 : decode method_13_code 16 = .ok (.ireturn, 1) := by decide +kernel
theorem d_Law_zone_17 : decode method_13_code 17 = .ok (.astore 4, 2) := by decide +kernel
theorem d_Law_zone_19 : decode method_13_code 19 = .ok (.iconst 2, 1) := by decide +kernel
theorem d_Law_zone_20 : decode method_13_code 20 = .ok (.ireturn, 1) := by decide +kernel
theorem d_Law_zone_21 : decode method_13_code 21 = .ok (.astore 4, 2) := by decide +kernel
theorem d_Law_zone_23 : decode method_13_code 23 = .ok (.iconst 3, 1) := by decide +kernel
theorem d_Law_zone_24 : decode method_13_code 24 = .ok (.ireturn, 1) := by decide +kernel
theorem d_Law_zone_25 : decode method_13_code 25 = .ok (.iconst 0, 1) := by decide +kernel
theorem d_Law_zone_26 : decode method_13_code 26 = .ok (.ireturn, 1) := by decide +kernel
theorem d_RF_zone_0 : decode prog_1_method_12_code 0 = .ok (.aload_n 0, 1) := by decide +kernel
theorem d_RF_zone_1 : decode prog_1_method_12_code 1 = .ok (.iload_n 1, 1) := by decide +kernel
theorem d_RF_zone_2 : decode prog_1_method_12_code 2 = .ok (.invokevirtual 97, 3) := by decide +kernel
theorem d_RF_zone_5 : decode prog_1_method_12_code 5 = .ok (.astore_n 3, 1) := by decide +kernel
theorem d_RF_zone_6 : decode prog_1_method_12_code 6 = .ok (.iload_n 2, 1) := by decide +kernel
theorem d_RF_zone_7 : decode prog_1_method_12_code 7 = .ok (.ifCond .ge 13, 3) := by decide +kernel
theorem d_RF_zone_10 : decode prog_1_method_12_code 10 = .ok (.new 66, 3) := by decide +kernel
theorem d_RF_zone_13 : decode prog_1_method_12_code 13 = .ok (.dup, 1) := by decide +kernel
theorem d_RF_zone_14 : decode prog_1_method_12_code 14 = .ok (.ldc 178, 2) := by decide +kernel
theorem d_RF_zone_16 : decode prog_1_method_12_code 16 = .ok (.invokespecial 70, 3) := by decide +kernel
theorem d_RF_zone_19 : decode prog_1_method_12_code 19 = .ok (.athrow, 1) := by decide +kernel
theorem d_RF_zone_20 : decode prog_1_method_12_code 20 = .ok (.aload_n 3, 1) := by decide +kernel
theorem d_RF_zone_21 : decode prog_1_method_12_code 21 = .ok (.invokestatic 180, 3) := by decide +kernel
theorem d_RF_zone_24 : decode prog_1_method_12_code 24 = .ok (.iload_n 2, 1) := by decide +kernel
theorem d_RF_zone_25 : decode prog_1_method_12_code 25 = .ok (.istore 4, 2) := by decide +kernel
theorem d_RF_zone_27 : decode prog_1_method_12_code 27 = .ok (.aload_n 0, 1) := by decide +kernel
theorem d_RF_zone_28 : decode prog_1_method_12_code 28 = .ok (.aload_n 3, 1) := by decide +kernel
theorem d_RF_zone_29 : decode prog_1_method_12_code 29 = .ok (.invokevirtual 184, 3) := by decide +kernel
theorem d_RF_zone_32 : decode prog_1_method_12_code 32 = .ok (.istore 5, 2) := by decide +kernel
theorem d_RF_zone_34 : decode prog_1_method_12_code 34 = .ok (.iconst 0, 1) := by decide +kernel
theorem d_RF_zone_35 : decode prog_1_method_12_code 35 = .ok (.istore 6, 2) := by decide +kernel
theorem d_RF_zone_37 : decode prog_1_method_12_code 37 = .ok (.iload 6, 2) := by decide +kernel
theorem d_RF_zone_39 : decode prog_1_method_12_code 39 = .ok (.bipush 20, 2) := by decide +kernel
theorem d_RF_zone_41 : decode prog_1_method_12_code 41 = .ok (.if_icmp .ge 30, 3) := by decide +kernel
theorem d_RF_zone_44 : decode prog_1_method_12_code 44 = .ok (.iload 5, 2) := by decide +kernel
theorem d_RF_zone_46 : decode prog_1_method_12_code 46 = .ok (.iload 6, 2) := by decide +kernel
theorem d_RF_zone_48 : decode prog_1_method_12_code 48 = .ok (.invokestatic 155, 3) := by decide +kernel
theorem d_RF_zone_51 : decode prog_1_method_12_code 51 = .ok (.ifCond .eq 14, 3) := by decide +kernel
theorem d_RF_zone_54 : decode prog_1_method_12_code 54 = .ok (.iload 4, 2) := by decide +kernel
theorem d_RF_zone_56 : decode prog_1_method_12_code 56 = .ok (.ifCond .ne 6, 3) := by decide +kernel
theorem d_RF_zone_59 : decode prog_1_method_12_code 59 = .ok (.iload 6, 2) := by decide +kernel
theorem d_RF_zone_61 : decode prog_1_method_12_code 61 = .ok (.ireturn, 1) := by decide +kernel
theorem d_RF_zone_62 : decode prog_1_method_12_code 62 = .ok (.iinc 4 (-1), 3) := by decide +kernel
theorem d_RF_zone_65 : decode prog_1_method_12_code 65 = .ok (.iinc 6 1, 3) := by decide +kernel
theorem d_RF_zone_68 : decode prog_1_method_12_code 68 = .ok (.goto (-31), 3) := by decide +kernel
theorem d_RF_zone_71 : decode prog_1_method_12_code 71 = .ok (.iconst (-1), 1) := by decide +kernel
theorem d_RF_zone_72 : decode prog_1_method_12_code 72 = .ok (.ireturn, 1) := by decide +kernel
theorem d_RF_needLost_0 : decode prog_1_method_29_code 0 = .ok (.aload_n 0, 1) := by decide +kernel
theorem d_RF_needLost_1 : decode prog_1_method_29_code 1 = .ok (.getfield 101, 3) := by decide +kernel
theorem d_RF_needLost_4 : decode prog_1_method_29_code 4 = .ok (.iconst 2, 1) := by decide +kernel
theorem d_RF_needLost_5 : decode prog_1_method_29_code 5 = .ok (.if_icmp .eq 14, 3) := by decide +kernel
theorem d_RF_needLost_8 : decode prog_1_method_29_code 8 = .ok (.new 104, 3) := by decide +kernel
theorem d_RF_needLost_11 : decode prog_1_method_29_code 11 = .ok (.dup, 1) := by decide +kernel
theorem d_RF_needLost_12 : decode prog_1_method_29_code 12 = .ok (.ldc_w 317, 3) := by decide +kernel
theorem d_RF_needLost_15 : decode prog_1_method_29_code 15 = .ok (.invokespecial 108, 3) := by decide +kernel
theorem d_RF_needLost_18 : decode prog_1_method_29_code 18 = .ok (.athrow, 1) := by decide +kernel
theorem d_RF_needLost_19 : decode prog_1_method_29_code 19 = .ok (.return_, 1) := by decide +kernel
theorem d_RF_piecesOfLost_0 : decode prog_1_method_39_code 0 = .ok (.aload_n 0, 1) := by decide +kernel
theorem d_RF_piecesOfLost_1 : decode prog_1_method_39_code 1 = .ok (.getfield 10, 3) := by decide +kernel
theorem d_RF_piecesOfLost_4 : decode prog_1_method_39_code 4 = .ok (.aload_n 1, 1) := by decide +kernel
theorem d_RF_piecesOfLost_5 : decode prog_1_method_39_code 5 = .ok (.getfield 109, 3) := by decide +kernel
theorem d_RF_piecesOfLost_8 : decode prog_1_method_39_code 8 = .ok (.aload_n 0, 1) := by decide +kernel
theorem d_RF_piecesOfLost_9 : decode prog_1_method_39_code 9 = .ok (.getfield 158, 3) := by decide +kernel
theorem d_RF_piecesOfLost_12 : decode prog_1_method_39_code 12 = .ok (.aload_n 1, 1) := by decide +kernel
theorem d_RF_piecesOfLost_13 : decode prog_1_method_39_code 13 = .ok (.getfield 357, 3) := by decide +kernel
theorem d_RF_piecesOfLost_16 : decode prog_1_method_39_code 16 = .ok (.isub, 1) := by decide +kernel
theorem d_RF_piecesOfLost_17 : decode prog_1_method_39_code 17 = .ok (.bipush 10, 2) := by decide +kernel
theorem d_RF_piecesOfLost_19 : decode prog_1_method_39_code 19 = .ok (.idiv, 1) := by decide +kernel
theorem d_RF_piecesOfLost_20 : decode prog_1_method_39_code 20 = .ok (.invokevirtual 360, 3) := by decide +kernel
theorem d_RF_piecesOfLost_23 : decode prog_1_method_39_code 23 = .ok (.ireturn, 1) := by decide +kernel
theorem d_Track_reach_0 : decode prog_7_method_8_code 0 = .ok (.iconst 1, 1) := by decide +kernel
theorem d_Track_reach_1 : decode prog_7_method_8_code 1 = .ok (.iload_n 1, 1) := by decide +kernel
theorem d_Track_reach_2 : decode prog_7_method_8_code 2 = .ok (.ishl, 1) := by decide +kernel
theorem d_Track_reach_3 : decode prog_7_method_8_code 3 = .ok (.istore_n 3, 1) := by decide +kernel
theorem d_Track_reach_4 : decode prog_7_method_8_code 4 = .ok (.iconst 0, 1) := by decide +kernel
theorem d_Track_reach_5 : decode prog_7_method_8_code 5 = .ok (.istore 4, 2) := by decide +kernel
theorem d_Track_reach_7 : decode prog_7_method_8_code 7 = .ok (.iload 4, 2) := by decide +kernel
theorem d_Track_reach_9 : decode prog_7_method_8_code 9 = .ok (.iload_n 2, 1) := by decide +kernel
theorem d_Track_reach_10 : decode prog_7_method_8_code 10 = .ok (.if_icmp .ge 24, 3) := by decide +kernel
theorem d_Track_reach_13 : decode prog_7_method_8_code 13 = .ok (.iload 4, 2) := by decide +kernel
theorem d_Track_reach_15 : decode prog_7_method_8_code 15 = .ok (.bipush 20, 2) := by decide +kernel
theorem d_Track_reach_17 : decode prog_7_method_8_code 17 = .ok (.if_icmp .ge 17, 3) := by decide +kernel
theorem d_Track_reach_20 : decode prog_7_method_8_code 20 = .ok (.iload_n 3, 1) := by decide +kernel
theorem d_Track_reach_21 : decode prog_7_method_8_code 21 = .ok (.aload_n 0, 1) := by decide +kernel
theorem d_Track_reach_22 : decode prog_7_method_8_code 22 = .ok (.iload_n 3, 1) := by decide +kernel
theorem d_Track_reach_23 : decode prog_7_method_8_code 23 = .ok (.invokevirtual 23, 3) := by decide +kernel
theorem d_Track_reach_26 : decode prog_7_method_8_code 26 = .ok (.ior, 1) := by decide +kernel
theorem d_Track_reach_27 : decode prog_7_method_8_code 27 = .ok (.istore_n 3, 1) := by decide +kernel
theorem d_Track_reach_28 : decode prog_7_method_8_code 28 = .ok (.iinc 4 1, 3) := by decide +kernel
theorem d_Track_reach_31 : decode prog_7_method_8_code 31 = .ok (.goto (-24), 3) := by decide +kernel
theorem d_Track_reach_34 : decode prog_7_method_8_code 34 = .ok (.iload_n 3, 1) := by decide +kernel
theorem d_Track_reach_35 : decode prog_7_method_8_code 35 = .ok (.ireturn, 1) := by decide +kernel
theorem d_Track_around_0 : decode prog_7_method_10_code 0 = .ok (.iconst 0, 1) := by decide +kernel
theorem d_Track_around_1 : decode prog_7_method_10_code 1 = .ok (.istore_n 2, 1) := by decide +kernel
theorem d_Track_around_2 : decode prog_7_method_10_code 2 = .ok (.iconst 0, 1) := by decide +kernel
theorem d_Track_around_3 : decode prog_7_method_10_code 3 = .ok (.istore_n 3, 1) := by decide +kernel
theorem d_Track_around_4 : decode prog_7_method_10_code 4 = .ok (.iload_n 3, 1) := by decide +kernel
theorem d_Track_around_5 : decode prog_7_method_10_code 5 = .ok (.aload_n 0, 1) := by decide +kernel
theorem d_Track_around_6 : decode prog_7_method_10_code 6 = .ok (.getfield 15, 3) := by decide +kernel
theorem d_Track_around_9 : decode prog_7_method_10_code 9 = .ok (.if_icmp .ge 26, 3) := by decide +kernel
theorem d_Track_around_12 : decode prog_7_method_10_code 12 = .ok (.iload_n 1, 1) := by decide +kernel
theorem d_Track_around_13 : decode prog_7_method_10_code 13 = .ok (.iload_n 3, 1) := by decide +kernel
theorem d_Track_around_14 : decode prog_7_method_10_code 14 = .ok (.invokestatic 19, 3) := by decide +kernel
theorem d_Track_around_17 : decode prog_7_method_10_code 17 = .ok (.ifCond .eq 12, 3) := by decide +kernel
theorem d_Track_around_20 : decode prog_7_method_10_code 20 = .ok (.iload_n 2, 1) := by decide +kernel
theorem d_Track_around_21 : decode prog_7_method_10_code 21 = .ok (.aload_n 0, 1) := by decide +kernel
theorem d_Track_around_22 : decode prog_7_method_10_code 22 = .ok (.getfield 9, 3) := by decide +kernel
theorem d_Track_around_25 : decode prog_7_method_10_code 25 = .ok (.iload_n 3, 1) := by decide +kernel
theorem d_Track_around_26 : decode prog_7_method_10_code 26 = .ok (.iaload, 1) := by decide +kernel
theorem d_Track_around_27 : decode prog_7_method_10_code 27 = .ok (.ior, 1) := by decide +kernel
theorem d_Track_around_28 : decode prog_7_method_10_code 28 = .ok (.istore_n 2, 1) := by decide +kernel
theorem d_Track_around_29 : decode prog_7_method_10_code 29 = .ok (.iinc 3 1, 3) := by decide +kernel
theorem d_Track_around_32 : decode prog_7_method_10_code 32 = .ok (.goto (-28), 3) := by decide +kernel
theorem d_Track_around_35 : decode prog_7_method_10_code 35 = .ok (.iload_n 2, 1) := by decide +kernel
theorem d_Track_around_36 : decode prog_7_method_10_code 36 = .ok (.ireturn, 1) := by decide +kernel
theorem d_Law_found_0 : decode method_14_code 0 = .ok (.aload_n 3, 1) := by decide +kernel
theorem d_Law_found_1 : decode method_14_code 1 = .ok (.iconst 0, 1) := by decide +kernel
theorem d_Law_found_2 : decode method_14_code 2 = .ok (.aload_n 0, 1) := by decide +kernel
theorem d_Law_found_3 : decode method_14_code 3 = .ok (.iload_n 1, 1) := by decide +kernel
theorem d_Law_found_4 : decode method_14_code 4 = .ok (.iload_n 2, 1) := by decide +kernel
theorem d_Law_found_5 : decode method_14_code 5 = .ok (.invokevirtual 56, 3) := by decide +kernel
theorem d_Law_found_8 : decode method_14_code 8 = .ok (.i2l, 1) := by decide +kernel
theorem d_Law_found_9 : decode method_14_code 9 = .ok (.lastore, 1) := by decide +kernel
theorem d_Law_found_10 : decode method_14_code 10 = .ok (.goto 11, 3) := by decide +kernel
theorem d_Law_found_13 : decode method_14_code 13 = .ok (.astore 4, 2) := by decide +kernel
theorem d_Law_found_15 : decode method_14_code 15 = .ok (.iconst 1, 1) := by decide +kernel
theorem d_Law_found_16 : decode method_14_code 16 = .ok (.ireturn, 1) := by decide +kernel
theorem d_Law_found_17 : decode method_14_code 17 = .ok (.astore 4, 2) := by decide +kernel
theorem d_Law_found_19 : decode method_14_code 19 = .ok (.iconst 2, 1) := by decide +kernel
theorem d_Law_found_20 : decode method_14_code 20 = .ok (.ireturn, 1) := by decide +kernel
theorem d_Law_found_21 : decode method_14_code 21 = .ok (.iconst 0, 1) := by decide +kernel
theorem d_Law_found_22 : decode method_14_code 22 = .ok (.ireturn, 1) := by decide +kernel
theorem d_RF_found_0 : decode prog_1_method_13_code 0 = .ok (.aload_n 0, 1) := by decide +kernel
theorem d_RF_found_1 : decode prog_1_method_13_code 1 = .ok (.iload_n 1, 1) := by decide +kernel
theorem d_RF_found_2 : decode prog_1_method_13_code 2 = .ok (.invokevirtual 97, 3) := by decide +kernel
theorem d_RF_found_5 : decode prog_1_method_13_code 5 = .ok (.astore_n 3, 1) := by decide +kernel
theorem d_RF_found_6 : decode prog_1_method_13_code 6 = .ok (.aload_n 0, 1) := by decide +kernel
theorem d_RF_found_7 : decode prog_1_method_13_code 7 = .ok (.iload_n 2, 1) := by decide +kernel
theorem d_RF_found_8 : decode prog_1_method_13_code 8 = .ok (.invokevirtual 62, 3) := by decide +kernel
theorem d_RF_found_11 : decode prog_1_method_13_code 11 = .ok (.aload_n 3, 1) := by decide +kernel
theorem d_RF_found_12 : decode prog_1_method_13_code 12 = .ok (.invokestatic 180, 3) := by decide +kernel
theorem d_RF_found_15 : decode prog_1_method_13_code 15 = .ok (.aload_n 0, 1) := by decide +kernel
theorem d_RF_found_16 : decode prog_1_method_13_code 16 = .ok (.aload_n 3, 1) := by decide +kernel
theorem d_RF_found_17 : decode prog_1_method_13_code 17 = .ok (.invokevirtual 184, 3) := by decide +kernel
theorem d_RF_found_20 : decode prog_1_method_13_code 20 = .ok (.iload_n 2, 1) := by decide +kernel
theorem d_RF_found_21 : decode prog_1_method_13_code 21 = .ok (.invokestatic 155, 3) := by decide +kernel
theorem d_RF_found_24 : decode prog_1_method_13_code 24 = .ok (.ifCond .ne 13, 3) := by decide +kernel
theorem d_RF_found_27 : decode prog_1_method_13_code 27 = .ok (.new 104, 3) := by decide +kernel
theorem d_RF_found_30 : decode prog_1_method_13_code 30 = .ok (.dup, 1) := by decide +kernel
theorem d_RF_found_31 : decode prog_1_method_13_code 31 = .ok (.ldc 187, 2) := by decide +kernel
theorem d_RF_found_33 : decode prog_1_method_13_code 33 = .ok (.invokespecial 108, 3) := by decide +kernel
theorem d_RF_found_36 : decode prog_1_method_13_code 36 = .ok (.athrow, 1) := by decide +kernel
theorem d_RF_found_37 : decode prog_1_method_13_code 37 = .ok (.aload_n 0, 1) := by decide +kernel
theorem d_RF_found_38 : decode prog_1_method_13_code 38 = .ok (.getfield 10, 3) := by decide +kernel
theorem d_RF_found_41 : decode prog_1_method_13_code 41 = .ok (.aload_n 3, 1) := by decide +kernel
theorem d_RF_found_42 : decode prog_1_method_13_code 42 = .ok (.getfield 109, 3) := by decide +kernel
theorem d_RF_found_45 : decode prog_1_method_13_code 45 = .ok (.iload_n 2, 1) := by decide +kernel
theorem d_RF_found_46 : decode prog_1_method_13_code 46 = .ok (.invokevirtual 189, 3) := by decide +kernel
theorem d_RF_found_49 : decode prog_1_method_13_code 49 = .ok (.istore 4, 2) := by decide +kernel
theorem d_RF_found_51 : decode prog_1_method_13_code 51 = .ok (.aload_n 3, 1) := by decide +kernel
theorem d_RF_found_52 : decode prog_1_method_13_code 52 = .ok (.iconst 1, 1) := by decide +kernel
theorem d_RF_found_53 : decode prog_1_method_13_code 53 = .ok (.putfield 101, 3) := by decide +kernel
theorem d_RF_found_56 : decode prog_1_method_13_code 56 = .ok (.aload_n 3, 1) := by decide +kernel
theorem d_RF_found_57 : decode prog_1_method_13_code 57 = .ok (.iload_n 2, 1) := by decide +kernel
theorem d_RF_found_58 : decode prog_1_method_13_code 58 = .ok (.putfield 109, 3) := by decide +kernel
theorem d_RF_found_61 : decode prog_1_method_13_code 61 = .ok (.iload 4, 2) := by decide +kernel
theorem d_RF_found_63 : decode prog_1_method_13_code 63 = .ok (.ireturn, 1) := by decide +kernel
theorem d_Track_fewestLinks_0 : decode prog_7_method_9_code 0 = .ok (.iconst 0, 1) := by decide +kernel
theorem d_Track_fewestLinks_1 : decode prog_7_method_9_code 1 = .ok (.istore_n 3, 1) := by decide +kernel
end
section
/-! decode rows: printed by wip/gen/names.py -/
theorem d_Track_fewestLinks_2 : decode prog_7_method_9_code 2 = .ok (.iload_n 3, 1) := by decide +kernel
theorem d_Track_fewestLinks_3 : decode prog_7_method_9_code 3 = .ok (.bipush 20, 2) := by decide +kernel
theorem d_Track_fewestLinks_5 : decode prog_7_method_9_code 5 = .ok (.if_icmp .ge 22, 3) := by decide +kernel
theorem d_Track_fewestLinks_8 : decode prog_7_method_9_code 8 = .ok (.aload_n 0, 1) := by decide +kernel
theorem d_Track_fewestLinks_9 : decode prog_7_method_9_code 9 = .ok (.iload_n 1, 1) := by decide +kernel
theorem d_Track_fewestLinks_10 : decode prog_7_method_9_code 10 = .ok (.iload_n 3, 1) := by decide +kernel
theorem d_Track_fewestLinks_11 : decode prog_7_method_9_code 11 = .ok (.invokevirtual 27, 3) := by decide +kernel
theorem d_Track_fewestLinks_14 : decode prog_7_method_9_code 14 = .ok (.iload_n 2, 1) := by decide +kernel
theorem d_Track_fewestLinks_15 : decode prog_7_method_9_code 15 = .ok (.invokestatic 19, 3) := by decide +kernel
theorem d_Track_fewestLinks_18 : decode prog_7_method_9_code 18 = .ok (.ifCond .ne 9, 3) := by decide +kernel
theorem d_Track_fewestLinks_21 : decode prog_7_method_9_code 21 = .ok (.iinc 3 1, 3) := by decide +kernel
theorem d_Track_fewestLinks_24 : decode prog_7_method_9_code 24 = .ok (.goto (-22), 3) := by decide +kernel
theorem d_Track_fewestLinks_27 : decode prog_7_method_9_code 27 = .ok (.iload_n 3, 1) := by decide +kernel
theorem d_Track_fewestLinks_28 : decode prog_7_method_9_code 28 = .ok (.ireturn, 1) := by decide +kernel
theorem d_Law_tow_0 : decode method_15_code 0 = .ok (.aload_n 0, 1) := by decide +kernel
theorem d_Law_tow_1 : decode method_15_code 1 = .ok (.iload_n 1, 1) := by decide +kernel
theorem d_Law_tow_2 : decode method_15_code 2 = .ok (.iload_n 2, 1) := by decide +kernel
theorem d_Law_tow_3 : decode method_15_code 3 = .ok (.invokevirtual 59, 3) := by decide +kernel
theorem d_Law_tow_6 : decode method_15_code 6 = .ok (.goto 9, 3) := by decide +kernel
theorem d_Law_tow_9 : decode method_15_code 9 = .ok (.astore_n 3, 1) := by decide +kernel
theorem d_Law_tow_10 : decode method_15_code 10 = .ok (.iconst 1, 1) := by decide +kernel
theorem d_Law_tow_11 : decode method_15_code 11 = .ok (.ireturn, 1) := by decide +kernel
theorem d_Law_tow_12 : decode method_15_code 12 = .ok (.astore_n 3, 1) := by decide +kernel
theorem d_Law_tow_13 : decode method_15_code 13 = .ok (.iconst 2, 1) := by decide +kernel
theorem d_Law_tow_14 : decode method_15_code 14 = .ok (.ireturn, 1) := by decide +kernel
theorem d_Law_tow_15 : decode method_15_code 15 = .ok (.iconst 0, 1) := by decide +kernel
theorem d_Law_tow_16 : decode method_15_code 16 = .ok (.ireturn, 1) := by decide +kernel
theorem d_RF_tow_0 : decode prog_1_method_14_code 0 = .ok (.aload_n 0, 1) := by decide +kernel
theorem d_RF_tow_1 : decode prog_1_method_14_code 1 = .ok (.iload_n 1, 1) := by decide +kernel
theorem d_RF_tow_2 : decode prog_1_method_14_code 2 = .ok (.invokevirtual 97, 3) := by decide +kernel
theorem d_RF_tow_5 : decode prog_1_method_14_code 5 = .ok (.astore_n 3, 1) := by decide +kernel
theorem d_RF_tow_6 : decode prog_1_method_14_code 6 = .ok (.aload_n 0, 1) := by decide +kernel
theorem d_RF_tow_7 : decode prog_1_method_14_code 7 = .ok (.iload_n 2, 1) := by decide +kernel
theorem d_RF_tow_8 : decode prog_1_method_14_code 8 = .ok (.invokevirtual 62, 3) := by decide +kernel
theorem d_RF_tow_11 : decode prog_1_method_14_code 11 = .ok (.aload_n 3, 1) := by decide +kernel
theorem d_RF_tow_12 : decode prog_1_method_14_code 12 = .ok (.getfield 101, 3) := by decide +kernel
theorem d_RF_tow_15 : decode prog_1_method_14_code 15 = .ok (.iconst 1, 1) := by decide +kernel
theorem d_RF_tow_16 : decode prog_1_method_14_code 16 = .ok (.if_icmp .eq 21, 3) := by decide +kernel
theorem d_RF_tow_19 : decode prog_1_method_14_code 19 = .ok (.aload_n 3, 1) := by decide +kernel
theorem d_RF_tow_20 : decode prog_1_method_14_code 20 = .ok (.getfield 101, 3) := by decide +kernel
theorem d_RF_tow_23 : decode prog_1_method_14_code 23 = .ok (.iconst 3, 1) := by decide +kernel
theorem d_RF_tow_24 : decode prog_1_method_14_code 24 = .ok (.if_icmp .eq 13, 3) := by decide +kernel
theorem d_RF_tow_27 : decode prog_1_method_14_code 27 = .ok (.new 104, 3) := by decide +kernel
theorem d_RF_tow_30 : decode prog_1_method_14_code 30 = .ok (.dup, 1) := by decide +kernel
theorem d_RF_tow_31 : decode prog_1_method_14_code 31 = .ok (.ldc 193, 2) := by decide +kernel
theorem d_RF_tow_33 : decode prog_1_method_14_code 33 = .ok (.invokespecial 108, 3) := by decide +kernel
theorem d_RF_tow_36 : decode prog_1_method_14_code 36 = .ok (.athrow, 1) := by decide +kernel
theorem d_RF_tow_37 : decode prog_1_method_14_code 37 = .ok (.aload_n 3, 1) := by decide +kernel
theorem d_RF_tow_38 : decode prog_1_method_14_code 38 = .ok (.iconst 3, 1) := by decide +kernel
theorem d_RF_tow_39 : decode prog_1_method_14_code 39 = .ok (.putfield 101, 3) := by decide +kernel
theorem d_RF_tow_42 : decode prog_1_method_14_code 42 = .ok (.aload_n 3, 1) := by decide +kernel
theorem d_RF_tow_43 : decode prog_1_method_14_code 43 = .ok (.iload_n 2, 1) := by decide +kernel
theorem d_RF_tow_44 : decode prog_1_method_14_code 44 = .ok (.putfield 109, 3) := by decide +kernel
theorem d_RF_tow_47 : decode prog_1_method_14_code 47 = .ok (.return_, 1) := by decide +kernel
theorem d_Law_plant_0 : decode method_16_code 0 = .ok (.aload_n 0, 1) := by decide +kernel
theorem d_Law_plant_1 : decode method_16_code 1 = .ok (.iload_n 1, 1) := by decide +kernel
theorem d_Law_plant_2 : decode method_16_code 2 = .ok (.iload_n 2, 1) := by decide +kernel
theorem d_Law_plant_3 : decode method_16_code 3 = .ok (.iload_n 3, 1) := by decide +kernel
theorem d_Law_plant_4 : decode method_16_code 4 = .ok (.invokevirtual 62, 3) := by decide +kernel
theorem d_Law_plant_7 : decode method_16_code 7 = .ok (.goto 15, 3) := by decide +kernel
theorem d_Law_plant_10 : decode method_16_code 10 = .ok (.astore 4, 2) := by decide +kernel
theorem d_Law_plant_12 : decode method_16_code 12 = .ok (.iconst 1, 1) := by decide +kernel
theorem d_Law_plant_13 : decode method_16_code 13 = .ok (.ireturn, 1) := by decide +kernel
theorem d_Law_plant_14 : decode method_16_code 14 = .ok (.astore 4, 2) := by decide +kernel
theorem d_Law_plant_16 : decode method_16_code 16 = .ok (.iconst 2, 1) := by decide +kernel
theorem d_Law_plant_17 : decode method_16_code 17 = .ok (.ireturn, 1) := by decide +kernel
theorem d_Law_plant_18 : decode method_16_code 18 = .ok (.astore 4, 2) := by decide +kernel
theorem d_Law_plant_20 : decode method_16_code 20 = .ok (.iconst 3, 1) := by decide +kernel
theorem d_Law_plant_21 : decode method_16_code 21 = .ok (.ireturn, 1) := by decide +kernel
theorem d_Law_plant_22 : decode method_16_code 22 = .ok (.iconst 0, 1) := by decide +kernel
theorem d_Law_plant_23 : decode method_16_code 23 = .ok (.ireturn, 1) := by decide +kernel
theorem d_RF_plant_0 : decode prog_1_method_15_code 0 = .ok (.aload_n 0, 1) := by decide +kernel
theorem d_RF_plant_1 : decode prog_1_method_15_code 1 = .ok (.iload_n 1, 1) := by decide +kernel
theorem d_RF_plant_2 : decode prog_1_method_15_code 2 = .ok (.invokevirtual 97, 3) := by decide +kernel
theorem d_RF_plant_5 : decode prog_1_method_15_code 5 = .ok (.astore 4, 2) := by decide +kernel
theorem d_RF_plant_7 : decode prog_1_method_15_code 7 = .ok (.iload_n 2, 1) := by decide +kernel
theorem d_RF_plant_8 : decode prog_1_method_15_code 8 = .ok (.invokestatic 86, 3) := by decide +kernel
theorem d_RF_plant_11 : decode prog_1_method_15_code 11 = .ok (.iload_n 3, 1) := by decide +kernel
theorem d_RF_plant_12 : decode prog_1_method_15_code 12 = .ok (.iconst 1, 1) := by decide +kernel
theorem d_RF_plant_13 : decode prog_1_method_15_code 13 = .ok (.if_icmp .lt 10, 3) := by decide +kernel
theorem d_RF_plant_16 : decode prog_1_method_15_code 16 = .ok (.iload_n 3, 1) := by decide +kernel
theorem d_RF_plant_17 : decode prog_1_method_15_code 17 = .ok (.sipush 1000, 3) := by decide +kernel
theorem d_RF_plant_20 : decode prog_1_method_15_code 20 = .ok (.if_icmp .le 13, 3) := by decide +kernel
theorem d_RF_plant_23 : decode prog_1_method_15_code 23 = .ok (.new 66, 3) := by decide +kernel
theorem d_RF_plant_26 : decode prog_1_method_15_code 26 = .ok (.dup, 1) := by decide +kernel
theorem d_RF_plant_27 : decode prog_1_method_15_code 27 = .ok (.ldc 195, 2) := by decide +kernel
theorem d_RF_plant_29 : decode prog_1_method_15_code 29 = .ok (.invokespecial 70, 3) := by decide +kernel
theorem d_RF_plant_32 : decode prog_1_method_15_code 32 = .ok (.athrow, 1) := by decide +kernel
theorem d_RF_plant_33 : decode prog_1_method_15_code 33 = .ok (.aload_n 0, 1) := by decide +kernel
theorem d_RF_plant_34 : decode prog_1_method_15_code 34 = .ok (.getfield 197, 3) := by decide +kernel
theorem d_RF_plant_37 : decode prog_1_method_15_code 37 = .ok (.aload_n 0, 1) := by decide +kernel
theorem d_RF_plant_38 : decode prog_1_method_15_code 38 = .ok (.getfield 42, 3) := by decide +kernel
theorem d_RF_plant_41 : decode prog_1_method_15_code 41 = .ok (.arraylength, 1) := by decide +kernel
theorem d_RF_plant_42 : decode prog_1_method_15_code 42 = .ok (.if_icmp .lt 13, 3) := by decide +kernel
theorem d_RF_plant_45 : decode prog_1_method_15_code 45 = .ok (.new 51, 3) := by decide +kernel
theorem d_RF_plant_48 : decode prog_1_method_15_code 48 = .ok (.dup, 1) := by decide +kernel
theorem d_RF_plant_49 : decode prog_1_method_15_code 49 = .ok (.ldc 200, 2) := by decide +kernel
theorem d_RF_plant_51 : decode prog_1_method_15_code 51 = .ok (.invokespecial 55, 3) := by decide +kernel
theorem d_RF_plant_54 : decode prog_1_method_15_code 54 = .ok (.athrow, 1) := by decide +kernel
theorem d_RF_plant_55 : decode prog_1_method_15_code 55 = .ok (.aload_n 0, 1) := by decide +kernel
theorem d_RF_plant_56 : decode prog_1_method_15_code 56 = .ok (.getfield 42, 3) := by decide +kernel
theorem d_RF_plant_59 : decode prog_1_method_15_code 59 = .ok (.aload_n 0, 1) := by decide +kernel
theorem d_RF_plant_60 : decode prog_1_method_15_code 60 = .ok (.getfield 197, 3) := by decide +kernel
theorem d_RF_plant_63 : decode prog_1_method_15_code 63 = .ok (.new 40, 3) := by decide +kernel
theorem d_RF_plant_66 : decode prog_1_method_15_code 66 = .ok (.dup, 1) := by decide +kernel
theorem d_RF_plant_67 : decode prog_1_method_15_code 67 = .ok (.aload 4, 2) := by decide +kernel
theorem d_RF_plant_69 : decode prog_1_method_15_code 69 = .ok (.iload_n 2, 1) := by decide +kernel
theorem d_RF_plant_70 : decode prog_1_method_15_code 70 = .ok (.aload_n 0, 1) := by decide +kernel
theorem d_RF_plant_71 : decode prog_1_method_15_code 71 = .ok (.getfield 158, 3) := by decide +kernel
theorem d_RF_plant_74 : decode prog_1_method_15_code 74 = .ok (.iload_n 3, 1) := by decide +kernel
theorem d_RF_plant_75 : decode prog_1_method_15_code 75 = .ok (.iadd, 1) := by decide +kernel
theorem d_RF_plant_76 : decode prog_1_method_15_code 76 = .ok (.invokespecial 202, 3) := by decide +kernel
theorem d_RF_plant_79 : decode prog_1_method_15_code 79 = .ok (.aastore, 1) := by decide +kernel
theorem d_RF_plant_80 : decode prog_1_method_15_code 80 = .ok (.aload_n 0, 1) := by decide +kernel
theorem d_RF_plant_81 : decode prog_1_method_15_code 81 = .ok (.dup, 1) := by decide +kernel
theorem d_RF_plant_82 : decode prog_1_method_15_code 82 = .ok (.getfield 197, 3) := by decide +kernel
theorem d_RF_plant_85 : decode prog_1_method_15_code 85 = .ok (.iconst 1, 1) := by decide +kernel
theorem d_RF_plant_86 : decode prog_1_method_15_code 86 = .ok (.iadd, 1) := by decide +kernel
theorem d_RF_plant_87 : decode prog_1_method_15_code 87 = .ok (.putfield 197, 3) := by decide +kernel
theorem d_RF_plant_90 : decode prog_1_method_15_code 90 = .ok (.return_, 1) := by decide +kernel
theorem d_Planted_init_0 : decode prog_4_method_1_code 0 = .ok (.aload_n 0, 1) := by decide +kernel
theorem d_Planted_init_1 : decode prog_4_method_1_code 1 = .ok (.invokespecial 1, 3) := by decide +kernel
theorem d_Planted_init_4 : decode prog_4_method_1_code 4 = .ok (.aload_n 0, 1) := by decide +kernel
theorem d_Planted_init_5 : decode prog_4_method_1_code 5 = .ok (.aload_n 1, 1) := by decide +kernel
theorem d_Planted_init_6 : decode prog_4_method_1_code 6 = .ok (.putfield 7, 3) := by decide +kernel
theorem d_Planted_init_9 : decode prog_4_method_1_code 9 = .ok (.aload_n 0, 1) := by decide +kernel
theorem d_Planted_init_10 : decode prog_4_method_1_code 10 = .ok (.iload_n 2, 1) := by decide +kernel
theorem d_Planted_init_11 : decode prog_4_method_1_code 11 = .ok (.putfield 13, 3) := by decide +kernel
theorem d_Planted_init_14 : decode prog_4_method_1_code 14 = .ok (.aload_n 0, 1) := by decide +kernel
theorem d_Planted_init_15 : decode prog_4_method_1_code 15 = .ok (.iload_n 3, 1) := by decide +kernel
theorem d_Planted_init_16 : decode prog_4_method_1_code 16 = .ok (.putfield 17, 3) := by decide +kernel
theorem d_Planted_init_19 : decode prog_4_method_1_code 19 = .ok (.return_, 1) := by decide +kernel
theorem d_Law_pass_0 : decode method_17_code 0 = .ok (.aload_n 2, 1) := by decide +kernel
theorem d_Law_pass_1 : decode method_17_code 1 = .ok (.iconst 0, 1) := by decide +kernel
theorem d_Law_pass_2 : decode method_17_code 2 = .ok (.aload_n 0, 1) := by decide +kernel
theorem d_Law_pass_3 : decode method_17_code 3 = .ok (.iload_n 1, 1) := by decide +kernel
theorem d_Law_pass_4 : decode method_17_code 4 = .ok (.invokevirtual 66, 3) := by decide +kernel
theorem d_Law_pass_7 : decode method_17_code 7 = .ok (.i2l, 1) := by decide +kernel
theorem d_Law_pass_8 : decode method_17_code 8 = .ok (.lastore, 1) := by decide +kernel
theorem d_Law_pass_9 : decode method_17_code 9 = .ok (.goto 6, 3) := by decide +kernel
theorem d_Law_pass_12 : decode method_17_code 12 = .ok (.astore_n 3, 1) := by decide +kernel
theorem d_Law_pass_13 : decode method_17_code 13 = .ok (.iconst 1, 1) := by decide +kernel
theorem d_Law_pass_14 : decode method_17_code 14 = .ok (.ireturn, 1) := by decide +kernel
theorem d_Law_pass_15 : decode method_17_code 15 = .ok (.iconst 0, 1) := by decide +kernel
theorem d_Law_pass_16 : decode method_17_code 16 = .ok (.ireturn, 1) := by decide +kernel
theorem d_RF_pass_0 : decode prog_1_method_16_code 0 = .ok (.iload_n 1, 1) := by decide +kernel
theorem d_RF_pass_1 : decode prog_1_method_16_code 1 = .ok (.ifCond .lt 10, 3) := by decide +kernel
theorem d_RF_pass_4 : decode prog_1_method_16_code 4 = .ok (.iload_n 1, 1) := by decide +kernel
theorem d_RF_pass_5 : decode prog_1_method_16_code 5 = .ok (.sipush 1000, 3) := by decide +kernel
theorem d_RF_pass_8 : decode prog_1_method_16_code 8 = .ok (.if_icmp .le 13, 3) := by decide +kernel
theorem d_RF_pass_11 : decode prog_1_method_16_code 11 = .ok (.new 66, 3) := by decide +kernel
theorem d_RF_pass_14 : decode prog_1_method_16_code 14 = .ok (.dup, 1) := by decide +kernel
theorem d_RF_pass_15 : decode prog_1_method_16_code 15 = .ok (.ldc 205, 2) := by decide +kernel
theorem d_RF_pass_17 : decode prog_1_method_16_code 17 = .ok (.invokespecial 70, 3) := by decide +kernel
theorem d_RF_pass_20 : decode prog_1_method_16_code 20 = .ok (.athrow, 1) := by decide +kernel
theorem d_RF_pass_21 : decode prog_1_method_16_code 21 = .ok (.aload_n 0, 1) := by decide +kernel
theorem d_RF_pass_22 : decode prog_1_method_16_code 22 = .ok (.getfield 158, 3) := by decide +kernel
theorem d_RF_pass_25 : decode prog_1_method_16_code 25 = .ok (.iload_n 1, 1) := by decide +kernel
theorem d_RF_pass_26 : decode prog_1_method_16_code 26 = .ok (.iadd, 1) := by decide +kernel
theorem d_RF_pass_27 : decode prog_1_method_16_code 27 = .ok (.ldc 207, 2) := by decide +kernel
theorem d_RF_pass_29 : decode prog_1_method_16_code 29 = .ok (.if_icmp .le 13, 3) := by decide +kernel
theorem d_RF_pass_32 : decode prog_1_method_16_code 32 = .ok (.new 66, 3) := by decide +kernel
theorem d_RF_pass_35 : decode prog_1_method_16_code 35 = .ok (.dup, 1) := by decide +kernel
theorem d_RF_pass_36 : decode prog_1_method_16_code 36 = .ok (.ldc 208, 2) := by decide +kernel
theorem d_RF_pass_38 : decode prog_1_method_16_code 38 = .ok (.invokespecial 70, 3) := by decide +kernel
theorem d_RF_pass_41 : decode prog_1_method_16_code 41 = .ok (.athrow, 1) := by decide +kernel
theorem d_RF_pass_42 : decode prog_1_method_16_code 42 = .ok (.aload_n 0, 1) := by decide +kernel
theorem d_RF_pass_43 : decode prog_1_method_16_code 43 = .ok (.getfield 158, 3) := by decide +kernel
theorem d_RF_pass_46 : decode prog_1_method_16_code 46 = .ok (.iload_n 1, 1) := by decide +kernel
theorem d_RF_pass_47 : decode prog_1_method_16_code 47 = .ok (.iadd, 1) := by decide +kernel
theorem d_RF_pass_48 : decode prog_1_method_16_code 48 = .ok (.istore_n 2, 1) := by decide +kernel
theorem d_RF_pass_49 : decode prog_1_method_16_code 49 = .ok (.iconst 0, 1) := by decide +kernel
theorem d_RF_pass_50 : decode prog_1_method_16_code 50 = .ok (.istore_n 3, 1) := by decide +kernel
theorem d_RF_pass_51 : decode prog_1_method_16_code 51 = .ok (.iconst 0, 1) := by decide +kernel
theorem d_RF_pass_52 : decode prog_1_method_16_code 52 = .ok (.istore 4, 2) := by decide +kernel
theorem d_RF_pass_54 : decode prog_1_method_16_code 54 = .ok (.iload 4, 2) := by decide +kernel
theorem d_RF_pass_56 : decode prog_1_method_16_code 56 = .ok (.iload_n 1, 1) := by decide +kernel
theorem d_RF_pass_57 : decode prog_1_method_16_code 57 = .ok (.if_icmp .ge 37, 3) := by decide +kernel
theorem d_RF_pass_60 : decode prog_1_method_16_code 60 = .ok (.aload_n 0, 1) := by decide +kernel
theorem d_RF_pass_61 : decode prog_1_method_16_code 61 = .ok (.getfield 158, 3) := by decide +kernel
theorem d_RF_pass_64 : decode prog_1_method_16_code 64 = .ok (.iload_n 2, 1) := by decide +kernel
theorem d_RF_pass_65 : decode prog_1_method_16_code 65 = .ok (.if_icmp .ge 29, 3) := by decide +kernel
theorem d_RF_pass_68 : decode prog_1_method_16_code 68 = .ok (.aload_n 0, 1) := by decide +kernel
theorem d_RF_pass_69 : decode prog_1_method_16_code 69 = .ok (.aload_n 0, 1) := by decide +kernel
theorem d_RF_pass_70 : decode prog_1_method_16_code 70 = .ok (.iload_n 2, 1) := by decide +kernel
theorem d_RF_pass_71 : decode prog_1_method_16_code 71 = .ok (.invokevirtual 210, 3) := by decide +kernel
theorem d_RF_pass_74 : decode prog_1_method_16_code 74 = .ok (.putfield 158, 3) := by decide +kernel
theorem d_RF_pass_77 : decode prog_1_method_16_code 77 = .ok (.aload_n 0, 1) := by decide +kernel
theorem d_RF_pass_78 : decode prog_1_method_16_code 78 = .ok (.invokevirtual 214, 3) := by decide +kernel
theorem d_RF_pass_81 : decode prog_1_method_16_code 81 = .ok (.iload_n 3, 1) := by decide +kernel
theorem d_RF_pass_82 : decode prog_1_method_16_code 82 = .ok (.aload_n 0, 1) := by decide +kernel
theorem d_RF_pass_83 : decode prog_1_method_16_code 83 = .ok (.invokevirtual 217, 3) := by decide +kernel
theorem d_RF_pass_86 : decode prog_1_method_16_code 86 = .ok (.iadd, 1) := by decide +kernel
theorem d_RF_pass_87 : decode prog_1_method_16_code 87 = .ok (.istore_n 3, 1) := by decide +kernel
theorem d_RF_pass_88 : decode prog_1_method_16_code 88 = .ok (.iinc 4 1, 3) := by decide +kernel
theorem d_RF_pass_91 : decode prog_1_method_16_code 91 = .ok (.goto (-37), 3) := by decide +kernel
theorem d_RF_pass_94 : decode prog_1_method_16_code 94 = .ok (.iload_n 3, 1) := by decide +kernel
theorem d_RF_pass_95 : decode prog_1_method_16_code 95 = .ok (.ireturn, 1) := by decide +kernel
theorem d_RF_nextBusySecond_0 : decode prog_1_method_40_code 0 = .ok (.iload_n 1, 1) := by decide +kernel
theorem d_RF_nextBusySecond_1 : decode prog_1_method_40_code 1 = .ok (.istore_n 2, 1) := by decide +kernel
theorem d_RF_nextBusySecond_2 : decode prog_1_method_40_code 2 = .ok (.aload_n 0, 1) := by decide +kernel
theorem d_RF_nextBusySecond_3 : decode prog_1_method_40_code 3 = .ok (.getfield 42, 3) := by decide +kernel
theorem d_RF_nextBusySecond_6 : decode prog_1_method_40_code 6 = .ok (.astore_n 3, 1) := by decide +kernel
theorem d_RF_nextBusySecond_7 : decode prog_1_method_40_code 7 = .ok (.aload_n 3, 1) := by decide +kernel
theorem d_RF_nextBusySecond_8 : decode prog_1_method_40_code 8 = .ok (.arraylength, 1) := by decide +kernel
theorem d_RF_nextBusySecond_9 : decode prog_1_method_40_code 9 = .ok (.istore 4, 2) := by decide +kernel
theorem d_RF_nextBusySecond_11 : decode prog_1_method_40_code 11 = .ok (.iconst 0, 1) := by decide +kernel
theorem d_RF_nextBusySecond_12 : decode prog_1_method_40_code 12 = .ok (.istore 5, 2) := by decide +kernel
theorem d_RF_nextBusySecond_14 : decode prog_1_method_40_code 14 = .ok (.iload 5, 2) := by decide +kernel
theorem d_RF_nextBusySecond_16 : decode prog_1_method_40_code 16 = .ok (.iload 4, 2) := by decide +kernel
theorem d_RF_nextBusySecond_18 : decode prog_1_method_40_code 18 = .ok (.if_icmp .ge 30, 3) := by decide +kernel
theorem d_RF_nextBusySecond_21 : decode prog_1_method_40_code 21 = .ok (.aload_n 3, 1) := by decide +kernel
theorem d_RF_nextBusySecond_22 : decode prog_1_method_40_code 22 = .ok (.iload 5, 2) := by decide +kernel
theorem d_RF_nextBusySecond_24 : decode prog_1_method_40_code 24 = .ok (.aaload, 1) := by decide +kernel
theorem d_RF_nextBusySecond_25 : decode prog_1_method_40_code 25 = .ok (.astore 6, 2) := by decide +kernel
theorem d_RF_nextBusySecond_27 : decode prog_1_method_40_code 27 = .ok (.aload 6, 2) := by decide +kernel
theorem d_RF_nextBusySecond_29 : decode prog_1_method_40_code 29 = .ok (.ifnull 13, 3) := by decide +kernel
theorem d_RF_nextBusySecond_32 : decode prog_1_method_40_code 32 = .ok (.iload_n 2, 1) := by decide +kernel
theorem d_RF_nextBusySecond_33 : decode prog_1_method_40_code 33 = .ok (.aload 6, 2) := by decide +kernel
theorem d_RF_nextBusySecond_35 : decode prog_1_method_40_code 35 = .ok (.getfield 363, 3) := by decide +kernel
theorem d_RF_nextBusySecond_38 : decode prog_1_method_40_code 38 = .ok (.invokestatic 364, 3) := by decide +kernel
theorem d_RF_nextBusySecond_41 : decode prog_1_method_40_code 41 = .ok (.istore_n 2, 1) := by decide +kernel
theorem d_RF_nextBusySecond_42 : decode prog_1_method_40_code 42 = .ok (.iinc 5 1, 3) := by decide +kernel
theorem d_RF_nextBusySecond_45 : decode prog_1_method_40_code 45 = .ok (.goto (-31), 3) := by decide +kernel
theorem d_RF_nextBusySecond_48 : decode prog_1_method_40_code 48 = .ok (.aload_n 0, 1) := by decide +kernel
theorem d_RF_nextBusySecond_49 : decode prog_1_method_40_code 49 = .ok (.getfield 36, 3) := by decide +kernel
theorem d_RF_nextBusySecond_52 : decode prog_1_method_40_code 52 = .ok (.astore_n 3, 1) := by decide +kernel
theorem d_RF_nextBusySecond_53 : decode prog_1_method_40_code 53 = .ok (.aload_n 3, 1) := by decide +kernel
theorem d_RF_nextBusySecond_54 : decode prog_1_method_40_code 54 = .ok (.arraylength, 1) := by decide +kernel
theorem d_RF_nextBusySecond_55 : decode prog_1_method_40_code 55 = .ok (.istore 4, 2) := by decide +kernel
theorem d_RF_nextBusySecond_57 : decode prog_1_method_40_code 57 = .ok (.iconst 0, 1) := by decide +kernel
theorem d_RF_nextBusySecond_58 : decode prog_1_method_40_code 58 = .ok (.istore 5, 2) := by decide +kernel
theorem d_RF_nextBusySecond_60 : decode prog_1_method_40_code 60 = .ok (.iload 5, 2) := by decide +kernel
theorem d_RF_nextBusySecond_62 : decode prog_1_method_40_code 62 = .ok (.iload 4, 2) := by decide +kernel
theorem d_RF_nextBusySecond_64 : decode prog_1_method_40_code 64 = .ok (.if_icmp .ge 42, 3) := by decide +kernel
theorem d_RF_nextBusySecond_67 : decode prog_1_method_40_code 67 = .ok (.aload_n 3, 1) := by decide +kernel
theorem d_RF_nextBusySecond_68 : decode prog_1_method_40_code 68 = .ok (.iload 5, 2) := by decide +kernel
theorem d_RF_nextBusySecond_70 : decode prog_1_method_40_code 70 = .ok (.aaload, 1) := by decide +kernel
theorem d_RF_nextBusySecond_71 : decode prog_1_method_40_code 71 = .ok (.astore 6, 2) := by decide +kernel
theorem d_RF_nextBusySecond_73 : decode prog_1_method_40_code 73 = .ok (.aload 6, 2) := by decide +kernel
theorem d_RF_nextBusySecond_75 : decode prog_1_method_40_code 75 = .ok (.ifnull 25, 3) := by decide +kernel
theorem d_RF_nextBusySecond_78 : decode prog_1_method_40_code 78 = .ok (.aload 6, 2) := by decide +kernel
theorem d_RF_nextBusySecond_80 : decode prog_1_method_40_code 80 = .ok (.invokevirtual 369, 3) := by decide +kernel
theorem d_RF_nextBusySecond_83 : decode prog_1_method_40_code 83 = .ok (.ifCond .eq 17, 3) := by decide +kernel
theorem d_RF_nextBusySecond_86 : decode prog_1_method_40_code 86 = .ok (.iload_n 2, 1) := by decide +kernel
theorem d_RF_nextBusySecond_87 : decode prog_1_method_40_code 87 = .ok (.aload 6, 2) := by decide +kernel
theorem d_RF_nextBusySecond_89 : decode prog_1_method_40_code 89 = .ok (.aload_n 0, 1) := by decide +kernel
theorem d_RF_nextBusySecond_90 : decode prog_1_method_40_code 90 = .ok (.getfield 158, 3) := by decide +kernel
theorem d_RF_nextBusySecond_93 : decode prog_1_method_40_code 93 = .ok (.invokevirtual 372, 3) := by decide +kernel
theorem d_RF_nextBusySecond_96 : decode prog_1_method_40_code 96 = .ok (.invokestatic 364, 3) := by decide +kernel
theorem d_RF_nextBusySecond_99 : decode prog_1_method_40_code 99 = .ok (.istore_n 2, 1) := by decide +kernel
theorem d_RF_nextBusySecond_100 : decode prog_1_method_40_code 100 = .ok (.iinc 5 1, 3) := by decide +kernel
theorem d_RF_nextBusySecond_103 : decode prog_1_method_40_code 103 = .ok (.goto (-43), 3) := by decide +kernel
theorem d_RF_nextBusySecond_106 : decode prog_1_method_40_code 106 = .ok (.iload_n 2, 1) := by decide +kernel
theorem d_RF_nextBusySecond_107 : decode prog_1_method_40_code 107 = .ok (.ireturn, 1) := by decide +kernel
theorem d_Math_min_0 : decode prog_14_method_69_code 0 = .ok (.iload_n 0, 1) := by decide +kernel
theorem d_Math_min_1 : decode prog_14_method_69_code 1 = .ok (.iload_n 1, 1) := by decide +kernel
theorem d_Math_min_2 : decode prog_14_method_69_code 2 = .ok (.if_icmp .gt 7, 3) := by decide +kernel
theorem d_Math_min_5 : decode prog_14_method_69_code 5 = .ok (.iload_n 0, 1) := by decide +kernel
theorem d_Math_min_6 : decode prog_14_method_69_code 6 = .ok (.goto 4, 3) := by decide +kernel
theorem d_Math_min_9 : decode prog_14_method_69_code 9 = .ok (.iload_n 1, 1) := by decide +kernel
theorem d_Math_min_10 : decode prog_14_method_69_code 10 = .ok (.ireturn, 1) := by decide +kernel
theorem d_Alarm_canRise_0 : decode prog_2_method_4_code 0 = .ok (.aload_n 0, 1) := by decide +kernel
theorem d_Alarm_canRise_1 : decode prog_2_method_4_code 1 = .ok (.invokevirtual 42, 3) := by decide +kernel
theorem d_Alarm_canRise_4 : decode prog_2_method_4_code 4 = .ok (.ifCond .ne 25, 3) := by decide +kernel
theorem d_Alarm_canRise_7 : decode prog_2_method_4_code 7 = .ok (.aload_n 0, 1) := by decide +kernel
theorem d_Alarm_canRise_8 : decode prog_2_method_4_code 8 = .ok (.getfield 38, 3) := by decide +kernel
theorem d_Alarm_canRise_11 : decode prog_2_method_4_code 11 = .ok (.invokevirtual 46, 3) := by decide +kernel
theorem d_Alarm_canRise_14 : decode prog_2_method_4_code 14 = .ok (.ifCond .eq 15, 3) := by decide +kernel
theorem d_Alarm_canRise_17 : decode prog_2_method_4_code 17 = .ok (.aload_n 0, 1) := by decide +kernel
theorem d_Alarm_canRise_18 : decode prog_2_method_4_code 18 = .ok (.getfield 9, 3) := by decide +kernel
theorem d_Alarm_canRise_21 : decode prog_2_method_4_code 21 = .ok (.iconst 3, 1) := by decide +kernel
theorem d_Alarm_canRise_22 : decode prog_2_method_4_code 22 = .ok (.if_icmp .ge 7, 3) := by decide +kernel
theorem d_Alarm_canRise_25 : decode prog_2_method_4_code 25 = .ok (.iconst 1, 1) := by decide +kernel
theorem d_Alarm_canRise_26 : decode prog_2_method_4_code 26 = .ok (.goto 4, 3) := by decide +kernel
theorem d_Alarm_canRise_29 : decode prog_2_method_4_code 29 = .ok (.iconst 0, 1) := by decide +kernel
theorem d_Alarm_canRise_30 : decode prog_2_method_4_code 30 = .ok (.ireturn, 1) := by decide +kernel
theorem d_Alarm_nextRise_0 : decode prog_2_method_6_code 0 = .ok (.iload_n 1, 1) := by decide +kernel
theorem d_Alarm_nextRise_1 : decode prog_2_method_6_code 1 = .ok (.aload_n 0, 1) := by decide +kernel
theorem d_Alarm_nextRise_2 : decode prog_2_method_6_code 2 = .ok (.getfield 38, 3) := by decide +kernel
theorem d_Alarm_nextRise_5 : decode prog_2_method_6_code 5 = .ok (.getfield 49, 3) := by decide +kernel
theorem d_Alarm_nextRise_8 : decode prog_2_method_6_code 8 = .ok (.isub, 1) := by decide +kernel
theorem d_Alarm_nextRise_9 : decode prog_2_method_6_code 9 = .ok (.bipush 30, 2) := by decide +kernel
theorem d_Alarm_nextRise_11 : decode prog_2_method_6_code 11 = .ok (.idiv, 1) := by decide +kernel
theorem d_Alarm_nextRise_12 : decode prog_2_method_6_code 12 = .ok (.iconst 1, 1) := by decide +kernel
theorem d_Alarm_nextRise_13 : decode prog_2_method_6_code 13 = .ok (.iadd, 1) := by decide +kernel
theorem d_Alarm_nextRise_14 : decode prog_2_method_6_code 14 = .ok (.istore_n 2, 1) := by decide +kernel
theorem d_Alarm_nextRise_15 : decode prog_2_method_6_code 15 = .ok (.aload_n 0, 1) := by decide +kernel
theorem d_Alarm_nextRise_16 : decode prog_2_method_6_code 16 = .ok (.getfield 38, 3) := by decide +kernel
theorem d_Alarm_nextRise_19 : decode prog_2_method_6_code 19 = .ok (.getfield 49, 3) := by decide +kernel
theorem d_Alarm_nextRise_22 : decode prog_2_method_6_code 22 = .ok (.iload_n 2, 1) := by decide +kernel
theorem d_Alarm_nextRise_23 : decode prog_2_method_6_code 23 = .ok (.bipush 30, 2) := by decide +kernel
theorem d_Alarm_nextRise_25 : decode prog_2_method_6_code 25 = .ok (.imul, 1) := by decide +kernel
theorem d_Alarm_nextRise_26 : decode prog_2_method_6_code 26 = .ok (.iadd, 1) := by decide +kernel
theorem d_Alarm_nextRise_27 : decode prog_2_method_6_code 27 = .ok (.ireturn, 1) := by decide +kernel
theorem d_RF_letPlantedCome_0 : decode prog_1_method_41_code 0 = .ok (.iconst 0, 1) := by decide +kernel
theorem d_RF_letPlantedCome_1 : decode prog_1_method_41_code 1 = .ok (.istore_n 1, 1) := by decide +kernel
theorem d_RF_letPlantedCome_2 : decode prog_1_method_41_code 2 = .ok (.iconst 0, 1) := by decide +kernel
theorem d_RF_letPlantedCome_3 : decode prog_1_method_41_code 3 = .ok (.istore_n 2, 1) := by decide +kernel
theorem d_RF_letPlantedCome_4 : decode prog_1_method_41_code 4 = .ok (.iload_n 2, 1) := by decide +kernel
theorem d_RF_letPlantedCome_5 : decode prog_1_method_41_code 5 = .ok (.aload_n 0, 1) := by decide +kernel
theorem d_RF_letPlantedCome_6 : decode prog_1_method_41_code 6 = .ok (.getfield 42, 3) := by decide +kernel
theorem d_RF_letPlantedCome_9 : decode prog_1_method_41_code 9 = .ok (.arraylength, 1) := by decide +kernel
theorem d_RF_letPlantedCome_10 : decode prog_1_method_41_code 10 = .ok (.if_icmp .ge 60, 3) := by decide +kernel
theorem d_RF_letPlantedCome_13 : decode prog_1_method_41_code 13 = .ok (.aload_n 0, 1) := by decide +kernel
theorem d_RF_letPlantedCome_14 : decode prog_1_method_41_code 14 = .ok (.getfield 42, 3) := by decide +kernel
theorem d_RF_letPlantedCome_17 : decode prog_1_method_41_code 17 = .ok (.iload_n 2, 1) := by decide +kernel
theorem d_RF_letPlantedCome_18 : decode prog_1_method_41_code 18 = .ok (.aaload, 1) := by decide +kernel
theorem d_RF_letPlantedCome_19 : decode prog_1_method_41_code 19 = .ok (.astore_n 3, 1) := by decide +kernel
theorem d_RF_letPlantedCome_20 : decode prog_1_method_41_code 20 = .ok (.aload_n 0, 1) := by decide +kernel
theorem d_RF_letPlantedCome_21 : decode prog_1_method_41_code 21 = .ok (.getfield 42, 3) := by decide +kernel
theorem d_RF_letPlantedCome_24 : decode prog_1_method_41_code 24 = .ok (.iload_n 2, 1) := by decide +kernel
theorem d_RF_letPlantedCome_25 : decode prog_1_method_41_code 25 = .ok (.aconst_null, 1) := by decide +kernel
theorem d_RF_letPlantedCome_26 : decode prog_1_method_41_code 26 = .ok (.aastore, 1) := by decide +kernel
theorem d_RF_letPlantedCome_27 : decode prog_1_method_41_code 27 = .ok (.aload_n 3, 1) := by decide +kernel
theorem d_RF_letPlantedCome_28 : decode prog_1_method_41_code 28 = .ok (.ifnull 22, 3) := by decide +kernel
theorem d_RF_letPlantedCome_31 : decode prog_1_method_41_code 31 = .ok (.aload_n 3, 1) := by decide +kernel
theorem d_RF_letPlantedCome_32 : decode prog_1_method_41_code 32 = .ok (.getfield 363, 3) := by decide +kernel
theorem d_RF_letPlantedCome_35 : decode prog_1_method_41_code 35 = .ok (.aload_n 0, 1) := by decide +kernel
theorem d_RF_letPlantedCome_36 : decode prog_1_method_41_code 36 = .ok (.getfield 158, 3) := by decide +kernel
theorem d_RF_letPlantedCome_39 : decode prog_1_method_41_code 39 = .ok (.if_icmp .gt 11, 3) := by decide +kernel
theorem d_RF_letPlantedCome_42 : decode prog_1_method_41_code 42 = .ok (.aload_n 0, 1) := by decide +kernel
theorem d_RF_letPlantedCome_43 : decode prog_1_method_41_code 43 = .ok (.aload_n 3, 1) := by decide +kernel
theorem d_RF_letPlantedCome_44 : decode prog_1_method_41_code 44 = .ok (.invokevirtual 375, 3) := by decide +kernel
theorem d_RF_letPlantedCome_47 : decode prog_1_method_41_code 47 = .ok (.goto 17, 3) := by decide +kernel
theorem d_RF_letPlantedCome_50 : decode prog_1_method_41_code 50 = .ok (.aload_n 3, 1) := by decide +kernel
theorem d_RF_letPlantedCome_51 : decode prog_1_method_41_code 51 = .ok (.ifnull 13, 3) := by decide +kernel
theorem d_RF_letPlantedCome_54 : decode prog_1_method_41_code 54 = .ok (.aload_n 0, 1) := by decide +kernel
theorem d_RF_letPlantedCome_55 : decode prog_1_method_41_code 55 = .ok (.getfield 42, 3) := by decide +kernel
theorem d_RF_letPlantedCome_58 : decode prog_1_method_41_code 58 = .ok (.iload_n 1, 1) := by decide +kernel
theorem d_RF_letPlantedCome_59 : decode prog_1_method_41_code 59 = .ok (.aload_n 3, 1) := by decide +kernel
theorem d_RF_letPlantedCome_60 : decode prog_1_method_41_code 60 = .ok (.aastore, 1) := by decide +kernel
theorem d_RF_letPlantedCome_61 : decode prog_1_method_41_code 61 = .ok (.iinc 1 1, 3) := by decide +kernel
theorem d_RF_letPlantedCome_64 : decode prog_1_method_41_code 64 = .ok (.iinc 2 1, 3) := by decide +kernel
theorem d_RF_letPlantedCome_67 : decode prog_1_method_41_code 67 = .ok (.goto (-63), 3) := by decide +kernel
theorem d_RF_letPlantedCome_70 : decode prog_1_method_41_code 70 = .ok (.aload_n 0, 1) := by decide +kernel
theorem d_RF_letPlantedCome_71 : decode prog_1_method_41_code 71 = .ok (.iload_n 1, 1) := by decide +kernel
theorem d_RF_letPlantedCome_72 : decode prog_1_method_41_code 72 = .ok (.putfield 197, 3) := by decide +kernel
theorem d_RF_letPlantedCome_75 : decode prog_1_method_41_code 75 = .ok (.return_, 1) := by decide +kernel
theorem d_RF_bring_0 : decode prog_1_method_42_code 0 = .ok (.aload_n 1, 1) := by decide +kernel
theorem d_RF_bring_1 : decode prog_1_method_42_code 1 = .ok (.getfield 379, 3) := by decide +kernel
theorem d_RF_bring_4 : decode prog_1_method_42_code 4 = .ok (.aload_n 1, 1) := by decide +kernel
theorem d_RF_bring_5 : decode prog_1_method_42_code 5 = .ok (.getfield 380, 3) := by decide +kernel
theorem d_RF_bring_8 : decode prog_1_method_42_code 8 = .ok (.invokestatic 125, 3) := by decide +kernel
theorem d_RF_bring_11 : decode prog_1_method_42_code 11 = .ok (.ifCond .ne 24, 3) := by decide +kernel
theorem d_RF_bring_14 : decode prog_1_method_42_code 14 = .ok (.aload_n 0, 1) := by decide +kernel
theorem d_RF_bring_15 : decode prog_1_method_42_code 15 = .ok (.invokevirtual 131, 3) := by decide +kernel
theorem d_RF_bring_18 : decode prog_1_method_42_code 18 = .ok (.ifCond .eq 17, 3) := by decide +kernel
theorem d_RF_bring_21 : decode prog_1_method_42_code 21 = .ok (.aload_n 0, 1) := by decide +kernel
theorem d_RF_bring_22 : decode prog_1_method_42_code 22 = .ok (.aload_n 1, 1) := by decide +kernel
theorem d_RF_bring_23 : decode prog_1_method_42_code 23 = .ok (.getfield 379, 3) := by decide +kernel
theorem d_RF_bring_26 : decode prog_1_method_42_code 26 = .ok (.aload_n 1, 1) := by decide +kernel
theorem d_RF_bring_27 : decode prog_1_method_42_code 27 = .ok (.getfield 380, 3) := by decide +kernel
theorem d_RF_bring_30 : decode prog_1_method_42_code 30 = .ok (.iconst 1, 1) := by decide +kernel
theorem d_RF_bring_31 : decode prog_1_method_42_code 31 = .ok (.invokevirtual 136, 3) := by decide +kernel
theorem d_RF_bring_34 : decode prog_1_method_42_code 34 = .ok (.pop, 1) := by decide +kernel
theorem d_RF_bring_35 : decode prog_1_method_42_code 35 = .ok (.return_, 1) := by decide +kernel
theorem d_RF_raiseAlarms_0 : decode prog_1_method_43_code 0 = .ok (.iconst 0, 1) := by decide +kernel
theorem d_RF_raiseAlarms_1 : decode prog_1_method_43_code 1 = .ok (.istore_n 1, 1) := by decide +kernel
theorem d_RF_raiseAlarms_2 : decode prog_1_method_43_code 2 = .ok (.aload_n 0, 1) := by decide +kernel
theorem d_RF_raiseAlarms_3 : decode prog_1_method_43_code 3 = .ok (.getfield 36, 3) := by decide +kernel
theorem d_RF_raiseAlarms_6 : decode prog_1_method_43_code 6 = .ok (.astore_n 2, 1) := by decide +kernel
theorem d_RF_raiseAlarms_7 : decode prog_1_method_43_code 7 = .ok (.aload_n 2, 1) := by decide +kernel
theorem d_RF_raiseAlarms_8 : decode prog_1_method_43_code 8 = .ok (.arraylength, 1) := by decide +kernel
theorem d_RF_raiseAlarms_9 : decode prog_1_method_43_code 9 = .ok (.istore_n 3, 1) := by decide +kernel
theorem d_RF_raiseAlarms_10 : decode prog_1_method_43_code 10 = .ok (.iconst 0, 1) := by decide +kernel
theorem d_RF_raiseAlarms_11 : decode prog_1_method_43_code 11 = .ok (.istore 4, 2) := by decide +kernel
theorem d_RF_raiseAlarms_13 : decode prog_1_method_43_code 13 = .ok (.iload 4, 2) := by decide +kernel
theorem d_RF_raiseAlarms_15 : decode prog_1_method_43_code 15 = .ok (.iload_n 3, 1) := by decide +kernel
theorem d_RF_raiseAlarms_16 : decode prog_1_method_43_code 16 = .ok (.if_icmp .ge 54, 3) := by decide +kernel
theorem d_RF_raiseAlarms_19 : decode prog_1_method_43_code 19 = .ok (.aload_n 2, 1) := by decide +kernel
theorem d_RF_raiseAlarms_20 : decode prog_1_method_43_code 20 = .ok (.iload 4, 2) := by decide +kernel
theorem d_RF_raiseAlarms_22 : decode prog_1_method_43_code 22 = .ok (.aaload, 1) := by decide +kernel
theorem d_RF_raiseAlarms_23 : decode prog_1_method_43_code 23 = .ok (.astore 5, 2) := by decide +kernel
theorem d_RF_raiseAlarms_25 : decode prog_1_method_43_code 25 = .ok (.aload 5, 2) := by decide +kernel
theorem d_RF_raiseAlarms_27 : decode prog_1_method_43_code 27 = .ok (.ifnull 37, 3) := by decide +kernel
theorem d_RF_raiseAlarms_30 : decode prog_1_method_43_code 30 = .ok (.aload 5, 2) := by decide +kernel
theorem d_RF_raiseAlarms_32 : decode prog_1_method_43_code 32 = .ok (.invokevirtual 369, 3) := by decide +kernel
theorem d_RF_raiseAlarms_35 : decode prog_1_method_43_code 35 = .ok (.ifCond .eq 29, 3) := by decide +kernel
theorem d_RF_raiseAlarms_38 : decode prog_1_method_43_code 38 = .ok (.aload 5, 2) := by decide +kernel
theorem d_RF_raiseAlarms_40 : decode prog_1_method_43_code 40 = .ok (.aload_n 0, 1) := by decide +kernel
theorem d_RF_raiseAlarms_41 : decode prog_1_method_43_code 41 = .ok (.getfield 158, 3) := by decide +kernel
theorem d_RF_raiseAlarms_44 : decode prog_1_method_43_code 44 = .ok (.invokevirtual 381, 3) := by decide +kernel
theorem d_RF_raiseAlarms_47 : decode prog_1_method_43_code 47 = .ok (.ifCond .eq 17, 3) := by decide +kernel
theorem d_RF_raiseAlarms_50 : decode prog_1_method_43_code 50 = .ok (.aload 5, 2) := by decide +kernel
theorem d_RF_raiseAlarms_52 : decode prog_1_method_43_code 52 = .ok (.dup, 1) := by decide +kernel
theorem d_RF_raiseAlarms_53 : decode prog_1_method_43_code 53 = .ok (.getfield 232, 3) := by decide +kernel
theorem d_RF_raiseAlarms_56 : decode prog_1_method_43_code 56 = .ok (.iconst 1, 1) := by decide +kernel
theorem d_RF_raiseAlarms_57 : decode prog_1_method_43_code 57 = .ok (.iadd, 1) := by decide +kernel
theorem d_RF_raiseAlarms_58 : decode prog_1_method_43_code 58 = .ok (.putfield 232, 3) := by decide +kernel
theorem d_RF_raiseAlarms_61 : decode prog_1_method_43_code 61 = .ok (.iinc 1 1, 3) := by decide +kernel
theorem d_RF_raiseAlarms_64 : decode prog_1_method_43_code 64 = .ok (.iinc 4 1, 3) := by decide +kernel
theorem d_RF_raiseAlarms_67 : decode prog_1_method_43_code 67 = .ok (.goto (-54), 3) := by decide +kernel
theorem d_RF_raiseAlarms_70 : decode prog_1_method_43_code 70 = .ok (.iload_n 1, 1) := by decide +kernel
theorem d_RF_raiseAlarms_71 : decode prog_1_method_43_code 71 = .ok (.ireturn, 1) := by decide +kernel
theorem d_Alarm_isRiseSecond_0 : decode prog_2_method_5_code 0 = .ok (.iload_n 1, 1) := by decide +kernel
theorem d_Alarm_isRiseSecond_1 : decode prog_2_method_5_code 1 = .ok (.aload_n 0, 1) := by decide +kernel
theorem d_Alarm_isRiseSecond_2 : decode prog_2_method_5_code 2 = .ok (.getfield 38, 3) := by decide +kernel
theorem d_Alarm_isRiseSecond_5 : decode prog_2_method_5_code 5 = .ok (.getfield 49, 3) := by decide +kernel
theorem d_Alarm_isRiseSecond_8 : decode prog_2_method_5_code 8 = .ok (.if_icmp .le 22, 3) := by decide +kernel
theorem d_Alarm_isRiseSecond_11 : decode prog_2_method_5_code 11 = .ok (.iload_n 1, 1) := by decide +kernel
theorem d_Alarm_isRiseSecond_12 : decode prog_2_method_5_code 12 = .ok (.aload_n 0, 1) := by decide +kernel
theorem d_Alarm_isRiseSecond_13 : decode prog_2_method_5_code 13 = .ok (.getfield 38, 3) := by decide +kernel
theorem d_Alarm_isRiseSecond_16 : decode prog_2_method_5_code 16 = .ok (.getfield 49, 3) := by decide +kernel
theorem d_Alarm_isRiseSecond_19 : decode prog_2_method_5_code 19 = .ok (.isub, 1) := by decide +kernel
theorem d_Alarm_isRiseSecond_20 : decode prog_2_method_5_code 20 = .ok (.bipush 30, 2) := by decide +kernel
theorem d_Alarm_isRiseSecond_22 : decode prog_2_method_5_code 22 = .ok (.irem, 1) := by decide +kernel
theorem d_Alarm_isRiseSecond_23 : decode prog_2_method_5_code 23 = .ok (.ifCond .ne 7, 3) := by decide +kernel
theorem d_Alarm_isRiseSecond_26 : decode prog_2_method_5_code 26 = .ok (.iconst 1, 1) := by decide +kernel
theorem d_Alarm_isRiseSecond_27 : decode prog_2_method_5_code 27 = .ok (.goto 4, 3) := by decide +kernel
theorem d_Alarm_isRiseSecond_30 : decode prog_2_method_5_code 30 = .ok (.iconst 0, 1) := by decide +kernel
theorem d_Alarm_isRiseSecond_31 : decode prog_2_method_5_code 31 = .ok (.ireturn, 1) := by decide +kernel
theorem d_Law_acknowledge_0 : decode method_18_code 0 = .ok (.aload_n 3, 1) := by decide +kernel
theorem d_Law_acknowledge_1 : decode method_18_code 1 = .ok (.iconst 0, 1) := by decide +kernel
theorem d_Law_acknowledge_2 : decode method_18_code 2 = .ok (.aload_n 0, 1) := by decide +kernel
theorem d_Law_acknowledge_3 : decode method_18_code 3 = .ok (.iload_n 1, 1) := by decide +kernel
theorem d_Law_acknowledge_4 : decode method_18_code 4 = .ok (.iload_n 2, 1) := by decide +kernel
theorem d_Law_acknowledge_5 : decode method_18_code 5 = .ok (.invokevirtual 69, 3) := by decide +kernel
theorem d_Law_acknowledge_8 : decode method_18_code 8 = .ok (.i2l, 1) := by decide +kernel
theorem d_Law_acknowledge_9 : decode method_18_code 9 = .ok (.lastore, 1) := by decide +kernel
theorem d_Law_acknowledge_10 : decode method_18_code 10 = .ok (.goto 15, 3) := by decide +kernel
theorem d_Law_acknowledge_13 : decode method_18_code 13 = .ok (.astore 4, 2) := by decide +kernel
theorem d_Law_acknowledge_15 : decode method_18_code 15 = .ok (.iconst 1, 1) := by decide +kernel
theorem d_Law_acknowledge_16 : decode method_18_code 16 = .ok (.ireturn, 1) := by decide +kernel
theorem d_Law_acknowledge_17 : decode method_18_code 17 = .ok (.astore 4, 2) := by decide +kernel
theorem d_Law_acknowledge_19 : decode method_18_code 19 = .ok (.iconst 2, 1) := by decide +kernel
theorem d_Law_acknowledge_20 : decode method_18_code 20 = .ok (.ireturn, 1) := by decide +kernel
theorem d_Law_acknowledge_21 : decode method_18_code 21 = .ok (.astore 4, 2) := by decide +kernel
theorem d_Law_acknowledge_23 : decode method_18_code 23 = .ok (.iconst 3, 1) := by decide +kernel
theorem d_Law_acknowledge_24 : decode method_18_code 24 = .ok (.ireturn, 1) := by decide +kernel
theorem d_Law_acknowledge_25 : decode method_18_code 25 = .ok (.iconst 0, 1) := by decide +kernel
theorem d_Law_acknowledge_26 : decode method_18_code 26 = .ok (.ireturn, 1) := by decide +kernel
theorem d_RF_acknowledge_0 : decode prog_1_method_17_code 0 = .ok (.aload_n 0, 1) := by decide +kernel
theorem d_RF_acknowledge_1 : decode prog_1_method_17_code 1 = .ok (.iload_n 1, 1) := by decide +kernel
theorem d_RF_acknowledge_2 : decode prog_1_method_17_code 2 = .ok (.invokevirtual 220, 3) := by decide +kernel
theorem d_RF_acknowledge_5 : decode prog_1_method_17_code 5 = .ok (.astore_n 3, 1) := by decide +kernel
theorem d_RF_acknowledge_6 : decode prog_1_method_17_code 6 = .ok (.iload_n 2, 1) := by decide +kernel
theorem d_RF_acknowledge_7 : decode prog_1_method_17_code 7 = .ok (.invokestatic 144, 3) := by decide +kernel
theorem d_RF_acknowledge_10 : decode prog_1_method_17_code 10 = .ok (.aload_n 3, 1) := by decide +kernel
theorem d_RF_acknowledge_11 : decode prog_1_method_17_code 11 = .ok (.invokevirtual 224, 3) := by decide +kernel
theorem d_RF_acknowledge_14 : decode prog_1_method_17_code 14 = .ok (.ifCond .eq 13, 3) := by decide +kernel
theorem d_RF_acknowledge_17 : decode prog_1_method_17_code 17 = .ok (.new 104, 3) := by decide +kernel
theorem d_RF_acknowledge_20 : decode prog_1_method_17_code 20 = .ok (.dup, 1) := by decide +kernel
theorem d_RF_acknowledge_21 : decode prog_1_method_17_code 21 = .ok (.ldc 227, 2) := by decide +kernel
theorem d_RF_acknowledge_23 : decode prog_1_method_17_code 23 = .ok (.invokespecial 108, 3) := by decide +kernel
theorem d_RF_acknowledge_26 : decode prog_1_method_17_code 26 = .ok (.athrow, 1) := by decide +kernel
theorem d_RF_acknowledge_27 : decode prog_1_method_17_code 27 = .ok (.aload_n 3, 1) := by decide +kernel
theorem d_RF_acknowledge_28 : decode prog_1_method_17_code 28 = .ok (.iload_n 2, 1) := by decide +kernel
theorem d_RF_acknowledge_29 : decode prog_1_method_17_code 29 = .ok (.putfield 229, 3) := by decide +kernel
theorem d_RF_acknowledge_32 : decode prog_1_method_17_code 32 = .ok (.aload_n 3, 1) := by decide +kernel
theorem d_RF_acknowledge_33 : decode prog_1_method_17_code 33 = .ok (.getfield 232, 3) := by decide +kernel
theorem d_RF_acknowledge_36 : decode prog_1_method_17_code 36 = .ok (.ireturn, 1) := by decide +kernel
theorem d_RF_alarmAt_0 : decode prog_1_method_26_code 0 = .ok (.iload_n 1, 1) := by decide +kernel
theorem d_RF_alarmAt_1 : decode prog_1_method_26_code 1 = .ok (.ifCond .lt 21, 3) := by decide +kernel
theorem d_RF_alarmAt_4 : decode prog_1_method_26_code 4 = .ok (.iload_n 1, 1) := by decide +kernel
theorem d_RF_alarmAt_5 : decode prog_1_method_26_code 5 = .ok (.aload_n 0, 1) := by decide +kernel
theorem d_RF_alarmAt_6 : decode prog_1_method_26_code 6 = .ok (.getfield 36, 3) := by decide +kernel
theorem d_RF_alarmAt_9 : decode prog_1_method_26_code 9 = .ok (.arraylength, 1) := by decide +kernel
theorem d_RF_alarmAt_10 : decode prog_1_method_26_code 10 = .ok (.if_icmp .ge 12, 3) := by decide +kernel
theorem d_RF_alarmAt_13 : decode prog_1_method_26_code 13 = .ok (.aload_n 0, 1) := by decide +kernel
theorem d_RF_alarmAt_14 : decode prog_1_method_26_code 14 = .ok (.getfield 36, 3) := by decide +kernel
theorem d_RF_alarmAt_17 : decode prog_1_method_26_code 17 = .ok (.iload_n 1, 1) := by decide +kernel
theorem d_RF_alarmAt_18 : decode prog_1_method_26_code 18 = .ok (.aaload, 1) := by decide +kernel
theorem d_RF_alarmAt_19 : decode prog_1_method_26_code 19 = .ok (.goto 4, 3) := by decide +kernel
theorem d_RF_alarmAt_22 : decode prog_1_method_26_code 22 = .ok (.aconst_null, 1) := by decide +kernel
theorem d_RF_alarmAt_23 : decode prog_1_method_26_code 23 = .ok (.astore_n 2, 1) := by decide +kernel
theorem d_RF_alarmAt_24 : decode prog_1_method_26_code 24 = .ok (.aload_n 2, 1) := by decide +kernel
theorem d_RF_alarmAt_25 : decode prog_1_method_26_code 25 = .ok (.ifnonnull 14, 3) := by decide +kernel
theorem d_RF_alarmAt_28 : decode prog_1_method_26_code 28 = .ok (.new 302, 3) := by decide +kernel
theorem d_RF_alarmAt_31 : decode prog_1_method_26_code 31 = .ok (.dup, 1) := by decide +kernel
theorem d_RF_alarmAt_32 : decode prog_1_method_26_code 32 = .ok (.ldc_w 311, 3) := by decide +kernel
theorem d_RF_alarmAt_35 : decode prog_1_method_26_code 35 = .ok (.invokespecial 306, 3) := by decide +kernel
theorem d_RF_alarmAt_38 : decode prog_1_method_26_code 38 = .ok (.athrow, 1) := by decide +kernel
theorem d_RF_alarmAt_39 : decode prog_1_method_26_code 39 = .ok (.aload_n 2, 1) := by decide +kernel
theorem d_RF_alarmAt_40 : decode prog_1_method_26_code 40 = .ok (.areturn, 1) := by decide +kernel
theorem d_Law_alarm_0 : decode method_19_code 0 = .ok (.aload_n 3, 1) := by decide +kernel
theorem d_Law_alarm_1 : decode method_19_code 1 = .ok (.iconst 0, 1) := by decide +kernel
theorem d_Law_alarm_2 : decode method_19_code 2 = .ok (.aload_n 0, 1) := by decide +kernel
theorem d_Law_alarm_3 : decode method_19_code 3 = .ok (.iload_n 1, 1) := by decide +kernel
theorem d_Law_alarm_4 : decode method_19_code 4 = .ok (.iload_n 2, 1) := by decide +kernel
theorem d_Law_alarm_5 : decode method_19_code 5 = .ok (.invokevirtual 72, 3) := by decide +kernel
theorem d_Law_alarm_8 : decode method_19_code 8 = .ok (.i2l, 1) := by decide +kernel
theorem d_Law_alarm_9 : decode method_19_code 9 = .ok (.lastore, 1) := by decide +kernel
theorem d_Law_alarm_10 : decode method_19_code 10 = .ok (.goto 11, 3) := by decide +kernel
theorem d_Law_alarm_13 : decode method_19_code 13 = .ok (.astore 4, 2) := by decide +kernel
theorem d_Law_alarm_15 : decode method_19_code 15 = .ok (.iconst 1, 1) := by decide +kernel
theorem d_Law_alarm_16 : decode method_19_code 16 = .ok (.ireturn, 1) := by decide +kernel
theorem d_Law_alarm_17 : decode method_19_code 17 = .ok (.astore 4, 2) := by decide +kernel
theorem d_Law_alarm_19 : decode method_19_code 19 = .ok (.iconst 2, 1) := by decide +kernel
theorem d_Law_alarm_20 : decode method_19_code 20 = .ok (.ireturn, 1) := by decide +kernel
theorem d_Law_alarm_21 : decode method_19_code 21 = .ok (.iconst 0, 1) := by decide +kernel
theorem d_Law_alarm_22 : decode method_19_code 22 = .ok (.ireturn, 1) := by decide +kernel
theorem d_RF_alarm_0 : decode prog_1_method_18_code 0 = .ok (.aload_n 0, 1) := by decide +kernel
theorem d_RF_alarm_1 : decode prog_1_method_18_code 1 = .ok (.iload_n 1, 1) := by decide +kernel
theorem d_RF_alarm_2 : decode prog_1_method_18_code 2 = .ok (.invokevirtual 220, 3) := by decide +kernel
theorem d_RF_alarm_5 : decode prog_1_method_18_code 5 = .ok (.astore_n 3, 1) := by decide +kernel
theorem d_RF_alarm_6 : decode prog_1_method_18_code 6 = .ok (.iload_n 2, 1) := by decide +kernel
theorem d_RF_alarm_7 : decode prog_1_method_18_code 7 = .ok (.tableswitch 82 0 6 #[41, 49, 54, 59, 64, 69, 74], 41) := by decide +kernel
theorem d_RF_alarm_48 : decode prog_1_method_18_code 48 = .ok (.aload_n 3, 1) := by decide +kernel
theorem d_RF_alarm_49 : decode prog_1_method_18_code 49 = .ok (.getfield 235, 3) := by decide +kernel
end
section
/-! decode rows: printed by wip/gen/names.py -/
theorem d_RF_alarm_52 : decode prog_1_method_18_code 52 = .ok (.getfield 83, 3) := by decide +kernel
theorem d_RF_alarm_55 : decode prog_1_method_18_code 55 = .ok (.ireturn, 1) := by decide +kernel
theorem d_RF_alarm_56 : decode prog_1_method_18_code 56 = .ok (.aload_n 3, 1) := by decide +kernel
theorem d_RF_alarm_57 : decode prog_1_method_18_code 57 = .ok (.getfield 239, 3) := by decide +kernel
theorem d_RF_alarm_60 : decode prog_1_method_18_code 60 = .ok (.ireturn, 1) := by decide +kernel
theorem d_RF_alarm_61 : decode prog_1_method_18_code 61 = .ok (.aload_n 3, 1) := by decide +kernel
theorem d_RF_alarm_62 : decode prog_1_method_18_code 62 = .ok (.getfield 242, 3) := by decide +kernel
theorem d_RF_alarm_65 : decode prog_1_method_18_code 65 = .ok (.ireturn, 1) := by decide +kernel
theorem d_RF_alarm_66 : decode prog_1_method_18_code 66 = .ok (.aload_n 3, 1) := by decide +kernel
theorem d_RF_alarm_67 : decode prog_1_method_18_code 67 = .ok (.getfield 232, 3) := by decide +kernel
theorem d_RF_alarm_70 : decode prog_1_method_18_code 70 = .ok (.ireturn, 1) := by decide +kernel
theorem d_RF_alarm_71 : decode prog_1_method_18_code 71 = .ok (.aload_n 3, 1) := by decide +kernel
theorem d_RF_alarm_72 : decode prog_1_method_18_code 72 = .ok (.getfield 245, 3) := by decide +kernel
theorem d_RF_alarm_75 : decode prog_1_method_18_code 75 = .ok (.ireturn, 1) := by decide +kernel
theorem d_RF_alarm_76 : decode prog_1_method_18_code 76 = .ok (.aload_n 3, 1) := by decide +kernel
theorem d_RF_alarm_77 : decode prog_1_method_18_code 77 = .ok (.getfield 229, 3) := by decide +kernel
theorem d_RF_alarm_80 : decode prog_1_method_18_code 80 = .ok (.ireturn, 1) := by decide +kernel
theorem d_RF_alarm_81 : decode prog_1_method_18_code 81 = .ok (.aload_n 3, 1) := by decide +kernel
theorem d_RF_alarm_82 : decode prog_1_method_18_code 82 = .ok (.getfield 248, 3) := by decide +kernel
theorem d_RF_alarm_85 : decode prog_1_method_18_code 85 = .ok (.getfield 252, 3) := by decide +kernel
theorem d_RF_alarm_88 : decode prog_1_method_18_code 88 = .ok (.ireturn, 1) := by decide +kernel
theorem d_RF_alarm_89 : decode prog_1_method_18_code 89 = .ok (.new 66, 3) := by decide +kernel
theorem d_RF_alarm_92 : decode prog_1_method_18_code 92 = .ok (.dup, 1) := by decide +kernel
theorem d_RF_alarm_93 : decode prog_1_method_18_code 93 = .ok (.ldc 255, 2) := by decide +kernel
theorem d_RF_alarm_95 : decode prog_1_method_18_code 95 = .ok (.invokespecial 70, 3) := by decide +kernel
theorem d_RF_alarm_98 : decode prog_1_method_18_code 98 = .ok (.athrow, 1) := by decide +kernel
theorem d_Law_known_0 : decode method_20_code 0 = .ok (.aload_n 3, 1) := by decide +kernel
theorem d_Law_known_1 : decode method_20_code 1 = .ok (.iconst 0, 1) := by decide +kernel
theorem d_Law_known_2 : decode method_20_code 2 = .ok (.aload_n 0, 1) := by decide +kernel
theorem d_Law_known_3 : decode method_20_code 3 = .ok (.iload_n 1, 1) := by decide +kernel
theorem d_Law_known_4 : decode method_20_code 4 = .ok (.iload_n 2, 1) := by decide +kernel
theorem d_Law_known_5 : decode method_20_code 5 = .ok (.invokevirtual 75, 3) := by decide +kernel
theorem d_Law_known_8 : decode method_20_code 8 = .ok (.i2l, 1) := by decide +kernel
theorem d_Law_known_9 : decode method_20_code 9 = .ok (.lastore, 1) := by decide +kernel
theorem d_Law_known_10 : decode method_20_code 10 = .ok (.goto 11, 3) := by decide +kernel
theorem d_Law_known_13 : decode method_20_code 13 = .ok (.astore 4, 2) := by decide +kernel
theorem d_Law_known_15 : decode method_20_code 15 = .ok (.iconst 1, 1) := by decide +kernel
theorem d_Law_known_16 : decode method_20_code 16 = .ok (.ireturn, 1) := by decide +kernel
theorem d_Law_known_17 : decode method_20_code 17 = .ok (.astore 4, 2) := by decide +kernel
theorem d_Law_known_19 : decode method_20_code 19 = .ok (.iconst 2, 1) := by decide +kernel
theorem d_Law_known_20 : decode method_20_code 20 = .ok (.ireturn, 1) := by decide +kernel
theorem d_Law_known_21 : decode method_20_code 21 = .ok (.iconst 0, 1) := by decide +kernel
theorem d_Law_known_22 : decode method_20_code 22 = .ok (.ireturn, 1) := by decide +kernel
theorem d_RF_known_0 : decode prog_1_method_19_code 0 = .ok (.aload_n 0, 1) := by decide +kernel
theorem d_RF_known_1 : decode prog_1_method_19_code 1 = .ok (.iload_n 1, 1) := by decide +kernel
theorem d_RF_known_2 : decode prog_1_method_19_code 2 = .ok (.invokevirtual 140, 3) := by decide +kernel
theorem d_RF_known_5 : decode prog_1_method_19_code 5 = .ok (.astore_n 3, 1) := by decide +kernel
theorem d_RF_known_6 : decode prog_1_method_19_code 6 = .ok (.iload_n 2, 1) := by decide +kernel
theorem d_RF_known_7 : decode prog_1_method_19_code 7 = .ok (.tableswitch 105 0 8 #[49, 57, 62, 67, 72, 77, 82, 95, 100], 49) := by decide +kernel
theorem d_RF_known_56 : decode prog_1_method_19_code 56 = .ok (.aload_n 3, 1) := by decide +kernel
theorem d_RF_known_57 : decode prog_1_method_19_code 57 = .ok (.getfield 257, 3) := by decide +kernel
theorem d_RF_known_60 : decode prog_1_method_19_code 60 = .ok (.getfield 83, 3) := by decide +kernel
theorem d_RF_known_63 : decode prog_1_method_19_code 63 = .ok (.ireturn, 1) := by decide +kernel
theorem d_RF_known_64 : decode prog_1_method_19_code 64 = .ok (.aload_n 3, 1) := by decide +kernel
theorem d_RF_known_65 : decode prog_1_method_19_code 65 = .ok (.getfield 258, 3) := by decide +kernel
theorem d_RF_known_68 : decode prog_1_method_19_code 68 = .ok (.ireturn, 1) := by decide +kernel
theorem d_RF_known_69 : decode prog_1_method_19_code 69 = .ok (.aload_n 3, 1) := by decide +kernel
theorem d_RF_known_70 : decode prog_1_method_19_code 70 = .ok (.getfield 252, 3) := by decide +kernel
theorem d_RF_known_73 : decode prog_1_method_19_code 73 = .ok (.ireturn, 1) := by decide +kernel
theorem d_RF_known_74 : decode prog_1_method_19_code 74 = .ok (.aload_n 3, 1) := by decide +kernel
theorem d_RF_known_75 : decode prog_1_method_19_code 75 = .ok (.getfield 259, 3) := by decide +kernel
theorem d_RF_known_78 : decode prog_1_method_19_code 78 = .ok (.ireturn, 1) := by decide +kernel
theorem d_RF_known_79 : decode prog_1_method_19_code 79 = .ok (.aload_n 3, 1) := by decide +kernel
theorem d_RF_known_80 : decode prog_1_method_19_code 80 = .ok (.getfield 262, 3) := by decide +kernel
theorem d_RF_known_83 : decode prog_1_method_19_code 83 = .ok (.ireturn, 1) := by decide +kernel
theorem d_RF_known_84 : decode prog_1_method_19_code 84 = .ok (.aload_n 3, 1) := by decide +kernel
theorem d_RF_known_85 : decode prog_1_method_19_code 85 = .ok (.getfield 152, 3) := by decide +kernel
theorem d_RF_known_88 : decode prog_1_method_19_code 88 = .ok (.ireturn, 1) := by decide +kernel
theorem d_RF_known_89 : decode prog_1_method_19_code 89 = .ok (.aload_n 3, 1) := by decide +kernel
theorem d_RF_known_90 : decode prog_1_method_19_code 90 = .ok (.getfield 265, 3) := by decide +kernel
theorem d_RF_known_93 : decode prog_1_method_19_code 93 = .ok (.ifCond .eq 7, 3) := by decide +kernel
theorem d_RF_known_96 : decode prog_1_method_19_code 96 = .ok (.iconst 1, 1) := by decide +kernel
theorem d_RF_known_97 : decode prog_1_method_19_code 97 = .ok (.goto 4, 3) := by decide +kernel
theorem d_RF_known_100 : decode prog_1_method_19_code 100 = .ok (.iconst 0, 1) := by decide +kernel
theorem d_RF_known_101 : decode prog_1_method_19_code 101 = .ok (.ireturn, 1) := by decide +kernel
theorem d_RF_known_102 : decode prog_1_method_19_code 102 = .ok (.aload_n 3, 1) := by decide +kernel
theorem d_RF_known_103 : decode prog_1_method_19_code 103 = .ok (.getfield 268, 3) := by decide +kernel
theorem d_RF_known_106 : decode prog_1_method_19_code 106 = .ok (.ireturn, 1) := by decide +kernel
theorem d_RF_known_107 : decode prog_1_method_19_code 107 = .ok (.aload_n 3, 1) := by decide +kernel
theorem d_RF_known_108 : decode prog_1_method_19_code 108 = .ok (.getfield 269, 3) := by decide +kernel
theorem d_RF_known_111 : decode prog_1_method_19_code 111 = .ok (.ireturn, 1) := by decide +kernel
theorem d_RF_known_112 : decode prog_1_method_19_code 112 = .ok (.new 66, 3) := by decide +kernel
theorem d_RF_known_115 : decode prog_1_method_19_code 115 = .ok (.dup, 1) := by decide +kernel
theorem d_RF_known_116 : decode prog_1_method_19_code 116 = .ok (.ldc_w 272, 3) := by decide +kernel
theorem d_RF_known_119 : decode prog_1_method_19_code 119 = .ok (.invokespecial 70, 3) := by decide +kernel
theorem d_RF_known_122 : decode prog_1_method_19_code 122 = .ok (.athrow, 1) := by decide +kernel
theorem d_Law_told_0 : decode method_21_code 0 = .ok (.aload_n 3, 1) := by decide +kernel
theorem d_Law_told_1 : decode method_21_code 1 = .ok (.iconst 0, 1) := by decide +kernel
theorem d_Law_told_2 : decode method_21_code 2 = .ok (.aload_n 0, 1) := by decide +kernel
theorem d_Law_told_3 : decode method_21_code 3 = .ok (.iload_n 1, 1) := by decide +kernel
theorem d_Law_told_4 : decode method_21_code 4 = .ok (.iload_n 2, 1) := by decide +kernel
theorem d_Law_told_5 : decode method_21_code 5 = .ok (.invokevirtual 78, 3) := by decide +kernel
theorem d_Law_told_8 : decode method_21_code 8 = .ok (.i2l, 1) := by decide +kernel
theorem d_Law_told_9 : decode method_21_code 9 = .ok (.lastore, 1) := by decide +kernel
theorem d_Law_told_10 : decode method_21_code 10 = .ok (.goto 11, 3) := by decide +kernel
theorem d_Law_told_13 : decode method_21_code 13 = .ok (.astore 4, 2) := by decide +kernel
theorem d_Law_told_15 : decode method_21_code 15 = .ok (.iconst 1, 1) := by decide +kernel
theorem d_Law_told_16 : decode method_21_code 16 = .ok (.ireturn, 1) := by decide +kernel
theorem d_Law_told_17 : decode method_21_code 17 = .ok (.astore 4, 2) := by decide +kernel
theorem d_Law_told_19 : decode method_21_code 19 = .ok (.iconst 2, 1) := by decide +kernel
theorem d_Law_told_20 : decode method_21_code 20 = .ok (.ireturn, 1) := by decide +kernel
theorem d_Law_told_21 : decode method_21_code 21 = .ok (.iconst 0, 1) := by decide +kernel
theorem d_Law_told_22 : decode method_21_code 22 = .ok (.ireturn, 1) := by decide +kernel
theorem d_RF_told_0 : decode prog_1_method_20_code 0 = .ok (.aload_n 0, 1) := by decide +kernel
theorem d_RF_told_1 : decode prog_1_method_20_code 1 = .ok (.iload_n 1, 1) := by decide +kernel
theorem d_RF_told_2 : decode prog_1_method_20_code 2 = .ok (.invokevirtual 97, 3) := by decide +kernel
theorem d_RF_told_5 : decode prog_1_method_20_code 5 = .ok (.astore_n 3, 1) := by decide +kernel
theorem d_RF_told_6 : decode prog_1_method_20_code 6 = .ok (.iload_n 2, 1) := by decide +kernel
theorem d_RF_told_7 : decode prog_1_method_20_code 7 = .ok (.tableswitch 67 0 4 #[33, 38, 43, 48, 54], 33) := by decide +kernel
theorem d_RF_told_40 : decode prog_1_method_20_code 40 = .ok (.aload_n 3, 1) := by decide +kernel
theorem d_RF_told_41 : decode prog_1_method_20_code 41 = .ok (.getfield 101, 3) := by decide +kernel
theorem d_RF_told_44 : decode prog_1_method_20_code 44 = .ok (.ireturn, 1) := by decide +kernel
theorem d_RF_told_45 : decode prog_1_method_20_code 45 = .ok (.aload_n 3, 1) := by decide +kernel
theorem d_RF_told_46 : decode prog_1_method_20_code 46 = .ok (.getfield 109, 3) := by decide +kernel
theorem d_RF_told_49 : decode prog_1_method_20_code 49 = .ok (.ireturn, 1) := by decide +kernel
theorem d_RF_told_50 : decode prog_1_method_20_code 50 = .ok (.aload_n 3, 1) := by decide +kernel
theorem d_RF_told_51 : decode prog_1_method_20_code 51 = .ok (.getfield 122, 3) := by decide +kernel
theorem d_RF_told_54 : decode prog_1_method_20_code 54 = .ok (.ireturn, 1) := by decide +kernel
theorem d_RF_told_55 : decode prog_1_method_20_code 55 = .ok (.aload_n 0, 1) := by decide +kernel
theorem d_RF_told_56 : decode prog_1_method_20_code 56 = .ok (.aload_n 3, 1) := by decide +kernel
theorem d_RF_told_57 : decode prog_1_method_20_code 57 = .ok (.invokevirtual 166, 3) := by decide +kernel
theorem d_RF_told_60 : decode prog_1_method_20_code 60 = .ok (.ireturn, 1) := by decide +kernel
theorem d_RF_told_61 : decode prog_1_method_20_code 61 = .ok (.aload_n 3, 1) := by decide +kernel
theorem d_RF_told_62 : decode prog_1_method_20_code 62 = .ok (.getfield 172, 3) := by decide +kernel
theorem d_RF_told_65 : decode prog_1_method_20_code 65 = .ok (.ifCond .eq 7, 3) := by decide +kernel
theorem d_RF_told_68 : decode prog_1_method_20_code 68 = .ok (.iconst 1, 1) := by decide +kernel
theorem d_RF_told_69 : decode prog_1_method_20_code 69 = .ok (.goto 4, 3) := by decide +kernel
theorem d_RF_told_72 : decode prog_1_method_20_code 72 = .ok (.iconst 0, 1) := by decide +kernel
theorem d_RF_told_73 : decode prog_1_method_20_code 73 = .ok (.ireturn, 1) := by decide +kernel
theorem d_RF_told_74 : decode prog_1_method_20_code 74 = .ok (.new 66, 3) := by decide +kernel
theorem d_RF_told_77 : decode prog_1_method_20_code 77 = .ok (.dup, 1) := by decide +kernel
theorem d_RF_told_78 : decode prog_1_method_20_code 78 = .ok (.ldc_w 274, 3) := by decide +kernel
theorem d_RF_told_81 : decode prog_1_method_20_code 81 = .ok (.invokespecial 70, 3) := by decide +kernel
theorem d_RF_told_84 : decode prog_1_method_20_code 84 = .ok (.athrow, 1) := by decide +kernel
theorem d_Model_init_0 : decode prog_9_method_1_code 0 = .ok (.aload_n 0, 1) := by decide +kernel
theorem d_Model_init_1 : decode prog_9_method_1_code 1 = .ok (.invokespecial 1, 3) := by decide +kernel
theorem d_Model_init_4 : decode prog_9_method_1_code 4 = .ok (.aload_n 0, 1) := by decide +kernel
theorem d_Model_init_5 : decode prog_9_method_1_code 5 = .ok (.sipush 400, 3) := by decide +kernel
theorem d_Model_init_8 : decode prog_9_method_1_code 8 = .ok (.newarray .boolean, 2) := by decide +kernel
theorem d_Model_init_10 : decode prog_9_method_1_code 10 = .ok (.putfield 7, 3) := by decide +kernel
theorem d_Model_init_13 : decode prog_9_method_1_code 13 = .ok (.aload_n 0, 1) := by decide +kernel
theorem d_Model_init_14 : decode prog_9_method_1_code 14 = .ok (.bipush 8, 2) := by decide +kernel
theorem d_Model_init_16 : decode prog_9_method_1_code 16 = .ok (.newarray .int, 2) := by decide +kernel
theorem d_Model_init_18 : decode prog_9_method_1_code 18 = .ok (.putfield 13, 3) := by decide +kernel
theorem d_Model_init_21 : decode prog_9_method_1_code 21 = .ok (.aload_n 0, 1) := by decide +kernel
theorem d_Model_init_22 : decode prog_9_method_1_code 22 = .ok (.bipush 8, 2) := by decide +kernel
theorem d_Model_init_24 : decode prog_9_method_1_code 24 = .ok (.newarray .int, 2) := by decide +kernel
theorem d_Model_init_26 : decode prog_9_method_1_code 26 = .ok (.putfield 17, 3) := by decide +kernel
theorem d_Model_init_29 : decode prog_9_method_1_code 29 = .ok (.aload_n 0, 1) := by decide +kernel
theorem d_Model_init_30 : decode prog_9_method_1_code 30 = .ok (.bipush 8, 2) := by decide +kernel
theorem d_Model_init_32 : decode prog_9_method_1_code 32 = .ok (.newarray .int, 2) := by decide +kernel
theorem d_Model_init_34 : decode prog_9_method_1_code 34 = .ok (.putfield 20, 3) := by decide +kernel
theorem d_Model_init_37 : decode prog_9_method_1_code 37 = .ok (.aload_n 0, 1) := by decide +kernel
theorem d_Model_init_38 : decode prog_9_method_1_code 38 = .ok (.bipush 8, 2) := by decide +kernel
theorem d_Model_init_40 : decode prog_9_method_1_code 40 = .ok (.newarray .boolean, 2) := by decide +kernel
theorem d_Model_init_42 : decode prog_9_method_1_code 42 = .ok (.putfield 23, 3) := by decide +kernel
theorem d_Model_init_45 : decode prog_9_method_1_code 45 = .ok (.aload_n 0, 1) := by decide +kernel
theorem d_Model_init_46 : decode prog_9_method_1_code 46 = .ok (.bipush 8, 2) := by decide +kernel
theorem d_Model_init_48 : decode prog_9_method_1_code 48 = .ok (.newarray .int, 2) := by decide +kernel
theorem d_Model_init_50 : decode prog_9_method_1_code 50 = .ok (.putfield 26, 3) := by decide +kernel
theorem d_Model_init_53 : decode prog_9_method_1_code 53 = .ok (.aload_n 0, 1) := by decide +kernel
theorem d_Model_init_54 : decode prog_9_method_1_code 54 = .ok (.bipush 8, 2) := by decide +kernel
theorem d_Model_init_56 : decode prog_9_method_1_code 56 = .ok (.newarray .int, 2) := by decide +kernel
theorem d_Model_init_58 : decode prog_9_method_1_code 58 = .ok (.dup, 1) := by decide +kernel
theorem d_Model_init_59 : decode prog_9_method_1_code 59 = .ok (.iconst 0, 1) := by decide +kernel
theorem d_Model_init_60 : decode prog_9_method_1_code 60 = .ok (.iconst 1, 1) := by decide +kernel
theorem d_Model_init_61 : decode prog_9_method_1_code 61 = .ok (.iastore, 1) := by decide +kernel
theorem d_Model_init_62 : decode prog_9_method_1_code 62 = .ok (.dup, 1) := by decide +kernel
theorem d_Model_init_63 : decode prog_9_method_1_code 63 = .ok (.iconst 1, 1) := by decide +kernel
theorem d_Model_init_64 : decode prog_9_method_1_code 64 = .ok (.iconst 1, 1) := by decide +kernel
theorem d_Model_init_65 : decode prog_9_method_1_code 65 = .ok (.iastore, 1) := by decide +kernel
theorem d_Model_init_66 : decode prog_9_method_1_code 66 = .ok (.dup, 1) := by decide +kernel
theorem d_Model_init_67 : decode prog_9_method_1_code 67 = .ok (.iconst 2, 1) := by decide +kernel
theorem d_Model_init_68 : decode prog_9_method_1_code 68 = .ok (.iconst 1, 1) := by decide +kernel
theorem d_Model_init_69 : decode prog_9_method_1_code 69 = .ok (.iastore, 1) := by decide +kernel
theorem d_Model_init_70 : decode prog_9_method_1_code 70 = .ok (.dup, 1) := by decide +kernel
theorem d_Model_init_71 : decode prog_9_method_1_code 71 = .ok (.iconst 3, 1) := by decide +kernel
theorem d_Model_init_72 : decode prog_9_method_1_code 72 = .ok (.iconst 1, 1) := by decide +kernel
theorem d_Model_init_73 : decode prog_9_method_1_code 73 = .ok (.iastore, 1) := by decide +kernel
theorem d_Model_init_74 : decode prog_9_method_1_code 74 = .ok (.dup, 1) := by decide +kernel
theorem d_Model_init_75 : decode prog_9_method_1_code 75 = .ok (.iconst 4, 1) := by decide +kernel
theorem d_Model_init_76 : decode prog_9_method_1_code 76 = .ok (.iconst 1, 1) := by decide +kernel
theorem d_Model_init_77 : decode prog_9_method_1_code 77 = .ok (.iastore, 1) := by decide +kernel
theorem d_Model_init_78 : decode prog_9_method_1_code 78 = .ok (.dup, 1) := by decide +kernel
theorem d_Model_init_79 : decode prog_9_method_1_code 79 = .ok (.iconst 5, 1) := by decide +kernel
theorem d_Model_init_80 : decode prog_9_method_1_code 80 = .ok (.iconst 1, 1) := by decide +kernel
theorem d_Model_init_81 : decode prog_9_method_1_code 81 = .ok (.iastore, 1) := by decide +kernel
theorem d_Model_init_82 : decode prog_9_method_1_code 82 = .ok (.dup, 1) := by decide +kernel
theorem d_Model_init_83 : decode prog_9_method_1_code 83 = .ok (.bipush 6, 2) := by decide +kernel
theorem d_Model_init_85 : decode prog_9_method_1_code 85 = .ok (.iconst 1, 1) := by decide +kernel
theorem d_Model_init_86 : decode prog_9_method_1_code 86 = .ok (.iastore, 1) := by decide +kernel
theorem d_Model_init_87 : decode prog_9_method_1_code 87 = .ok (.dup, 1) := by decide +kernel
theorem d_Model_init_88 : decode prog_9_method_1_code 88 = .ok (.bipush 7, 2) := by decide +kernel
theorem d_Model_init_90 : decode prog_9_method_1_code 90 = .ok (.iconst 1, 1) := by decide +kernel
theorem d_Model_init_91 : decode prog_9_method_1_code 91 = .ok (.iastore, 1) := by decide +kernel
theorem d_Model_init_92 : decode prog_9_method_1_code 92 = .ok (.putfield 29, 3) := by decide +kernel
theorem d_Model_init_95 : decode prog_9_method_1_code 95 = .ok (.aload_n 0, 1) := by decide +kernel
theorem d_Model_init_96 : decode prog_9_method_1_code 96 = .ok (.bipush 8, 2) := by decide +kernel
theorem d_Model_init_98 : decode prog_9_method_1_code 98 = .ok (.newarray .boolean, 2) := by decide +kernel
theorem d_Model_init_100 : decode prog_9_method_1_code 100 = .ok (.putfield 32, 3) := by decide +kernel
theorem d_Model_init_103 : decode prog_9_method_1_code 103 = .ok (.aload_n 0, 1) := by decide +kernel
theorem d_Model_init_104 : decode prog_9_method_1_code 104 = .ok (.bipush 8, 2) := by decide +kernel
theorem d_Model_init_106 : decode prog_9_method_1_code 106 = .ok (.newarray .int, 2) := by decide +kernel
theorem d_Model_init_108 : decode prog_9_method_1_code 108 = .ok (.dup, 1) := by decide +kernel
theorem d_Model_init_109 : decode prog_9_method_1_code 109 = .ok (.iconst 0, 1) := by decide +kernel
theorem d_Model_init_110 : decode prog_9_method_1_code 110 = .ok (.iconst 3, 1) := by decide +kernel
theorem d_Model_init_111 : decode prog_9_method_1_code 111 = .ok (.iastore, 1) := by decide +kernel
theorem d_Model_init_112 : decode prog_9_method_1_code 112 = .ok (.dup, 1) := by decide +kernel
theorem d_Model_init_113 : decode prog_9_method_1_code 113 = .ok (.iconst 1, 1) := by decide +kernel
theorem d_Model_init_114 : decode prog_9_method_1_code 114 = .ok (.iconst 3, 1) := by decide +kernel
theorem d_Model_init_115 : decode prog_9_method_1_code 115 = .ok (.iastore, 1) := by decide +kernel
theorem d_Model_init_116 : decode prog_9_method_1_code 116 = .ok (.dup, 1) := by decide +kernel
theorem d_Model_init_117 : decode prog_9_method_1_code 117 = .ok (.iconst 2, 1) := by decide +kernel
theorem d_Model_init_118 : decode prog_9_method_1_code 118 = .ok (.iconst 3, 1) := by decide +kernel
theorem d_Model_init_119 : decode prog_9_method_1_code 119 = .ok (.iastore, 1) := by decide +kernel
theorem d_Model_init_120 : decode prog_9_method_1_code 120 = .ok (.dup, 1) := by decide +kernel
theorem d_Model_init_121 : decode prog_9_method_1_code 121 = .ok (.iconst 3, 1) := by decide +kernel
theorem d_Model_init_122 : decode prog_9_method_1_code 122 = .ok (.iconst 3, 1) := by decide +kernel
theorem d_Model_init_123 : decode prog_9_method_1_code 123 = .ok (.iastore, 1) := by decide +kernel
theorem d_Model_init_124 : decode prog_9_method_1_code 124 = .ok (.dup, 1) := by decide +kernel
theorem d_Model_init_125 : decode prog_9_method_1_code 125 = .ok (.iconst 4, 1) := by decide +kernel
theorem d_Model_init_126 : decode prog_9_method_1_code 126 = .ok (.iconst 3, 1) := by decide +kernel
theorem d_Model_init_127 : decode prog_9_method_1_code 127 = .ok (.iastore, 1) := by decide +kernel
theorem d_Model_init_128 : decode prog_9_method_1_code 128 = .ok (.dup, 1) := by decide +kernel
theorem d_Model_init_129 : decode prog_9_method_1_code 129 = .ok (.iconst 5, 1) := by decide +kernel
theorem d_Model_init_130 : decode prog_9_method_1_code 130 = .ok (.iconst 3, 1) := by decide +kernel
theorem d_Model_init_131 : decode prog_9_method_1_code 131 = .ok (.iastore, 1) := by decide +kernel
theorem d_Model_init_132 : decode prog_9_method_1_code 132 = .ok (.dup, 1) := by decide +kernel
theorem d_Model_init_133 : decode prog_9_method_1_code 133 = .ok (.bipush 6, 2) := by decide +kernel
theorem d_Model_init_135 : decode prog_9_method_1_code 135 = .ok (.iconst 3, 1) := by decide +kernel
theorem d_Model_init_136 : decode prog_9_method_1_code 136 = .ok (.iastore, 1) := by decide +kernel
theorem d_Model_init_137 : decode prog_9_method_1_code 137 = .ok (.dup, 1) := by decide +kernel
theorem d_Model_init_138 : decode prog_9_method_1_code 138 = .ok (.bipush 7, 2) := by decide +kernel
theorem d_Model_init_140 : decode prog_9_method_1_code 140 = .ok (.iconst 3, 1) := by decide +kernel
theorem d_Model_init_141 : decode prog_9_method_1_code 141 = .ok (.iastore, 1) := by decide +kernel
theorem d_Model_init_142 : decode prog_9_method_1_code 142 = .ok (.putfield 35, 3) := by decide +kernel
theorem d_Model_init_145 : decode prog_9_method_1_code 145 = .ok (.aload_n 0, 1) := by decide +kernel
theorem d_Model_init_146 : decode prog_9_method_1_code 146 = .ok (.bipush 41, 2) := by decide +kernel
theorem d_Model_init_148 : decode prog_9_method_1_code 148 = .ok (.newarray .int, 2) := by decide +kernel
theorem d_Model_init_150 : decode prog_9_method_1_code 150 = .ok (.putfield 38, 3) := by decide +kernel
theorem d_Model_init_153 : decode prog_9_method_1_code 153 = .ok (.aload_n 0, 1) := by decide +kernel
theorem d_Model_init_154 : decode prog_9_method_1_code 154 = .ok (.bipush 41, 2) := by decide +kernel
theorem d_Model_init_156 : decode prog_9_method_1_code 156 = .ok (.newarray .int, 2) := by decide +kernel
theorem d_Model_init_158 : decode prog_9_method_1_code 158 = .ok (.putfield 41, 3) := by decide +kernel
theorem d_Model_init_161 : decode prog_9_method_1_code 161 = .ok (.aload_n 0, 1) := by decide +kernel
theorem d_Model_init_162 : decode prog_9_method_1_code 162 = .ok (.bipush 41, 2) := by decide +kernel
theorem d_Model_init_164 : decode prog_9_method_1_code 164 = .ok (.newarray .int, 2) := by decide +kernel
theorem d_Model_init_166 : decode prog_9_method_1_code 166 = .ok (.putfield 44, 3) := by decide +kernel
theorem d_Model_init_169 : decode prog_9_method_1_code 169 = .ok (.aload_n 0, 1) := by decide +kernel
theorem d_Model_init_170 : decode prog_9_method_1_code 170 = .ok (.bipush 41, 2) := by decide +kernel
theorem d_Model_init_172 : decode prog_9_method_1_code 172 = .ok (.newarray .int, 2) := by decide +kernel
theorem d_Model_init_174 : decode prog_9_method_1_code 174 = .ok (.putfield 47, 3) := by decide +kernel
theorem d_Model_init_177 : decode prog_9_method_1_code 177 = .ok (.aload_n 0, 1) := by decide +kernel
theorem d_Model_init_178 : decode prog_9_method_1_code 178 = .ok (.bipush 41, 2) := by decide +kernel
theorem d_Model_init_180 : decode prog_9_method_1_code 180 = .ok (.newarray .int, 2) := by decide +kernel
theorem d_Model_init_182 : decode prog_9_method_1_code 182 = .ok (.putfield 50, 3) := by decide +kernel
theorem d_Model_init_185 : decode prog_9_method_1_code 185 = .ok (.aload_n 0, 1) := by decide +kernel
theorem d_Model_init_186 : decode prog_9_method_1_code 186 = .ok (.bipush 41, 2) := by decide +kernel
theorem d_Model_init_188 : decode prog_9_method_1_code 188 = .ok (.newarray .int, 2) := by decide +kernel
theorem d_Model_init_190 : decode prog_9_method_1_code 190 = .ok (.putfield 53, 3) := by decide +kernel
theorem d_Model_init_193 : decode prog_9_method_1_code 193 = .ok (.aload_n 0, 1) := by decide +kernel
theorem d_Model_init_194 : decode prog_9_method_1_code 194 = .ok (.bipush 41, 2) := by decide +kernel
theorem d_Model_init_196 : decode prog_9_method_1_code 196 = .ok (.newarray .int, 2) := by decide +kernel
theorem d_Model_init_198 : decode prog_9_method_1_code 198 = .ok (.putfield 56, 3) := by decide +kernel
theorem d_Model_init_201 : decode prog_9_method_1_code 201 = .ok (.aload_n 0, 1) := by decide +kernel
theorem d_Model_init_202 : decode prog_9_method_1_code 202 = .ok (.bipush 41, 2) := by decide +kernel
theorem d_Model_init_204 : decode prog_9_method_1_code 204 = .ok (.newarray .boolean, 2) := by decide +kernel
theorem d_Model_init_206 : decode prog_9_method_1_code 206 = .ok (.putfield 59, 3) := by decide +kernel
theorem d_Model_init_209 : decode prog_9_method_1_code 209 = .ok (.aload_n 0, 1) := by decide +kernel
theorem d_Model_init_210 : decode prog_9_method_1_code 210 = .ok (.bipush 41, 2) := by decide +kernel
theorem d_Model_init_212 : decode prog_9_method_1_code 212 = .ok (.newarray .int, 2) := by decide +kernel
theorem d_Model_init_214 : decode prog_9_method_1_code 214 = .ok (.putfield 62, 3) := by decide +kernel
theorem d_Model_init_217 : decode prog_9_method_1_code 217 = .ok (.aload_n 0, 1) := by decide +kernel
theorem d_Model_init_218 : decode prog_9_method_1_code 218 = .ok (.bipush 41, 2) := by decide +kernel
theorem d_Model_init_220 : decode prog_9_method_1_code 220 = .ok (.newarray .int, 2) := by decide +kernel
theorem d_Model_init_222 : decode prog_9_method_1_code 222 = .ok (.putfield 65, 3) := by decide +kernel
theorem d_Model_init_225 : decode prog_9_method_1_code 225 = .ok (.aload_n 0, 1) := by decide +kernel
theorem d_Model_init_226 : decode prog_9_method_1_code 226 = .ok (.bipush 40, 2) := by decide +kernel
theorem d_Model_init_228 : decode prog_9_method_1_code 228 = .ok (.newarray .int, 2) := by decide +kernel
theorem d_Model_init_230 : decode prog_9_method_1_code 230 = .ok (.putfield 68, 3) := by decide +kernel
theorem d_Model_init_233 : decode prog_9_method_1_code 233 = .ok (.aload_n 0, 1) := by decide +kernel
theorem d_Model_init_234 : decode prog_9_method_1_code 234 = .ok (.bipush 40, 2) := by decide +kernel
theorem d_Model_init_236 : decode prog_9_method_1_code 236 = .ok (.newarray .int, 2) := by decide +kernel
theorem d_Model_init_238 : decode prog_9_method_1_code 238 = .ok (.putfield 71, 3) := by decide +kernel
theorem d_Model_init_241 : decode prog_9_method_1_code 241 = .ok (.aload_n 0, 1) := by decide +kernel
theorem d_Model_init_242 : decode prog_9_method_1_code 242 = .ok (.bipush 40, 2) := by decide +kernel
theorem d_Model_init_244 : decode prog_9_method_1_code 244 = .ok (.newarray .int, 2) := by decide +kernel
theorem d_Model_init_246 : decode prog_9_method_1_code 246 = .ok (.putfield 74, 3) := by decide +kernel
theorem d_Model_init_249 : decode prog_9_method_1_code 249 = .ok (.aload_n 0, 1) := by decide +kernel
theorem d_Model_init_250 : decode prog_9_method_1_code 250 = .ok (.bipush 40, 2) := by decide +kernel
theorem d_Model_init_252 : decode prog_9_method_1_code 252 = .ok (.newarray .int, 2) := by decide +kernel
theorem d_Model_init_254 : decode prog_9_method_1_code 254 = .ok (.putfield 77, 3) := by decide +kernel
theorem d_Model_init_257 : decode prog_9_method_1_code 257 = .ok (.aload_n 0, 1) := by decide +kernel
theorem d_Model_init_258 : decode prog_9_method_1_code 258 = .ok (.bipush 40, 2) := by decide +kernel
theorem d_Model_init_260 : decode prog_9_method_1_code 260 = .ok (.newarray .int, 2) := by decide +kernel
theorem d_Model_init_262 : decode prog_9_method_1_code 262 = .ok (.putfield 80, 3) := by decide +kernel
theorem d_Model_init_265 : decode prog_9_method_1_code 265 = .ok (.aload_n 0, 1) := by decide +kernel
theorem d_Model_init_266 : decode prog_9_method_1_code 266 = .ok (.bipush 40, 2) := by decide +kernel
theorem d_Model_init_268 : decode prog_9_method_1_code 268 = .ok (.newarray .int, 2) := by decide +kernel
theorem d_Model_init_270 : decode prog_9_method_1_code 270 = .ok (.putfield 83, 3) := by decide +kernel
theorem d_Model_init_273 : decode prog_9_method_1_code 273 = .ok (.aload_n 0, 1) := by decide +kernel
theorem d_Model_init_274 : decode prog_9_method_1_code 274 = .ok (.bipush 40, 2) := by decide +kernel
theorem d_Model_init_276 : decode prog_9_method_1_code 276 = .ok (.newarray .int, 2) := by decide +kernel
theorem d_Model_init_278 : decode prog_9_method_1_code 278 = .ok (.putfield 86, 3) := by decide +kernel
theorem d_Model_init_281 : decode prog_9_method_1_code 281 = .ok (.aload_n 0, 1) := by decide +kernel
theorem d_Model_init_282 : decode prog_9_method_1_code 282 = .ok (.bipush 40, 2) := by decide +kernel
theorem d_Model_init_284 : decode prog_9_method_1_code 284 = .ok (.newarray .int, 2) := by decide +kernel
theorem d_Model_init_286 : decode prog_9_method_1_code 286 = .ok (.putfield 89, 3) := by decide +kernel
theorem d_Model_init_289 : decode prog_9_method_1_code 289 = .ok (.aload_n 0, 1) := by decide +kernel
theorem d_Model_init_290 : decode prog_9_method_1_code 290 = .ok (.bipush 10, 2) := by decide +kernel
theorem d_Model_init_292 : decode prog_9_method_1_code 292 = .ok (.newarray .int, 2) := by decide +kernel
theorem d_Model_init_294 : decode prog_9_method_1_code 294 = .ok (.putfield 92, 3) := by decide +kernel
theorem d_Model_init_297 : decode prog_9_method_1_code 297 = .ok (.aload_n 0, 1) := by decide +kernel
theorem d_Model_init_298 : decode prog_9_method_1_code 298 = .ok (.bipush 10, 2) := by decide +kernel
theorem d_Model_init_300 : decode prog_9_method_1_code 300 = .ok (.newarray .int, 2) := by decide +kernel
theorem d_Model_init_302 : decode prog_9_method_1_code 302 = .ok (.putfield 95, 3) := by decide +kernel
theorem d_Model_init_305 : decode prog_9_method_1_code 305 = .ok (.aload_n 0, 1) := by decide +kernel
theorem d_Model_init_306 : decode prog_9_method_1_code 306 = .ok (.bipush 10, 2) := by decide +kernel
theorem d_Model_init_308 : decode prog_9_method_1_code 308 = .ok (.newarray .int, 2) := by decide +kernel
theorem d_Model_init_310 : decode prog_9_method_1_code 310 = .ok (.putfield 98, 3) := by decide +kernel
theorem d_Model_init_313 : decode prog_9_method_1_code 313 = .ok (.aload_n 0, 1) := by decide +kernel
theorem d_Model_init_314 : decode prog_9_method_1_code 314 = .ok (.bipush 20, 2) := by decide +kernel
theorem d_Model_init_316 : decode prog_9_method_1_code 316 = .ok (.newarray .int, 2) := by decide +kernel
theorem d_Model_init_318 : decode prog_9_method_1_code 318 = .ok (.putfield 101, 3) := by decide +kernel
theorem d_Model_init_321 : decode prog_9_method_1_code 321 = .ok (.return_, 1) := by decide +kernel
theorem d_Model_thrown_0 : decode prog_9_method_2_code 0 = .ok (.aload_n 0, 1) := by decide +kernel
theorem d_Model_thrown_1 : decode prog_9_method_2_code 1 = .ok (.getfield 104, 3) := by decide +kernel
theorem d_Model_thrown_4 : decode prog_9_method_2_code 4 = .ok (.ireturn, 1) := by decide +kernel
theorem d_Model_piece_0 : decode prog_9_method_9_code 0 = .ok (.aload_n 0, 1) := by decide +kernel
theorem d_Model_piece_1 : decode prog_9_method_9_code 1 = .ok (.aload_n 0, 1) := by decide +kernel
theorem d_Model_piece_2 : decode prog_9_method_9_code 2 = .ok (.getfield 108, 3) := by decide +kernel
theorem d_Model_piece_5 : decode prog_9_method_9_code 5 = .ok (.bipush 20, 2) := by decide +kernel
theorem d_Model_piece_7 : decode prog_9_method_9_code 7 = .ok (.if_icmp .ne 7, 3) := by decide +kernel
theorem d_Model_piece_10 : decode prog_9_method_9_code 10 = .ok (.iconst 1, 1) := by decide +kernel
theorem d_Model_piece_11 : decode prog_9_method_9_code 11 = .ok (.goto 4, 3) := by decide +kernel
theorem d_Model_piece_14 : decode prog_9_method_9_code 14 = .ok (.iconst 0, 1) := by decide +kernel
theorem d_Model_piece_15 : decode prog_9_method_9_code 15 = .ok (.putfield 104, 3) := by decide +kernel
theorem d_Model_piece_18 : decode prog_9_method_9_code 18 = .ok (.aload_n 0, 1) := by decide +kernel
theorem d_Model_piece_19 : decode prog_9_method_9_code 19 = .ok (.getfield 104, 3) := by decide +kernel
theorem d_Model_piece_22 : decode prog_9_method_9_code 22 = .ok (.ifCond .le 5, 3) := by decide +kernel
theorem d_Model_piece_25 : decode prog_9_method_9_code 25 = .ok (.iconst 0, 1) := by decide +kernel
theorem d_Model_piece_26 : decode prog_9_method_9_code 26 = .ok (.ireturn, 1) := by decide +kernel
theorem d_Model_piece_27 : decode prog_9_method_9_code 27 = .ok (.aload_n 0, 1) := by decide +kernel
theorem d_Model_piece_28 : decode prog_9_method_9_code 28 = .ok (.dup, 1) := by decide +kernel
theorem d_Model_piece_29 : decode prog_9_method_9_code 29 = .ok (.getfield 108, 3) := by decide +kernel
theorem d_Model_piece_32 : decode prog_9_method_9_code 32 = .ok (.iconst 1, 1) := by decide +kernel
theorem d_Model_piece_33 : decode prog_9_method_9_code 33 = .ok (.iadd, 1) := by decide +kernel
theorem d_Model_piece_34 : decode prog_9_method_9_code 34 = .ok (.putfield 108, 3) := by decide +kernel
theorem d_Model_piece_37 : decode prog_9_method_9_code 37 = .ok (.aload_n 0, 1) := by decide +kernel
theorem d_Model_piece_38 : decode prog_9_method_9_code 38 = .ok (.getfield 108, 3) := by decide +kernel
theorem d_Model_piece_41 : decode prog_9_method_9_code 41 = .ok (.iconst 1, 1) := by decide +kernel
theorem d_Model_piece_42 : decode prog_9_method_9_code 42 = .ok (.isub, 1) := by decide +kernel
theorem d_Model_piece_43 : decode prog_9_method_9_code 43 = .ok (.ireturn, 1) := by decide +kernel
theorem d_Model_link_0 : decode prog_9_method_10_code 0 = .ok (.aload_n 0, 1) := by decide +kernel
theorem d_Model_link_1 : decode prog_9_method_10_code 1 = .ok (.aload_n 0, 1) := by decide +kernel
theorem d_Model_link_2 : decode prog_9_method_10_code 2 = .ok (.iload_n 1, 1) := by decide +kernel
theorem d_Model_link_3 : decode prog_9_method_10_code 3 = .ok (.invokevirtual 124, 3) := by decide +kernel
theorem d_Model_link_6 : decode prog_9_method_10_code 6 = .ok (.ifCond .eq 11, 3) := by decide +kernel
theorem d_Model_link_9 : decode prog_9_method_10_code 9 = .ok (.aload_n 0, 1) := by decide +kernel
theorem d_Model_link_10 : decode prog_9_method_10_code 10 = .ok (.iload_n 2, 1) := by decide +kernel
theorem d_Model_link_11 : decode prog_9_method_10_code 11 = .ok (.invokevirtual 124, 3) := by decide +kernel
theorem d_Model_link_14 : decode prog_9_method_10_code 14 = .ok (.ifCond .ne 7, 3) := by decide +kernel
theorem d_Model_link_17 : decode prog_9_method_10_code 17 = .ok (.iconst 1, 1) := by decide +kernel
theorem d_Model_link_18 : decode prog_9_method_10_code 18 = .ok (.goto 13, 3) := by decide +kernel
theorem d_Model_link_21 : decode prog_9_method_10_code 21 = .ok (.iload_n 1, 1) := by decide +kernel
theorem d_Model_link_22 : decode prog_9_method_10_code 22 = .ok (.iload_n 2, 1) := by decide +kernel
theorem d_Model_link_23 : decode prog_9_method_10_code 23 = .ok (.if_icmp .ne 7, 3) := by decide +kernel
theorem d_Model_link_26 : decode prog_9_method_10_code 26 = .ok (.iconst 2, 1) := by decide +kernel
theorem d_Model_link_27 : decode prog_9_method_10_code 27 = .ok (.goto 4, 3) := by decide +kernel
theorem d_Model_link_30 : decode prog_9_method_10_code 30 = .ok (.iconst 0, 1) := by decide +kernel
theorem d_Model_link_31 : decode prog_9_method_10_code 31 = .ok (.putfield 104, 3) := by decide +kernel
theorem d_Model_link_34 : decode prog_9_method_10_code 34 = .ok (.aload_n 0, 1) := by decide +kernel
theorem d_Model_link_35 : decode prog_9_method_10_code 35 = .ok (.getfield 104, 3) := by decide +kernel
theorem d_Model_link_38 : decode prog_9_method_10_code 38 = .ok (.ifCond .le 4, 3) := by decide +kernel
theorem d_Model_link_41 : decode prog_9_method_10_code 41 = .ok (.return_, 1) := by decide +kernel
theorem d_Model_link_42 : decode prog_9_method_10_code 42 = .ok (.aload_n 0, 1) := by decide +kernel
theorem d_Model_link_43 : decode prog_9_method_10_code 43 = .ok (.getfield 7, 3) := by decide +kernel
theorem d_Model_link_46 : decode prog_9_method_10_code 46 = .ok (.bipush 20, 2) := by decide +kernel
theorem d_Model_link_48 : decode prog_9_method_10_code 48 = .ok (.iload_n 1, 1) := by decide +kernel
theorem d_Model_link_49 : decode prog_9_method_10_code 49 = .ok (.imul, 1) := by decide +kernel
theorem d_Model_link_50 : decode prog_9_method_10_code 50 = .ok (.iload_n 2, 1) := by decide +kernel
theorem d_Model_link_51 : decode prog_9_method_10_code 51 = .ok (.iadd, 1) := by decide +kernel
theorem d_Model_link_52 : decode prog_9_method_10_code 52 = .ok (.iconst 1, 1) := by decide +kernel
theorem d_Model_link_53 : decode prog_9_method_10_code 53 = .ok (.bastore, 1) := by decide +kernel
theorem d_Model_link_54 : decode prog_9_method_10_code 54 = .ok (.aload_n 0, 1) := by decide +kernel
theorem d_Model_link_55 : decode prog_9_method_10_code 55 = .ok (.getfield 7, 3) := by decide +kernel
theorem d_Model_link_58 : decode prog_9_method_10_code 58 = .ok (.bipush 20, 2) := by decide +kernel
theorem d_Model_link_60 : decode prog_9_method_10_code 60 = .ok (.iload_n 2, 1) := by decide +kernel
theorem d_Model_link_61 : decode prog_9_method_10_code 61 = .ok (.imul, 1) := by decide +kernel
theorem d_Model_link_62 : decode prog_9_method_10_code 62 = .ok (.iload_n 1, 1) := by decide +kernel
theorem d_Model_link_63 : decode prog_9_method_10_code 63 = .ok (.iadd, 1) := by decide +kernel
theorem d_Model_link_64 : decode prog_9_method_10_code 64 = .ok (.iconst 1, 1) := by decide +kernel
theorem d_Model_link_65 : decode prog_9_method_10_code 65 = .ok (.bastore, 1) := by decide +kernel
theorem d_Model_link_66 : decode prog_9_method_10_code 66 = .ok (.return_, 1) := by decide +kernel
theorem d_Model_isPiece_0 : decode prog_9_method_4_code 0 = .ok (.iload_n 1, 1) := by decide +kernel
theorem d_Model_isPiece_1 : decode prog_9_method_4_code 1 = .ok (.iconst 0, 1) := by decide +kernel
theorem d_Model_isPiece_2 : decode prog_9_method_4_code 2 = .ok (.aload_n 0, 1) := by decide +kernel
theorem d_Model_isPiece_3 : decode prog_9_method_4_code 3 = .ok (.getfield 108, 3) := by decide +kernel
theorem d_Model_isPiece_6 : decode prog_9_method_4_code 6 = .ok (.iconst 1, 1) := by decide +kernel
theorem d_Model_isPiece_7 : decode prog_9_method_4_code 7 = .ok (.isub, 1) := by decide +kernel
theorem d_Model_isPiece_8 : decode prog_9_method_4_code 8 = .ok (.invokestatic 111, 3) := by decide +kernel
theorem d_Model_isPiece_11 : decode prog_9_method_4_code 11 = .ok (.ireturn, 1) := by decide +kernel
theorem d_Model_in_0 : decode prog_9_method_3_code 0 = .ok (.iload_n 0, 1) := by decide +kernel
theorem d_Model_in_1 : decode prog_9_method_3_code 1 = .ok (.iload_n 1, 1) := by decide +kernel
theorem d_Model_in_2 : decode prog_9_method_3_code 2 = .ok (.if_icmp .lt 12, 3) := by decide +kernel
theorem d_Model_in_5 : decode prog_9_method_3_code 5 = .ok (.iload_n 0, 1) := by decide +kernel
theorem d_Model_in_6 : decode prog_9_method_3_code 6 = .ok (.iload_n 2, 1) := by decide +kernel
theorem d_Model_in_7 : decode prog_9_method_3_code 7 = .ok (.if_icmp .gt 7, 3) := by decide +kernel
theorem d_Model_in_10 : decode prog_9_method_3_code 10 = .ok (.iconst 1, 1) := by decide +kernel
theorem d_Model_in_11 : decode prog_9_method_3_code 11 = .ok (.goto 4, 3) := by decide +kernel
theorem d_Model_in_14 : decode prog_9_method_3_code 14 = .ok (.iconst 0, 1) := by decide +kernel
theorem d_Model_in_15 : decode prog_9_method_3_code 15 = .ok (.ireturn, 1) := by decide +kernel
theorem d_Model_robot_0 : decode prog_9_method_11_code 0 = .ok (.aload_n 0, 1) := by decide +kernel
theorem d_Model_robot_1 : decode prog_9_method_11_code 1 = .ok (.aload_n 0, 1) := by decide +kernel
theorem d_Model_robot_2 : decode prog_9_method_11_code 2 = .ok (.iload_n 1, 1) := by decide +kernel
theorem d_Model_robot_3 : decode prog_9_method_11_code 3 = .ok (.invokevirtual 124, 3) := by decide +kernel
theorem d_Model_robot_6 : decode prog_9_method_11_code 6 = .ok (.ifCond .ne 7, 3) := by decide +kernel
theorem d_Model_robot_9 : decode prog_9_method_11_code 9 = .ok (.iconst 1, 1) := by decide +kernel
theorem d_Model_robot_10 : decode prog_9_method_11_code 10 = .ok (.goto 17, 3) := by decide +kernel
theorem d_Model_robot_13 : decode prog_9_method_11_code 13 = .ok (.aload_n 0, 1) := by decide +kernel
theorem d_Model_robot_14 : decode prog_9_method_11_code 14 = .ok (.getfield 115, 3) := by decide +kernel
theorem d_Model_robot_17 : decode prog_9_method_11_code 17 = .ok (.bipush 8, 2) := by decide +kernel
theorem d_Model_robot_19 : decode prog_9_method_11_code 19 = .ok (.if_icmp .ne 7, 3) := by decide +kernel
theorem d_Model_robot_22 : decode prog_9_method_11_code 22 = .ok (.iconst 2, 1) := by decide +kernel
theorem d_Model_robot_23 : decode prog_9_method_11_code 23 = .ok (.goto 4, 3) := by decide +kernel
theorem d_Model_robot_26 : decode prog_9_method_11_code 26 = .ok (.iconst 0, 1) := by decide +kernel
theorem d_Model_robot_27 : decode prog_9_method_11_code 27 = .ok (.putfield 104, 3) := by decide +kernel
theorem d_Model_robot_30 : decode prog_9_method_11_code 30 = .ok (.aload_n 0, 1) := by decide +kernel
theorem d_Model_robot_31 : decode prog_9_method_11_code 31 = .ok (.getfield 104, 3) := by decide +kernel
theorem d_Model_robot_34 : decode prog_9_method_11_code 34 = .ok (.ifCond .le 5, 3) := by decide +kernel
theorem d_Model_robot_37 : decode prog_9_method_11_code 37 = .ok (.iconst 0, 1) := by decide +kernel
theorem d_Model_robot_38 : decode prog_9_method_11_code 38 = .ok (.ireturn, 1) := by decide +kernel
theorem d_Model_robot_39 : decode prog_9_method_11_code 39 = .ok (.aload_n 0, 1) := by decide +kernel
theorem d_Model_robot_40 : decode prog_9_method_11_code 40 = .ok (.getfield 13, 3) := by decide +kernel
theorem d_Model_robot_43 : decode prog_9_method_11_code 43 = .ok (.aload_n 0, 1) := by decide +kernel
theorem d_Model_robot_44 : decode prog_9_method_11_code 44 = .ok (.getfield 115, 3) := by decide +kernel
theorem d_Model_robot_47 : decode prog_9_method_11_code 47 = .ok (.iload_n 1, 1) := by decide +kernel
theorem d_Model_robot_48 : decode prog_9_method_11_code 48 = .ok (.iastore, 1) := by decide +kernel
theorem d_Model_robot_49 : decode prog_9_method_11_code 49 = .ok (.aload_n 0, 1) := by decide +kernel
theorem d_Model_robot_50 : decode prog_9_method_11_code 50 = .ok (.getfield 17, 3) := by decide +kernel
theorem d_Model_robot_53 : decode prog_9_method_11_code 53 = .ok (.aload_n 0, 1) := by decide +kernel
theorem d_Model_robot_54 : decode prog_9_method_11_code 54 = .ok (.getfield 115, 3) := by decide +kernel
theorem d_Model_robot_57 : decode prog_9_method_11_code 57 = .ok (.iconst (-1), 1) := by decide +kernel
theorem d_Model_robot_58 : decode prog_9_method_11_code 58 = .ok (.iastore, 1) := by decide +kernel
theorem d_Model_robot_59 : decode prog_9_method_11_code 59 = .ok (.aload_n 0, 1) := by decide +kernel
theorem d_Model_robot_60 : decode prog_9_method_11_code 60 = .ok (.dup, 1) := by decide +kernel
theorem d_Model_robot_61 : decode prog_9_method_11_code 61 = .ok (.getfield 115, 3) := by decide +kernel
theorem d_Model_robot_64 : decode prog_9_method_11_code 64 = .ok (.iconst 1, 1) := by decide +kernel
theorem d_Model_robot_65 : decode prog_9_method_11_code 65 = .ok (.iadd, 1) := by decide +kernel
theorem d_Model_robot_66 : decode prog_9_method_11_code 66 = .ok (.putfield 115, 3) := by decide +kernel
theorem d_Model_robot_69 : decode prog_9_method_11_code 69 = .ok (.aload_n 0, 1) := by decide +kernel
theorem d_Model_robot_70 : decode prog_9_method_11_code 70 = .ok (.getfield 115, 3) := by decide +kernel
theorem d_Model_robot_73 : decode prog_9_method_11_code 73 = .ok (.iconst 1, 1) := by decide +kernel
theorem d_Model_robot_74 : decode prog_9_method_11_code 74 = .ok (.isub, 1) := by decide +kernel
theorem d_Model_robot_75 : decode prog_9_method_11_code 75 = .ok (.ireturn, 1) := by decide +kernel
theorem d_Model_rule_0 : decode prog_9_method_12_code 0 = .ok (.aload_n 0, 1) := by decide +kernel
theorem d_Model_rule_1 : decode prog_9_method_12_code 1 = .ok (.iload_n 1, 1) := by decide +kernel
theorem d_Model_rule_2 : decode prog_9_method_12_code 2 = .ok (.invokestatic 128, 3) := by decide +kernel
theorem d_Model_rule_5 : decode prog_9_method_12_code 5 = .ok (.ifCond .eq 26, 3) := by decide +kernel
theorem d_Model_rule_8 : decode prog_9_method_12_code 8 = .ok (.iload_n 2, 1) := by decide +kernel
theorem d_Model_rule_9 : decode prog_9_method_12_code 9 = .ok (.iconst 1, 1) := by decide +kernel
theorem d_Model_rule_10 : decode prog_9_method_12_code 10 = .ok (.iconst 2, 1) := by decide +kernel
theorem d_Model_rule_11 : decode prog_9_method_12_code 11 = .ok (.invokestatic 111, 3) := by decide +kernel
theorem d_Model_rule_14 : decode prog_9_method_12_code 14 = .ok (.ifCond .eq 17, 3) := by decide +kernel
theorem d_Model_rule_17 : decode prog_9_method_12_code 17 = .ok (.iload 4, 2) := by decide +kernel
theorem d_Model_rule_19 : decode prog_9_method_12_code 19 = .ok (.iconst 1, 1) := by decide +kernel
theorem d_Model_rule_20 : decode prog_9_method_12_code 20 = .ok (.iconst 5, 1) := by decide +kernel
theorem d_Model_rule_21 : decode prog_9_method_12_code 21 = .ok (.invokestatic 111, 3) := by decide +kernel
theorem d_Model_rule_24 : decode prog_9_method_12_code 24 = .ok (.ifCond .eq 7, 3) := by decide +kernel
theorem d_Model_rule_27 : decode prog_9_method_12_code 27 = .ok (.iconst 0, 1) := by decide +kernel
theorem d_Model_rule_28 : decode prog_9_method_12_code 28 = .ok (.goto 4, 3) := by decide +kernel
theorem d_Model_rule_31 : decode prog_9_method_12_code 31 = .ok (.iconst 1, 1) := by decide +kernel
theorem d_Model_rule_32 : decode prog_9_method_12_code 32 = .ok (.putfield 104, 3) := by decide +kernel
theorem d_Model_rule_35 : decode prog_9_method_12_code 35 = .ok (.aload_n 0, 1) := by decide +kernel
theorem d_Model_rule_36 : decode prog_9_method_12_code 36 = .ok (.getfield 104, 3) := by decide +kernel
theorem d_Model_rule_39 : decode prog_9_method_12_code 39 = .ok (.ifCond .le 4, 3) := by decide +kernel
theorem d_Model_rule_42 : decode prog_9_method_12_code 42 = .ok (.return_, 1) := by decide +kernel
theorem d_Model_rule_43 : decode prog_9_method_12_code 43 = .ok (.aload_n 0, 1) := by decide +kernel
theorem d_Model_rule_44 : decode prog_9_method_12_code 44 = .ok (.getfield 29, 3) := by decide +kernel
theorem d_Model_rule_47 : decode prog_9_method_12_code 47 = .ok (.iload_n 1, 1) := by decide +kernel
theorem d_Model_rule_48 : decode prog_9_method_12_code 48 = .ok (.iload_n 2, 1) := by decide +kernel
theorem d_Model_rule_49 : decode prog_9_method_12_code 49 = .ok (.iastore, 1) := by decide +kernel
theorem d_Model_rule_50 : decode prog_9_method_12_code 50 = .ok (.aload_n 0, 1) := by decide +kernel
theorem d_Model_rule_51 : decode prog_9_method_12_code 51 = .ok (.getfield 32, 3) := by decide +kernel
theorem d_Model_rule_54 : decode prog_9_method_12_code 54 = .ok (.iload_n 1, 1) := by decide +kernel
theorem d_Model_rule_55 : decode prog_9_method_12_code 55 = .ok (.iload_n 3, 1) := by decide +kernel
theorem d_Model_rule_56 : decode prog_9_method_12_code 56 = .ok (.bastore, 1) := by decide +kernel
theorem d_Model_rule_57 : decode prog_9_method_12_code 57 = .ok (.aload_n 0, 1) := by decide +kernel
theorem d_Model_rule_58 : decode prog_9_method_12_code 58 = .ok (.getfield 35, 3) := by decide +kernel
theorem d_Model_rule_61 : decode prog_9_method_12_code 61 = .ok (.iload_n 1, 1) := by decide +kernel
theorem d_Model_rule_62 : decode prog_9_method_12_code 62 = .ok (.iload 4, 2) := by decide +kernel
theorem d_Model_rule_64 : decode prog_9_method_12_code 64 = .ok (.iastore, 1) := by decide +kernel
theorem d_Model_rule_65 : decode prog_9_method_12_code 65 = .ok (.return_, 1) := by decide +kernel
theorem d_Model_isKind_0 : decode prog_9_method_8_code 0 = .ok (.iload_n 0, 1) := by decide +kernel
theorem d_Model_isKind_1 : decode prog_9_method_8_code 1 = .ok (.iconst 0, 1) := by decide +kernel
theorem d_Model_isKind_2 : decode prog_9_method_8_code 2 = .ok (.bipush 7, 2) := by decide +kernel
theorem d_Model_isKind_4 : decode prog_9_method_8_code 4 = .ok (.invokestatic 111, 3) := by decide +kernel
theorem d_Model_isKind_7 : decode prog_9_method_8_code 7 = .ok (.ireturn, 1) := by decide +kernel
theorem d_Model_move_0 : decode prog_9_method_13_code 0 = .ok (.aload_n 0, 1) := by decide +kernel
theorem d_Model_move_1 : decode prog_9_method_13_code 1 = .ok (.aload_n 0, 1) := by decide +kernel
end
section
/-! decode rows: printed by wip/gen/names.py -/
theorem d_Model_move_2 : decode prog_9_method_13_code 2 = .ok (.iload_n 1, 1) := by decide +kernel
theorem d_Model_move_3 : decode prog_9_method_13_code 3 = .ok (.invokevirtual 131, 3) := by decide +kernel
theorem d_Model_move_6 : decode prog_9_method_13_code 6 = .ok (.ifCond .eq 11, 3) := by decide +kernel
theorem d_Model_move_9 : decode prog_9_method_13_code 9 = .ok (.aload_n 0, 1) := by decide +kernel
theorem d_Model_move_10 : decode prog_9_method_13_code 10 = .ok (.iload_n 2, 1) := by decide +kernel
theorem d_Model_move_11 : decode prog_9_method_13_code 11 = .ok (.invokevirtual 124, 3) := by decide +kernel
theorem d_Model_move_14 : decode prog_9_method_13_code 14 = .ok (.ifCond .ne 7, 3) := by decide +kernel
theorem d_Model_move_17 : decode prog_9_method_13_code 17 = .ok (.iconst 1, 1) := by decide +kernel
theorem d_Model_move_18 : decode prog_9_method_13_code 18 = .ok (.goto 4, 3) := by decide +kernel
theorem d_Model_move_21 : decode prog_9_method_13_code 21 = .ok (.iconst 0, 1) := by decide +kernel
theorem d_Model_move_22 : decode prog_9_method_13_code 22 = .ok (.putfield 104, 3) := by decide +kernel
theorem d_Model_move_25 : decode prog_9_method_13_code 25 = .ok (.aload_n 0, 1) := by decide +kernel
theorem d_Model_move_26 : decode prog_9_method_13_code 26 = .ok (.getfield 104, 3) := by decide +kernel
theorem d_Model_move_29 : decode prog_9_method_13_code 29 = .ok (.ifCond .ne 40, 3) := by decide +kernel
theorem d_Model_move_32 : decode prog_9_method_13_code 32 = .ok (.aload_n 0, 1) := by decide +kernel
theorem d_Model_move_33 : decode prog_9_method_13_code 33 = .ok (.aload_n 0, 1) := by decide +kernel
theorem d_Model_move_34 : decode prog_9_method_13_code 34 = .ok (.getfield 20, 3) := by decide +kernel
theorem d_Model_move_37 : decode prog_9_method_13_code 37 = .ok (.iload_n 1, 1) := by decide +kernel
theorem d_Model_move_38 : decode prog_9_method_13_code 38 = .ok (.iaload, 1) := by decide +kernel
theorem d_Model_move_39 : decode prog_9_method_13_code 39 = .ok (.ifCond .ne 22, 3) := by decide +kernel
theorem d_Model_move_42 : decode prog_9_method_13_code 42 = .ok (.aload_n 0, 1) := by decide +kernel
theorem d_Model_move_43 : decode prog_9_method_13_code 43 = .ok (.getfield 7, 3) := by decide +kernel
theorem d_Model_move_46 : decode prog_9_method_13_code 46 = .ok (.bipush 20, 2) := by decide +kernel
theorem d_Model_move_48 : decode prog_9_method_13_code 48 = .ok (.aload_n 0, 1) := by decide +kernel
theorem d_Model_move_49 : decode prog_9_method_13_code 49 = .ok (.getfield 13, 3) := by decide +kernel
theorem d_Model_move_52 : decode prog_9_method_13_code 52 = .ok (.iload_n 1, 1) := by decide +kernel
theorem d_Model_move_53 : decode prog_9_method_13_code 53 = .ok (.iaload, 1) := by decide +kernel
theorem d_Model_move_54 : decode prog_9_method_13_code 54 = .ok (.imul, 1) := by decide +kernel
theorem d_Model_move_55 : decode prog_9_method_13_code 55 = .ok (.iload_n 2, 1) := by decide +kernel
theorem d_Model_move_56 : decode prog_9_method_13_code 56 = .ok (.iadd, 1) := by decide +kernel
theorem d_Model_move_57 : decode prog_9_method_13_code 57 = .ok (.baload, 1) := by decide +kernel
theorem d_Model_move_58 : decode prog_9_method_13_code 58 = .ok (.ifCond .ne 7, 3) := by decide +kernel
theorem d_Model_move_61 : decode prog_9_method_13_code 61 = .ok (.iconst 2, 1) := by decide +kernel
theorem d_Model_move_62 : decode prog_9_method_13_code 62 = .ok (.goto 4, 3) := by decide +kernel
theorem d_Model_move_65 : decode prog_9_method_13_code 65 = .ok (.iconst 0, 1) := by decide +kernel
theorem d_Model_move_66 : decode prog_9_method_13_code 66 = .ok (.putfield 104, 3) := by decide +kernel
theorem d_Model_move_69 : decode prog_9_method_13_code 69 = .ok (.aload_n 0, 1) := by decide +kernel
theorem d_Model_move_70 : decode prog_9_method_13_code 70 = .ok (.getfield 104, 3) := by decide +kernel
theorem d_Model_move_73 : decode prog_9_method_13_code 73 = .ok (.ifCond .ne 10, 3) := by decide +kernel
theorem d_Model_move_76 : decode prog_9_method_13_code 76 = .ok (.aload_n 0, 1) := by decide +kernel
theorem d_Model_move_77 : decode prog_9_method_13_code 77 = .ok (.getfield 13, 3) := by decide +kernel
theorem d_Model_move_80 : decode prog_9_method_13_code 80 = .ok (.iload_n 1, 1) := by decide +kernel
theorem d_Model_move_81 : decode prog_9_method_13_code 81 = .ok (.iload_n 2, 1) := by decide +kernel
theorem d_Model_move_82 : decode prog_9_method_13_code 82 = .ok (.iastore, 1) := by decide +kernel
theorem d_Model_move_83 : decode prog_9_method_13_code 83 = .ok (.return_, 1) := by decide +kernel
theorem d_Model_isRobot_0 : decode prog_9_method_5_code 0 = .ok (.iload_n 1, 1) := by decide +kernel
theorem d_Model_isRobot_1 : decode prog_9_method_5_code 1 = .ok (.iconst 0, 1) := by decide +kernel
theorem d_Model_isRobot_2 : decode prog_9_method_5_code 2 = .ok (.aload_n 0, 1) := by decide +kernel
theorem d_Model_isRobot_3 : decode prog_9_method_5_code 3 = .ok (.getfield 115, 3) := by decide +kernel
theorem d_Model_isRobot_6 : decode prog_9_method_5_code 6 = .ok (.iconst 1, 1) := by decide +kernel
theorem d_Model_isRobot_7 : decode prog_9_method_5_code 7 = .ok (.isub, 1) := by decide +kernel
theorem d_Model_isRobot_8 : decode prog_9_method_5_code 8 = .ok (.invokestatic 111, 3) := by decide +kernel
theorem d_Model_isRobot_11 : decode prog_9_method_5_code 11 = .ok (.ireturn, 1) := by decide +kernel
theorem d_Model_load_0 : decode prog_9_method_14_code 0 = .ok (.aload_n 0, 1) := by decide +kernel
theorem d_Model_load_1 : decode prog_9_method_14_code 1 = .ok (.aload_n 0, 1) := by decide +kernel
theorem d_Model_load_2 : decode prog_9_method_14_code 2 = .ok (.iload_n 1, 1) := by decide +kernel
theorem d_Model_load_3 : decode prog_9_method_14_code 3 = .ok (.invokevirtual 131, 3) := by decide +kernel
theorem d_Model_load_6 : decode prog_9_method_14_code 6 = .ok (.ifCond .ne 7, 3) := by decide +kernel
theorem d_Model_load_9 : decode prog_9_method_14_code 9 = .ok (.iconst 1, 1) := by decide +kernel
theorem d_Model_load_10 : decode prog_9_method_14_code 10 = .ok (.goto 18, 3) := by decide +kernel
theorem d_Model_load_13 : decode prog_9_method_14_code 13 = .ok (.iload_n 2, 1) := by decide +kernel
theorem d_Model_load_14 : decode prog_9_method_14_code 14 = .ok (.iconst (-1), 1) := by decide +kernel
theorem d_Model_load_15 : decode prog_9_method_14_code 15 = .ok (.bipush 99, 2) := by decide +kernel
theorem d_Model_load_17 : decode prog_9_method_14_code 17 = .ok (.invokestatic 111, 3) := by decide +kernel
theorem d_Model_load_20 : decode prog_9_method_14_code 20 = .ok (.ifCond .ne 7, 3) := by decide +kernel
theorem d_Model_load_23 : decode prog_9_method_14_code 23 = .ok (.iconst 2, 1) := by decide +kernel
theorem d_Model_load_24 : decode prog_9_method_14_code 24 = .ok (.goto 4, 3) := by decide +kernel
theorem d_Model_load_27 : decode prog_9_method_14_code 27 = .ok (.iconst 0, 1) := by decide +kernel
theorem d_Model_load_28 : decode prog_9_method_14_code 28 = .ok (.putfield 104, 3) := by decide +kernel
theorem d_Model_load_31 : decode prog_9_method_14_code 31 = .ok (.aload_n 0, 1) := by decide +kernel
theorem d_Model_load_32 : decode prog_9_method_14_code 32 = .ok (.getfield 104, 3) := by decide +kernel
theorem d_Model_load_35 : decode prog_9_method_14_code 35 = .ok (.ifCond .ne 22, 3) := by decide +kernel
theorem d_Model_load_38 : decode prog_9_method_14_code 38 = .ok (.aload_n 0, 1) := by decide +kernel
theorem d_Model_load_39 : decode prog_9_method_14_code 39 = .ok (.aload_n 0, 1) := by decide +kernel
theorem d_Model_load_40 : decode prog_9_method_14_code 40 = .ok (.getfield 20, 3) := by decide +kernel
theorem d_Model_load_43 : decode prog_9_method_14_code 43 = .ok (.iload_n 1, 1) := by decide +kernel
theorem d_Model_load_44 : decode prog_9_method_14_code 44 = .ok (.iaload, 1) := by decide +kernel
theorem d_Model_load_45 : decode prog_9_method_14_code 45 = .ok (.iconst 2, 1) := by decide +kernel
theorem d_Model_load_46 : decode prog_9_method_14_code 46 = .ok (.if_icmp .ne 7, 3) := by decide +kernel
theorem d_Model_load_49 : decode prog_9_method_14_code 49 = .ok (.iconst 3, 1) := by decide +kernel
theorem d_Model_load_50 : decode prog_9_method_14_code 50 = .ok (.goto 4, 3) := by decide +kernel
theorem d_Model_load_53 : decode prog_9_method_14_code 53 = .ok (.iconst 0, 1) := by decide +kernel
theorem d_Model_load_54 : decode prog_9_method_14_code 54 = .ok (.putfield 104, 3) := by decide +kernel
theorem d_Model_load_57 : decode prog_9_method_14_code 57 = .ok (.aload_n 0, 1) := by decide +kernel
theorem d_Model_load_58 : decode prog_9_method_14_code 58 = .ok (.getfield 104, 3) := by decide +kernel
theorem d_Model_load_61 : decode prog_9_method_14_code 61 = .ok (.ifCond .ne 10, 3) := by decide +kernel
theorem d_Model_load_64 : decode prog_9_method_14_code 64 = .ok (.aload_n 0, 1) := by decide +kernel
theorem d_Model_load_65 : decode prog_9_method_14_code 65 = .ok (.getfield 17, 3) := by decide +kernel
theorem d_Model_load_68 : decode prog_9_method_14_code 68 = .ok (.iload_n 1, 1) := by decide +kernel
theorem d_Model_load_69 : decode prog_9_method_14_code 69 = .ok (.iload_n 2, 1) := by decide +kernel
theorem d_Model_load_70 : decode prog_9_method_14_code 70 = .ok (.iastore, 1) := by decide +kernel
theorem d_Model_load_71 : decode prog_9_method_14_code 71 = .ok (.return_, 1) := by decide +kernel
theorem d_Model_fault_0 : decode prog_9_method_20_code 0 = .ok (.aload_n 0, 1) := by decide +kernel
theorem d_Model_fault_1 : decode prog_9_method_20_code 1 = .ok (.aload_n 0, 1) := by decide +kernel
theorem d_Model_fault_2 : decode prog_9_method_20_code 2 = .ok (.iload_n 1, 1) := by decide +kernel
theorem d_Model_fault_3 : decode prog_9_method_20_code 3 = .ok (.invokevirtual 131, 3) := by decide +kernel
theorem d_Model_fault_6 : decode prog_9_method_20_code 6 = .ok (.ifCond .ne 7, 3) := by decide +kernel
theorem d_Model_fault_9 : decode prog_9_method_20_code 9 = .ok (.iconst 1, 1) := by decide +kernel
theorem d_Model_fault_10 : decode prog_9_method_20_code 10 = .ok (.goto 15, 3) := by decide +kernel
theorem d_Model_fault_13 : decode prog_9_method_20_code 13 = .ok (.iload_n 2, 1) := by decide +kernel
theorem d_Model_fault_14 : decode prog_9_method_20_code 14 = .ok (.invokestatic 128, 3) := by decide +kernel
theorem d_Model_fault_17 : decode prog_9_method_20_code 17 = .ok (.ifCond .ne 7, 3) := by decide +kernel
theorem d_Model_fault_20 : decode prog_9_method_20_code 20 = .ok (.iconst 2, 1) := by decide +kernel
theorem d_Model_fault_21 : decode prog_9_method_20_code 21 = .ok (.goto 4, 3) := by decide +kernel
theorem d_Model_fault_24 : decode prog_9_method_20_code 24 = .ok (.iconst 0, 1) := by decide +kernel
theorem d_Model_fault_25 : decode prog_9_method_20_code 25 = .ok (.putfield 104, 3) := by decide +kernel
theorem d_Model_fault_28 : decode prog_9_method_20_code 28 = .ok (.aload_n 0, 1) := by decide +kernel
theorem d_Model_fault_29 : decode prog_9_method_20_code 29 = .ok (.getfield 104, 3) := by decide +kernel
theorem d_Model_fault_32 : decode prog_9_method_20_code 32 = .ok (.ifCond .ne 13, 3) := by decide +kernel
theorem d_Model_fault_35 : decode prog_9_method_20_code 35 = .ok (.aload_n 0, 1) := by decide +kernel
theorem d_Model_fault_36 : decode prog_9_method_20_code 36 = .ok (.aload_n 0, 1) := by decide +kernel
theorem d_Model_fault_37 : decode prog_9_method_20_code 37 = .ok (.iload_n 1, 1) := by decide +kernel
theorem d_Model_fault_38 : decode prog_9_method_20_code 38 = .ok (.iload_n 2, 1) := by decide +kernel
theorem d_Model_fault_39 : decode prog_9_method_20_code 39 = .ok (.invokevirtual 144, 3) := by decide +kernel
theorem d_Model_fault_42 : decode prog_9_method_20_code 42 = .ok (.putfield 104, 3) := by decide +kernel
theorem d_Model_fault_45 : decode prog_9_method_20_code 45 = .ok (.aload_n 0, 1) := by decide +kernel
theorem d_Model_fault_46 : decode prog_9_method_20_code 46 = .ok (.getfield 104, 3) := by decide +kernel
theorem d_Model_fault_49 : decode prog_9_method_20_code 49 = .ok (.ifCond .le 7, 3) := by decide +kernel
theorem d_Model_fault_52 : decode prog_9_method_20_code 52 = .ok (.iconst 0, 1) := by decide +kernel
theorem d_Model_fault_53 : decode prog_9_method_20_code 53 = .ok (.goto 10, 3) := by decide +kernel
theorem d_Model_fault_56 : decode prog_9_method_20_code 56 = .ok (.aload_n 0, 1) := by decide +kernel
theorem d_Model_fault_57 : decode prog_9_method_20_code 57 = .ok (.iload_n 1, 1) := by decide +kernel
theorem d_Model_fault_58 : decode prog_9_method_20_code 58 = .ok (.iload_n 2, 1) := by decide +kernel
theorem d_Model_fault_59 : decode prog_9_method_20_code 59 = .ok (.iconst 0, 1) := by decide +kernel
theorem d_Model_fault_60 : decode prog_9_method_20_code 60 = .ok (.invokevirtual 147, 3) := by decide +kernel
theorem d_Model_fault_63 : decode prog_9_method_20_code 63 = .ok (.ireturn, 1) := by decide +kernel
theorem d_Model_bars_0 : decode prog_9_method_18_code 0 = .ok (.iload_n 2, 1) := by decide +kernel
theorem d_Model_bars_1 : decode prog_9_method_18_code 1 = .ok (.iconst 2, 1) := by decide +kernel
theorem d_Model_bars_2 : decode prog_9_method_18_code 2 = .ok (.if_icmp .ne 17, 3) := by decide +kernel
theorem d_Model_bars_5 : decode prog_9_method_18_code 5 = .ok (.aload_n 0, 1) := by decide +kernel
theorem d_Model_bars_6 : decode prog_9_method_18_code 6 = .ok (.getfield 17, 3) := by decide +kernel
theorem d_Model_bars_9 : decode prog_9_method_18_code 9 = .ok (.iload_n 1, 1) := by decide +kernel
theorem d_Model_bars_10 : decode prog_9_method_18_code 10 = .ok (.iaload, 1) := by decide +kernel
theorem d_Model_bars_11 : decode prog_9_method_18_code 11 = .ok (.iconst (-1), 1) := by decide +kernel
theorem d_Model_bars_12 : decode prog_9_method_18_code 12 = .ok (.if_icmp .ne 7, 3) := by decide +kernel
theorem d_Model_bars_15 : decode prog_9_method_18_code 15 = .ok (.iconst 3, 1) := by decide +kernel
theorem d_Model_bars_16 : decode prog_9_method_18_code 16 = .ok (.goto 17, 3) := by decide +kernel
theorem d_Model_bars_19 : decode prog_9_method_18_code 19 = .ok (.aload_n 0, 1) := by decide +kernel
theorem d_Model_bars_20 : decode prog_9_method_18_code 20 = .ok (.getfield 118, 3) := by decide +kernel
theorem d_Model_bars_23 : decode prog_9_method_18_code 23 = .ok (.bipush 40, 2) := by decide +kernel
theorem d_Model_bars_25 : decode prog_9_method_18_code 25 = .ok (.if_icmp .ne 7, 3) := by decide +kernel
theorem d_Model_bars_28 : decode prog_9_method_18_code 28 = .ok (.iconst 4, 1) := by decide +kernel
theorem d_Model_bars_29 : decode prog_9_method_18_code 29 = .ok (.goto 4, 3) := by decide +kernel
theorem d_Model_bars_32 : decode prog_9_method_18_code 32 = .ok (.iconst 0, 1) := by decide +kernel
theorem d_Model_bars_33 : decode prog_9_method_18_code 33 = .ok (.ireturn, 1) := by decide +kernel
theorem d_Model_come_0 : decode prog_9_method_19_code 0 = .ok (.aload_n 0, 1) := by decide +kernel
theorem d_Model_come_1 : decode prog_9_method_19_code 1 = .ok (.iload_n 1, 1) := by decide +kernel
theorem d_Model_come_2 : decode prog_9_method_19_code 2 = .ok (.iload_n 2, 1) := by decide +kernel
theorem d_Model_come_3 : decode prog_9_method_19_code 3 = .ok (.invokevirtual 134, 3) := by decide +kernel
theorem d_Model_come_6 : decode prog_9_method_19_code 6 = .ok (.ifCond .le 11, 3) := by decide +kernel
theorem d_Model_come_9 : decode prog_9_method_19_code 9 = .ok (.aload_n 0, 1) := by decide +kernel
theorem d_Model_come_10 : decode prog_9_method_19_code 10 = .ok (.iload_n 1, 1) := by decide +kernel
theorem d_Model_come_11 : decode prog_9_method_19_code 11 = .ok (.iload_n 2, 1) := by decide +kernel
theorem d_Model_come_12 : decode prog_9_method_19_code 12 = .ok (.invokevirtual 134, 3) := by decide +kernel
theorem d_Model_come_15 : decode prog_9_method_19_code 15 = .ok (.ineg, 1) := by decide +kernel
theorem d_Model_come_16 : decode prog_9_method_19_code 16 = .ok (.ireturn, 1) := by decide +kernel
theorem d_Model_come_17 : decode prog_9_method_19_code 17 = .ok (.aload_n 0, 1) := by decide +kernel
theorem d_Model_come_18 : decode prog_9_method_19_code 18 = .ok (.dup, 1) := by decide +kernel
theorem d_Model_come_19 : decode prog_9_method_19_code 19 = .ok (.getfield 118, 3) := by decide +kernel
theorem d_Model_come_22 : decode prog_9_method_19_code 22 = .ok (.iconst 1, 1) := by decide +kernel
theorem d_Model_come_23 : decode prog_9_method_19_code 23 = .ok (.iadd, 1) := by decide +kernel
theorem d_Model_come_24 : decode prog_9_method_19_code 24 = .ok (.putfield 118, 3) := by decide +kernel
theorem d_Model_come_27 : decode prog_9_method_19_code 27 = .ok (.aload_n 0, 1) := by decide +kernel
theorem d_Model_come_28 : decode prog_9_method_19_code 28 = .ok (.getfield 118, 3) := by decide +kernel
theorem d_Model_come_31 : decode prog_9_method_19_code 31 = .ok (.istore 4, 2) := by decide +kernel
theorem d_Model_come_33 : decode prog_9_method_19_code 33 = .ok (.aload_n 0, 1) := by decide +kernel
theorem d_Model_come_34 : decode prog_9_method_19_code 34 = .ok (.getfield 38, 3) := by decide +kernel
theorem d_Model_come_37 : decode prog_9_method_19_code 37 = .ok (.iload 4, 2) := by decide +kernel
theorem d_Model_come_39 : decode prog_9_method_19_code 39 = .ok (.iload_n 1, 1) := by decide +kernel
theorem d_Model_come_40 : decode prog_9_method_19_code 40 = .ok (.iastore, 1) := by decide +kernel
theorem d_Model_come_41 : decode prog_9_method_19_code 41 = .ok (.aload_n 0, 1) := by decide +kernel
theorem d_Model_come_42 : decode prog_9_method_19_code 42 = .ok (.getfield 41, 3) := by decide +kernel
theorem d_Model_come_45 : decode prog_9_method_19_code 45 = .ok (.iload 4, 2) := by decide +kernel
theorem d_Model_come_47 : decode prog_9_method_19_code 47 = .ok (.iload_n 2, 1) := by decide +kernel
theorem d_Model_come_48 : decode prog_9_method_19_code 48 = .ok (.iastore, 1) := by decide +kernel
theorem d_Model_come_49 : decode prog_9_method_19_code 49 = .ok (.aload_n 0, 1) := by decide +kernel
theorem d_Model_come_50 : decode prog_9_method_19_code 50 = .ok (.getfield 44, 3) := by decide +kernel
theorem d_Model_come_53 : decode prog_9_method_19_code 53 = .ok (.iload 4, 2) := by decide +kernel
theorem d_Model_come_55 : decode prog_9_method_19_code 55 = .ok (.aload_n 0, 1) := by decide +kernel
theorem d_Model_come_56 : decode prog_9_method_19_code 56 = .ok (.getfield 138, 3) := by decide +kernel
theorem d_Model_come_59 : decode prog_9_method_19_code 59 = .ok (.iastore, 1) := by decide +kernel
theorem d_Model_come_60 : decode prog_9_method_19_code 60 = .ok (.aload_n 0, 1) := by decide +kernel
theorem d_Model_come_61 : decode prog_9_method_19_code 61 = .ok (.getfield 47, 3) := by decide +kernel
theorem d_Model_come_64 : decode prog_9_method_19_code 64 = .ok (.iload 4, 2) := by decide +kernel
theorem d_Model_come_66 : decode prog_9_method_19_code 66 = .ok (.iconst (-1), 1) := by decide +kernel
theorem d_Model_come_67 : decode prog_9_method_19_code 67 = .ok (.iastore, 1) := by decide +kernel
theorem d_Model_come_68 : decode prog_9_method_19_code 68 = .ok (.aload_n 0, 1) := by decide +kernel
theorem d_Model_come_69 : decode prog_9_method_19_code 69 = .ok (.getfield 53, 3) := by decide +kernel
theorem d_Model_come_72 : decode prog_9_method_19_code 72 = .ok (.iload 4, 2) := by decide +kernel
theorem d_Model_come_74 : decode prog_9_method_19_code 74 = .ok (.iconst 0, 1) := by decide +kernel
theorem d_Model_come_75 : decode prog_9_method_19_code 75 = .ok (.iastore, 1) := by decide +kernel
theorem d_Model_come_76 : decode prog_9_method_19_code 76 = .ok (.aload_n 0, 1) := by decide +kernel
theorem d_Model_come_77 : decode prog_9_method_19_code 77 = .ok (.getfield 56, 3) := by decide +kernel
theorem d_Model_come_80 : decode prog_9_method_19_code 80 = .ok (.iload 4, 2) := by decide +kernel
theorem d_Model_come_82 : decode prog_9_method_19_code 82 = .ok (.aload_n 0, 1) := by decide +kernel
theorem d_Model_come_83 : decode prog_9_method_19_code 83 = .ok (.getfield 29, 3) := by decide +kernel
theorem d_Model_come_86 : decode prog_9_method_19_code 86 = .ok (.iload_n 2, 1) := by decide +kernel
theorem d_Model_come_87 : decode prog_9_method_19_code 87 = .ok (.iaload, 1) := by decide +kernel
theorem d_Model_come_88 : decode prog_9_method_19_code 88 = .ok (.iastore, 1) := by decide +kernel
theorem d_Model_come_89 : decode prog_9_method_19_code 89 = .ok (.aload_n 0, 1) := by decide +kernel
theorem d_Model_come_90 : decode prog_9_method_19_code 90 = .ok (.getfield 59, 3) := by decide +kernel
theorem d_Model_come_93 : decode prog_9_method_19_code 93 = .ok (.iload 4, 2) := by decide +kernel
theorem d_Model_come_95 : decode prog_9_method_19_code 95 = .ok (.iload_n 3, 1) := by decide +kernel
theorem d_Model_come_96 : decode prog_9_method_19_code 96 = .ok (.bastore, 1) := by decide +kernel
theorem d_Model_come_97 : decode prog_9_method_19_code 97 = .ok (.aload_n 0, 1) := by decide +kernel
theorem d_Model_come_98 : decode prog_9_method_19_code 98 = .ok (.getfield 62, 3) := by decide +kernel
theorem d_Model_come_101 : decode prog_9_method_19_code 101 = .ok (.iload 4, 2) := by decide +kernel
theorem d_Model_come_103 : decode prog_9_method_19_code 103 = .ok (.aload_n 0, 1) := by decide +kernel
theorem d_Model_come_104 : decode prog_9_method_19_code 104 = .ok (.getfield 13, 3) := by decide +kernel
theorem d_Model_come_107 : decode prog_9_method_19_code 107 = .ok (.iload_n 1, 1) := by decide +kernel
theorem d_Model_come_108 : decode prog_9_method_19_code 108 = .ok (.iaload, 1) := by decide +kernel
theorem d_Model_come_109 : decode prog_9_method_19_code 109 = .ok (.iastore, 1) := by decide +kernel
theorem d_Model_come_110 : decode prog_9_method_19_code 110 = .ok (.aload_n 0, 1) := by decide +kernel
theorem d_Model_come_111 : decode prog_9_method_19_code 111 = .ok (.getfield 65, 3) := by decide +kernel
theorem d_Model_come_114 : decode prog_9_method_19_code 114 = .ok (.iload 4, 2) := by decide +kernel
theorem d_Model_come_116 : decode prog_9_method_19_code 116 = .ok (.iload_n 2, 1) := by decide +kernel
theorem d_Model_come_117 : decode prog_9_method_19_code 117 = .ok (.iconst 2, 1) := by decide +kernel
theorem d_Model_come_118 : decode prog_9_method_19_code 118 = .ok (.if_icmp .ne 12, 3) := by decide +kernel
theorem d_Model_come_121 : decode prog_9_method_19_code 121 = .ok (.aload_n 0, 1) := by decide +kernel
theorem d_Model_come_122 : decode prog_9_method_19_code 122 = .ok (.getfield 17, 3) := by decide +kernel
theorem d_Model_come_125 : decode prog_9_method_19_code 125 = .ok (.iload_n 1, 1) := by decide +kernel
theorem d_Model_come_126 : decode prog_9_method_19_code 126 = .ok (.iaload, 1) := by decide +kernel
theorem d_Model_come_127 : decode prog_9_method_19_code 127 = .ok (.goto 4, 3) := by decide +kernel
theorem d_Model_come_130 : decode prog_9_method_19_code 130 = .ok (.iconst (-1), 1) := by decide +kernel
theorem d_Model_come_131 : decode prog_9_method_19_code 131 = .ok (.iastore, 1) := by decide +kernel
theorem d_Model_come_132 : decode prog_9_method_19_code 132 = .ok (.iload_n 2, 1) := by decide +kernel
theorem d_Model_come_133 : decode prog_9_method_19_code 133 = .ok (.iconst 2, 1) := by decide +kernel
theorem d_Model_come_134 : decode prog_9_method_19_code 134 = .ok (.if_icmp .ne 10, 3) := by decide +kernel
theorem d_Model_come_137 : decode prog_9_method_19_code 137 = .ok (.aload_n 0, 1) := by decide +kernel
theorem d_Model_come_138 : decode prog_9_method_19_code 138 = .ok (.getfield 17, 3) := by decide +kernel
theorem d_Model_come_141 : decode prog_9_method_19_code 141 = .ok (.iload_n 1, 1) := by decide +kernel
theorem d_Model_come_142 : decode prog_9_method_19_code 142 = .ok (.iconst (-1), 1) := by decide +kernel
theorem d_Model_come_143 : decode prog_9_method_19_code 143 = .ok (.iastore, 1) := by decide +kernel
theorem d_Model_come_144 : decode prog_9_method_19_code 144 = .ok (.aload_n 0, 1) := by decide +kernel
theorem d_Model_come_145 : decode prog_9_method_19_code 145 = .ok (.getfield 32, 3) := by decide +kernel
theorem d_Model_come_148 : decode prog_9_method_19_code 148 = .ok (.iload_n 2, 1) := by decide +kernel
theorem d_Model_come_149 : decode prog_9_method_19_code 149 = .ok (.baload, 1) := by decide +kernel
theorem d_Model_come_150 : decode prog_9_method_19_code 150 = .ok (.ifCond .eq 10, 3) := by decide +kernel
theorem d_Model_come_153 : decode prog_9_method_19_code 153 = .ok (.aload_n 0, 1) := by decide +kernel
theorem d_Model_come_154 : decode prog_9_method_19_code 154 = .ok (.getfield 23, 3) := by decide +kernel
theorem d_Model_come_157 : decode prog_9_method_19_code 157 = .ok (.iload_n 1, 1) := by decide +kernel
theorem d_Model_come_158 : decode prog_9_method_19_code 158 = .ok (.iconst 1, 1) := by decide +kernel
theorem d_Model_come_159 : decode prog_9_method_19_code 159 = .ok (.bastore, 1) := by decide +kernel
theorem d_Model_come_160 : decode prog_9_method_19_code 160 = .ok (.iload_n 2, 1) := by decide +kernel
theorem d_Model_come_161 : decode prog_9_method_19_code 161 = .ok (.iconst 1, 1) := by decide +kernel
theorem d_Model_come_162 : decode prog_9_method_19_code 162 = .ok (.if_icmp .ne 23, 3) := by decide +kernel
theorem d_Model_come_165 : decode prog_9_method_19_code 165 = .ok (.aload_n 0, 1) := by decide +kernel
theorem d_Model_come_166 : decode prog_9_method_19_code 166 = .ok (.getfield 20, 3) := by decide +kernel
theorem d_Model_come_169 : decode prog_9_method_19_code 169 = .ok (.iload_n 1, 1) := by decide +kernel
theorem d_Model_come_170 : decode prog_9_method_19_code 170 = .ok (.iconst 2, 1) := by decide +kernel
theorem d_Model_come_171 : decode prog_9_method_19_code 171 = .ok (.iastore, 1) := by decide +kernel
theorem d_Model_come_172 : decode prog_9_method_19_code 172 = .ok (.aload_n 0, 1) := by decide +kernel
theorem d_Model_come_173 : decode prog_9_method_19_code 173 = .ok (.getfield 26, 3) := by decide +kernel
theorem d_Model_come_176 : decode prog_9_method_19_code 176 = .ok (.iload_n 1, 1) := by decide +kernel
theorem d_Model_come_177 : decode prog_9_method_19_code 177 = .ok (.aload_n 0, 1) := by decide +kernel
theorem d_Model_come_178 : decode prog_9_method_19_code 178 = .ok (.getfield 138, 3) := by decide +kernel
theorem d_Model_come_181 : decode prog_9_method_19_code 181 = .ok (.iastore, 1) := by decide +kernel
theorem d_Model_come_182 : decode prog_9_method_19_code 182 = .ok (.goto 19, 3) := by decide +kernel
theorem d_Model_come_185 : decode prog_9_method_19_code 185 = .ok (.aload_n 0, 1) := by decide +kernel
theorem d_Model_come_186 : decode prog_9_method_19_code 186 = .ok (.getfield 20, 3) := by decide +kernel
theorem d_Model_come_189 : decode prog_9_method_19_code 189 = .ok (.iload_n 1, 1) := by decide +kernel
theorem d_Model_come_190 : decode prog_9_method_19_code 190 = .ok (.iaload, 1) := by decide +kernel
theorem d_Model_come_191 : decode prog_9_method_19_code 191 = .ok (.ifCond .ne 10, 3) := by decide +kernel
theorem d_Model_come_194 : decode prog_9_method_19_code 194 = .ok (.aload_n 0, 1) := by decide +kernel
theorem d_Model_come_195 : decode prog_9_method_19_code 195 = .ok (.getfield 20, 3) := by decide +kernel
theorem d_Model_come_198 : decode prog_9_method_19_code 198 = .ok (.iload_n 1, 1) := by decide +kernel
theorem d_Model_come_199 : decode prog_9_method_19_code 199 = .ok (.iconst 1, 1) := by decide +kernel
theorem d_Model_come_200 : decode prog_9_method_19_code 200 = .ok (.iastore, 1) := by decide +kernel
theorem d_Model_come_201 : decode prog_9_method_19_code 201 = .ok (.aload_n 0, 1) := by decide +kernel
theorem d_Model_come_202 : decode prog_9_method_19_code 202 = .ok (.iload_n 1, 1) := by decide +kernel
theorem d_Model_come_203 : decode prog_9_method_19_code 203 = .ok (.iload_n 2, 1) := by decide +kernel
theorem d_Model_come_204 : decode prog_9_method_19_code 204 = .ok (.invokevirtual 141, 3) := by decide +kernel
theorem d_Model_come_207 : decode prog_9_method_19_code 207 = .ok (.istore 5, 2) := by decide +kernel
theorem d_Model_come_209 : decode prog_9_method_19_code 209 = .ok (.aload_n 0, 1) := by decide +kernel
theorem d_Model_come_210 : decode prog_9_method_19_code 210 = .ok (.getfield 50, 3) := by decide +kernel
theorem d_Model_come_213 : decode prog_9_method_19_code 213 = .ok (.iload 4, 2) := by decide +kernel
theorem d_Model_come_215 : decode prog_9_method_19_code 215 = .ok (.iload 5, 2) := by decide +kernel
theorem d_Model_come_217 : decode prog_9_method_19_code 217 = .ok (.iastore, 1) := by decide +kernel
theorem d_Model_come_218 : decode prog_9_method_19_code 218 = .ok (.aload_n 0, 1) := by decide +kernel
theorem d_Model_come_219 : decode prog_9_method_19_code 219 = .ok (.getfield 80, 3) := by decide +kernel
theorem d_Model_come_222 : decode prog_9_method_19_code 222 = .ok (.iload 5, 2) := by decide +kernel
theorem d_Model_come_224 : decode prog_9_method_19_code 224 = .ok (.dup2, 1) := by decide +kernel
theorem d_Model_come_225 : decode prog_9_method_19_code 225 = .ok (.iaload, 1) := by decide +kernel
theorem d_Model_come_226 : decode prog_9_method_19_code 226 = .ok (.iconst 1, 1) := by decide +kernel
theorem d_Model_come_227 : decode prog_9_method_19_code 227 = .ok (.iadd, 1) := by decide +kernel
theorem d_Model_come_228 : decode prog_9_method_19_code 228 = .ok (.iastore, 1) := by decide +kernel
theorem d_Model_come_229 : decode prog_9_method_19_code 229 = .ok (.aload_n 0, 1) := by decide +kernel
theorem d_Model_come_230 : decode prog_9_method_19_code 230 = .ok (.getfield 83, 3) := by decide +kernel
theorem d_Model_come_233 : decode prog_9_method_19_code 233 = .ok (.iload 5, 2) := by decide +kernel
theorem d_Model_come_235 : decode prog_9_method_19_code 235 = .ok (.iconst (-1), 1) := by decide +kernel
theorem d_Model_come_236 : decode prog_9_method_19_code 236 = .ok (.iastore, 1) := by decide +kernel
theorem d_Model_come_237 : decode prog_9_method_19_code 237 = .ok (.aload_n 0, 1) := by decide +kernel
theorem d_Model_come_238 : decode prog_9_method_19_code 238 = .ok (.getfield 86, 3) := by decide +kernel
theorem d_Model_come_241 : decode prog_9_method_19_code 241 = .ok (.iload 5, 2) := by decide +kernel
theorem d_Model_come_243 : decode prog_9_method_19_code 243 = .ok (.aload_n 0, 1) := by decide +kernel
theorem d_Model_come_244 : decode prog_9_method_19_code 244 = .ok (.getfield 138, 3) := by decide +kernel
theorem d_Model_come_247 : decode prog_9_method_19_code 247 = .ok (.iastore, 1) := by decide +kernel
theorem d_Model_come_248 : decode prog_9_method_19_code 248 = .ok (.aload_n 0, 1) := by decide +kernel
theorem d_Model_come_249 : decode prog_9_method_19_code 249 = .ok (.getfield 89, 3) := by decide +kernel
theorem d_Model_come_252 : decode prog_9_method_19_code 252 = .ok (.iload 5, 2) := by decide +kernel
theorem d_Model_come_254 : decode prog_9_method_19_code 254 = .ok (.iload 4, 2) := by decide +kernel
theorem d_Model_come_256 : decode prog_9_method_19_code 256 = .ok (.iastore, 1) := by decide +kernel
theorem d_Model_come_257 : decode prog_9_method_19_code 257 = .ok (.iload 4, 2) := by decide +kernel
theorem d_Model_come_259 : decode prog_9_method_19_code 259 = .ok (.ireturn, 1) := by decide +kernel
theorem d_Model_openOf_0 : decode prog_9_method_15_code 0 = .ok (.iconst 1, 1) := by decide +kernel
theorem d_Model_openOf_1 : decode prog_9_method_15_code 1 = .ok (.istore_n 3, 1) := by decide +kernel
theorem d_Model_openOf_2 : decode prog_9_method_15_code 2 = .ok (.iload_n 3, 1) := by decide +kernel
theorem d_Model_openOf_3 : decode prog_9_method_15_code 3 = .ok (.aload_n 0, 1) := by decide +kernel
theorem d_Model_openOf_4 : decode prog_9_method_15_code 4 = .ok (.getfield 118, 3) := by decide +kernel
theorem d_Model_openOf_7 : decode prog_9_method_15_code 7 = .ok (.if_icmp .gt 41, 3) := by decide +kernel
theorem d_Model_openOf_10 : decode prog_9_method_15_code 10 = .ok (.aload_n 0, 1) := by decide +kernel
theorem d_Model_openOf_11 : decode prog_9_method_15_code 11 = .ok (.getfield 38, 3) := by decide +kernel
theorem d_Model_openOf_14 : decode prog_9_method_15_code 14 = .ok (.iload_n 3, 1) := by decide +kernel
theorem d_Model_openOf_15 : decode prog_9_method_15_code 15 = .ok (.iaload, 1) := by decide +kernel
theorem d_Model_openOf_16 : decode prog_9_method_15_code 16 = .ok (.iload_n 1, 1) := by decide +kernel
theorem d_Model_openOf_17 : decode prog_9_method_15_code 17 = .ok (.if_icmp .ne 25, 3) := by decide +kernel
theorem d_Model_openOf_20 : decode prog_9_method_15_code 20 = .ok (.aload_n 0, 1) := by decide +kernel
theorem d_Model_openOf_21 : decode prog_9_method_15_code 21 = .ok (.getfield 41, 3) := by decide +kernel
theorem d_Model_openOf_24 : decode prog_9_method_15_code 24 = .ok (.iload_n 3, 1) := by decide +kernel
theorem d_Model_openOf_25 : decode prog_9_method_15_code 25 = .ok (.iaload, 1) := by decide +kernel
theorem d_Model_openOf_26 : decode prog_9_method_15_code 26 = .ok (.iload_n 2, 1) := by decide +kernel
theorem d_Model_openOf_27 : decode prog_9_method_15_code 27 = .ok (.if_icmp .ne 15, 3) := by decide +kernel
theorem d_Model_openOf_30 : decode prog_9_method_15_code 30 = .ok (.aload_n 0, 1) := by decide +kernel
theorem d_Model_openOf_31 : decode prog_9_method_15_code 31 = .ok (.getfield 47, 3) := by decide +kernel
theorem d_Model_openOf_34 : decode prog_9_method_15_code 34 = .ok (.iload_n 3, 1) := by decide +kernel
theorem d_Model_openOf_35 : decode prog_9_method_15_code 35 = .ok (.iaload, 1) := by decide +kernel
theorem d_Model_openOf_36 : decode prog_9_method_15_code 36 = .ok (.iconst (-1), 1) := by decide +kernel
theorem d_Model_openOf_37 : decode prog_9_method_15_code 37 = .ok (.if_icmp .ne 5, 3) := by decide +kernel
theorem d_Model_openOf_40 : decode prog_9_method_15_code 40 = .ok (.iload_n 3, 1) := by decide +kernel
theorem d_Model_openOf_41 : decode prog_9_method_15_code 41 = .ok (.ireturn, 1) := by decide +kernel
theorem d_Model_openOf_42 : decode prog_9_method_15_code 42 = .ok (.iinc 3 1, 3) := by decide +kernel
theorem d_Model_openOf_45 : decode prog_9_method_15_code 45 = .ok (.goto (-43), 3) := by decide +kernel
theorem d_Model_openOf_48 : decode prog_9_method_15_code 48 = .ok (.iconst 0, 1) := by decide +kernel
theorem d_Model_openOf_49 : decode prog_9_method_15_code 49 = .ok (.ireturn, 1) := by decide +kernel
theorem d_Model_alarmFor_0 : decode prog_9_method_17_code 0 = .ok (.aload_n 0, 1) := by decide +kernel
theorem d_Model_alarmFor_1 : decode prog_9_method_17_code 1 = .ok (.getfield 121, 3) := by decide +kernel
theorem d_Model_alarmFor_4 : decode prog_9_method_17_code 4 = .ok (.iconst 1, 1) := by decide +kernel
theorem d_Model_alarmFor_5 : decode prog_9_method_17_code 5 = .ok (.isub, 1) := by decide +kernel
theorem d_Model_alarmFor_6 : decode prog_9_method_17_code 6 = .ok (.istore_n 3, 1) := by decide +kernel
theorem d_Model_alarmFor_7 : decode prog_9_method_17_code 7 = .ok (.iload_n 3, 1) := by decide +kernel
theorem d_Model_alarmFor_8 : decode prog_9_method_17_code 8 = .ok (.ifCond .lt 29, 3) := by decide +kernel
theorem d_Model_alarmFor_11 : decode prog_9_method_17_code 11 = .ok (.aload_n 0, 1) := by decide +kernel
theorem d_Model_alarmFor_12 : decode prog_9_method_17_code 12 = .ok (.getfield 68, 3) := by decide +kernel
theorem d_Model_alarmFor_15 : decode prog_9_method_17_code 15 = .ok (.iload_n 3, 1) := by decide +kernel
theorem d_Model_alarmFor_16 : decode prog_9_method_17_code 16 = .ok (.iaload, 1) := by decide +kernel
theorem d_Model_alarmFor_17 : decode prog_9_method_17_code 17 = .ok (.iload_n 1, 1) := by decide +kernel
theorem d_Model_alarmFor_18 : decode prog_9_method_17_code 18 = .ok (.if_icmp .ne 13, 3) := by decide +kernel
theorem d_Model_alarmFor_21 : decode prog_9_method_17_code 21 = .ok (.aload_n 0, 1) := by decide +kernel
theorem d_Model_alarmFor_22 : decode prog_9_method_17_code 22 = .ok (.getfield 71, 3) := by decide +kernel
theorem d_Model_alarmFor_25 : decode prog_9_method_17_code 25 = .ok (.iload_n 3, 1) := by decide +kernel
theorem d_Model_alarmFor_26 : decode prog_9_method_17_code 26 = .ok (.iaload, 1) := by decide +kernel
theorem d_Model_alarmFor_27 : decode prog_9_method_17_code 27 = .ok (.iload_n 2, 1) := by decide +kernel
theorem d_Model_alarmFor_28 : decode prog_9_method_17_code 28 = .ok (.if_icmp .eq 9, 3) := by decide +kernel
theorem d_Model_alarmFor_31 : decode prog_9_method_17_code 31 = .ok (.iinc 3 (-1), 3) := by decide +kernel
theorem d_Model_alarmFor_34 : decode prog_9_method_17_code 34 = .ok (.goto (-27), 3) := by decide +kernel
theorem d_Model_alarmFor_37 : decode prog_9_method_17_code 37 = .ok (.iload_n 3, 1) := by decide +kernel
theorem d_Model_alarmFor_38 : decode prog_9_method_17_code 38 = .ok (.ifCond .lt 21, 3) := by decide +kernel
theorem d_Model_alarmFor_41 : decode prog_9_method_17_code 41 = .ok (.aload_n 0, 1) := by decide +kernel
theorem d_Model_alarmFor_42 : decode prog_9_method_17_code 42 = .ok (.getfield 138, 3) := by decide +kernel
theorem d_Model_alarmFor_45 : decode prog_9_method_17_code 45 = .ok (.aload_n 0, 1) := by decide +kernel
theorem d_Model_alarmFor_46 : decode prog_9_method_17_code 46 = .ok (.getfield 86, 3) := by decide +kernel
theorem d_Model_alarmFor_49 : decode prog_9_method_17_code 49 = .ok (.iload_n 3, 1) := by decide +kernel
theorem d_Model_alarmFor_50 : decode prog_9_method_17_code 50 = .ok (.iaload, 1) := by decide +kernel
theorem d_Model_alarmFor_51 : decode prog_9_method_17_code 51 = .ok (.isub, 1) := by decide +kernel
theorem d_Model_alarmFor_52 : decode prog_9_method_17_code 52 = .ok (.bipush 60, 2) := by decide +kernel
theorem d_Model_alarmFor_54 : decode prog_9_method_17_code 54 = .ok (.if_icmp .gt 5, 3) := by decide +kernel
theorem d_Model_alarmFor_57 : decode prog_9_method_17_code 57 = .ok (.iload_n 3, 1) := by decide +kernel
theorem d_Model_alarmFor_58 : decode prog_9_method_17_code 58 = .ok (.ireturn, 1) := by decide +kernel
theorem d_Model_alarmFor_59 : decode prog_9_method_17_code 59 = .ok (.aload_n 0, 1) := by decide +kernel
theorem d_Model_alarmFor_60 : decode prog_9_method_17_code 60 = .ok (.getfield 68, 3) := by decide +kernel
theorem d_Model_alarmFor_63 : decode prog_9_method_17_code 63 = .ok (.aload_n 0, 1) := by decide +kernel
theorem d_Model_alarmFor_64 : decode prog_9_method_17_code 64 = .ok (.getfield 121, 3) := by decide +kernel
theorem d_Model_alarmFor_67 : decode prog_9_method_17_code 67 = .ok (.iload_n 1, 1) := by decide +kernel
theorem d_Model_alarmFor_68 : decode prog_9_method_17_code 68 = .ok (.iastore, 1) := by decide +kernel
theorem d_Model_alarmFor_69 : decode prog_9_method_17_code 69 = .ok (.aload_n 0, 1) := by decide +kernel
theorem d_Model_alarmFor_70 : decode prog_9_method_17_code 70 = .ok (.getfield 71, 3) := by decide +kernel
theorem d_Model_alarmFor_73 : decode prog_9_method_17_code 73 = .ok (.aload_n 0, 1) := by decide +kernel
theorem d_Model_alarmFor_74 : decode prog_9_method_17_code 74 = .ok (.getfield 121, 3) := by decide +kernel
theorem d_Model_alarmFor_77 : decode prog_9_method_17_code 77 = .ok (.iload_n 2, 1) := by decide +kernel
theorem d_Model_alarmFor_78 : decode prog_9_method_17_code 78 = .ok (.iastore, 1) := by decide +kernel
theorem d_Model_alarmFor_79 : decode prog_9_method_17_code 79 = .ok (.aload_n 0, 1) := by decide +kernel
theorem d_Model_alarmFor_80 : decode prog_9_method_17_code 80 = .ok (.getfield 74, 3) := by decide +kernel
theorem d_Model_alarmFor_83 : decode prog_9_method_17_code 83 = .ok (.aload_n 0, 1) := by decide +kernel
theorem d_Model_alarmFor_84 : decode prog_9_method_17_code 84 = .ok (.getfield 121, 3) := by decide +kernel
theorem d_Model_alarmFor_87 : decode prog_9_method_17_code 87 = .ok (.aload_n 0, 1) := by decide +kernel
theorem d_Model_alarmFor_88 : decode prog_9_method_17_code 88 = .ok (.getfield 35, 3) := by decide +kernel
theorem d_Model_alarmFor_91 : decode prog_9_method_17_code 91 = .ok (.iload_n 2, 1) := by decide +kernel
theorem d_Model_alarmFor_92 : decode prog_9_method_17_code 92 = .ok (.iaload, 1) := by decide +kernel
theorem d_Model_alarmFor_93 : decode prog_9_method_17_code 93 = .ok (.iastore, 1) := by decide +kernel
theorem d_Model_alarmFor_94 : decode prog_9_method_17_code 94 = .ok (.aload_n 0, 1) := by decide +kernel
theorem d_Model_alarmFor_95 : decode prog_9_method_17_code 95 = .ok (.getfield 77, 3) := by decide +kernel
theorem d_Model_alarmFor_98 : decode prog_9_method_17_code 98 = .ok (.aload_n 0, 1) := by decide +kernel
theorem d_Model_alarmFor_99 : decode prog_9_method_17_code 99 = .ok (.getfield 121, 3) := by decide +kernel
theorem d_Model_alarmFor_102 : decode prog_9_method_17_code 102 = .ok (.iconst 0, 1) := by decide +kernel
theorem d_Model_alarmFor_103 : decode prog_9_method_17_code 103 = .ok (.iastore, 1) := by decide +kernel
theorem d_Model_alarmFor_104 : decode prog_9_method_17_code 104 = .ok (.aload_n 0, 1) := by decide +kernel
theorem d_Model_alarmFor_105 : decode prog_9_method_17_code 105 = .ok (.getfield 80, 3) := by decide +kernel
theorem d_Model_alarmFor_108 : decode prog_9_method_17_code 108 = .ok (.aload_n 0, 1) := by decide +kernel
theorem d_Model_alarmFor_109 : decode prog_9_method_17_code 109 = .ok (.getfield 121, 3) := by decide +kernel
theorem d_Model_alarmFor_112 : decode prog_9_method_17_code 112 = .ok (.iconst 0, 1) := by decide +kernel
theorem d_Model_alarmFor_113 : decode prog_9_method_17_code 113 = .ok (.iastore, 1) := by decide +kernel
theorem d_Model_alarmFor_114 : decode prog_9_method_17_code 114 = .ok (.aload_n 0, 1) := by decide +kernel
theorem d_Model_alarmFor_115 : decode prog_9_method_17_code 115 = .ok (.dup, 1) := by decide +kernel
theorem d_Model_alarmFor_116 : decode prog_9_method_17_code 116 = .ok (.getfield 121, 3) := by decide +kernel
theorem d_Model_alarmFor_119 : decode prog_9_method_17_code 119 = .ok (.iconst 1, 1) := by decide +kernel
theorem d_Model_alarmFor_120 : decode prog_9_method_17_code 120 = .ok (.iadd, 1) := by decide +kernel
theorem d_Model_alarmFor_121 : decode prog_9_method_17_code 121 = .ok (.putfield 121, 3) := by decide +kernel
theorem d_Model_alarmFor_124 : decode prog_9_method_17_code 124 = .ok (.aload_n 0, 1) := by decide +kernel
theorem d_Model_alarmFor_125 : decode prog_9_method_17_code 125 = .ok (.getfield 121, 3) := by decide +kernel
theorem d_Model_alarmFor_128 : decode prog_9_method_17_code 128 = .ok (.iconst 1, 1) := by decide +kernel
theorem d_Model_alarmFor_129 : decode prog_9_method_17_code 129 = .ok (.isub, 1) := by decide +kernel
theorem d_Model_alarmFor_130 : decode prog_9_method_17_code 130 = .ok (.ireturn, 1) := by decide +kernel
theorem d_Model_step_0 : decode prog_9_method_22_code 0 = .ok (.aload_n 0, 1) := by decide +kernel
theorem d_Model_step_1 : decode prog_9_method_22_code 1 = .ok (.aload_n 0, 1) := by decide +kernel
theorem d_Model_step_2 : decode prog_9_method_22_code 2 = .ok (.iload_n 1, 1) := by decide +kernel
theorem d_Model_step_3 : decode prog_9_method_22_code 3 = .ok (.invokevirtual 151, 3) := by decide +kernel
theorem d_Model_step_6 : decode prog_9_method_22_code 6 = .ok (.ifCond .ne 7, 3) := by decide +kernel
theorem d_Model_step_9 : decode prog_9_method_22_code 9 = .ok (.iconst 1, 1) := by decide +kernel
theorem d_Model_step_10 : decode prog_9_method_22_code 10 = .ok (.goto 18, 3) := by decide +kernel
theorem d_Model_step_13 : decode prog_9_method_22_code 13 = .ok (.iload_n 2, 1) := by decide +kernel
theorem d_Model_step_14 : decode prog_9_method_22_code 14 = .ok (.iconst 0, 1) := by decide +kernel
theorem d_Model_step_15 : decode prog_9_method_22_code 15 = .ok (.bipush 7, 2) := by decide +kernel
theorem d_Model_step_17 : decode prog_9_method_22_code 17 = .ok (.invokestatic 111, 3) := by decide +kernel
theorem d_Model_step_20 : decode prog_9_method_22_code 20 = .ok (.ifCond .ne 7, 3) := by decide +kernel
theorem d_Model_step_23 : decode prog_9_method_22_code 23 = .ok (.iconst 2, 1) := by decide +kernel
theorem d_Model_step_24 : decode prog_9_method_22_code 24 = .ok (.goto 4, 3) := by decide +kernel
theorem d_Model_step_27 : decode prog_9_method_22_code 27 = .ok (.iconst 0, 1) := by decide +kernel
theorem d_Model_step_28 : decode prog_9_method_22_code 28 = .ok (.putfield 104, 3) := by decide +kernel
theorem d_Model_step_31 : decode prog_9_method_22_code 31 = .ok (.aload_n 0, 1) := by decide +kernel
theorem d_Model_step_32 : decode prog_9_method_22_code 32 = .ok (.getfield 104, 3) := by decide +kernel
theorem d_Model_step_35 : decode prog_9_method_22_code 35 = .ok (.ifCond .ne 22, 3) := by decide +kernel
theorem d_Model_step_38 : decode prog_9_method_22_code 38 = .ok (.aload_n 0, 1) := by decide +kernel
theorem d_Model_step_39 : decode prog_9_method_22_code 39 = .ok (.aload_n 0, 1) := by decide +kernel
theorem d_Model_step_40 : decode prog_9_method_22_code 40 = .ok (.getfield 47, 3) := by decide +kernel
theorem d_Model_step_43 : decode prog_9_method_22_code 43 = .ok (.iload_n 1, 1) := by decide +kernel
theorem d_Model_step_44 : decode prog_9_method_22_code 44 = .ok (.iaload, 1) := by decide +kernel
theorem d_Model_step_45 : decode prog_9_method_22_code 45 = .ok (.iconst (-1), 1) := by decide +kernel
theorem d_Model_step_46 : decode prog_9_method_22_code 46 = .ok (.if_icmp .eq 7, 3) := by decide +kernel
theorem d_Model_step_49 : decode prog_9_method_22_code 49 = .ok (.iconst 3, 1) := by decide +kernel
theorem d_Model_step_50 : decode prog_9_method_22_code 50 = .ok (.goto 4, 3) := by decide +kernel
theorem d_Model_step_53 : decode prog_9_method_22_code 53 = .ok (.iconst 0, 1) := by decide +kernel
theorem d_Model_step_54 : decode prog_9_method_22_code 54 = .ok (.putfield 104, 3) := by decide +kernel
theorem d_Model_step_57 : decode prog_9_method_22_code 57 = .ok (.aload_n 0, 1) := by decide +kernel
theorem d_Model_step_58 : decode prog_9_method_22_code 58 = .ok (.getfield 104, 3) := by decide +kernel
theorem d_Model_step_61 : decode prog_9_method_22_code 61 = .ok (.ifCond .le 5, 3) := by decide +kernel
theorem d_Model_step_64 : decode prog_9_method_22_code 64 = .ok (.iconst 0, 1) := by decide +kernel
theorem d_Model_step_65 : decode prog_9_method_22_code 65 = .ok (.ireturn, 1) := by decide +kernel
theorem d_Model_step_66 : decode prog_9_method_22_code 66 = .ok (.aload_n 0, 1) := by decide +kernel
theorem d_Model_step_67 : decode prog_9_method_22_code 67 = .ok (.getfield 53, 3) := by decide +kernel
theorem d_Model_step_70 : decode prog_9_method_22_code 70 = .ok (.iload_n 1, 1) := by decide +kernel
theorem d_Model_step_71 : decode prog_9_method_22_code 71 = .ok (.iaload, 1) := by decide +kernel
theorem d_Model_step_72 : decode prog_9_method_22_code 72 = .ok (.iload_n 2, 1) := by decide +kernel
theorem d_Model_step_73 : decode prog_9_method_22_code 73 = .ok (.ishr, 1) := by decide +kernel
theorem d_Model_step_74 : decode prog_9_method_22_code 74 = .ok (.iconst 1, 1) := by decide +kernel
theorem d_Model_step_75 : decode prog_9_method_22_code 75 = .ok (.iand, 1) := by decide +kernel
theorem d_Model_step_76 : decode prog_9_method_22_code 76 = .ok (.iconst 1, 1) := by decide +kernel
theorem d_Model_step_77 : decode prog_9_method_22_code 77 = .ok (.if_icmp .ne 5, 3) := by decide +kernel
theorem d_Model_step_80 : decode prog_9_method_22_code 80 = .ok (.iconst 2, 1) := by decide +kernel
theorem d_Model_step_81 : decode prog_9_method_22_code 81 = .ok (.ireturn, 1) := by decide +kernel
theorem d_Model_step_82 : decode prog_9_method_22_code 82 = .ok (.aload_n 0, 1) := by decide +kernel
theorem d_Model_step_83 : decode prog_9_method_22_code 83 = .ok (.getfield 53, 3) := by decide +kernel
theorem d_Model_step_86 : decode prog_9_method_22_code 86 = .ok (.iload_n 1, 1) := by decide +kernel
theorem d_Model_step_87 : decode prog_9_method_22_code 87 = .ok (.dup2, 1) := by decide +kernel
theorem d_Model_step_88 : decode prog_9_method_22_code 88 = .ok (.iaload, 1) := by decide +kernel
theorem d_Model_step_89 : decode prog_9_method_22_code 89 = .ok (.iconst 1, 1) := by decide +kernel
theorem d_Model_step_90 : decode prog_9_method_22_code 90 = .ok (.iload_n 2, 1) := by decide +kernel
theorem d_Model_step_91 : decode prog_9_method_22_code 91 = .ok (.ishl, 1) := by decide +kernel
theorem d_Model_step_92 : decode prog_9_method_22_code 92 = .ok (.ior, 1) := by decide +kernel
theorem d_Model_step_93 : decode prog_9_method_22_code 93 = .ok (.iastore, 1) := by decide +kernel
theorem d_Model_step_94 : decode prog_9_method_22_code 94 = .ok (.aload_n 0, 1) := by decide +kernel
theorem d_Model_step_95 : decode prog_9_method_22_code 95 = .ok (.getfield 53, 3) := by decide +kernel
theorem d_Model_step_98 : decode prog_9_method_22_code 98 = .ok (.iload_n 1, 1) := by decide +kernel
theorem d_Model_step_99 : decode prog_9_method_22_code 99 = .ok (.iaload, 1) := by decide +kernel
theorem d_Model_step_100 : decode prog_9_method_22_code 100 = .ok (.invokestatic 154, 3) := by decide +kernel
theorem d_Model_step_103 : decode prog_9_method_22_code 103 = .ok (.aload_n 0, 1) := by decide +kernel
theorem d_Model_step_104 : decode prog_9_method_22_code 104 = .ok (.getfield 56, 3) := by decide +kernel
theorem d_Model_step_107 : decode prog_9_method_22_code 107 = .ok (.iload_n 1, 1) := by decide +kernel
theorem d_Model_step_108 : decode prog_9_method_22_code 108 = .ok (.iaload, 1) := by decide +kernel
theorem d_Model_step_109 : decode prog_9_method_22_code 109 = .ok (.if_icmp .ge 5, 3) := by decide +kernel
theorem d_Model_step_112 : decode prog_9_method_22_code 112 = .ok (.iconst 0, 1) := by decide +kernel
theorem d_Model_step_113 : decode prog_9_method_22_code 113 = .ok (.ireturn, 1) := by decide +kernel
theorem d_Model_step_114 : decode prog_9_method_22_code 114 = .ok (.aload_n 0, 1) := by decide +kernel
theorem d_Model_step_115 : decode prog_9_method_22_code 115 = .ok (.getfield 47, 3) := by decide +kernel
theorem d_Model_step_118 : decode prog_9_method_22_code 118 = .ok (.iload_n 1, 1) := by decide +kernel
theorem d_Model_step_119 : decode prog_9_method_22_code 119 = .ok (.aload_n 0, 1) := by decide +kernel
theorem d_Model_step_120 : decode prog_9_method_22_code 120 = .ok (.getfield 138, 3) := by decide +kernel
theorem d_Model_step_123 : decode prog_9_method_22_code 123 = .ok (.iastore, 1) := by decide +kernel
theorem d_Model_step_124 : decode prog_9_method_22_code 124 = .ok (.iconst 1, 1) := by decide +kernel
theorem d_Model_step_125 : decode prog_9_method_22_code 125 = .ok (.ireturn, 1) := by decide +kernel
theorem d_Model_isFault_0 : decode prog_9_method_6_code 0 = .ok (.iload_n 1, 1) := by decide +kernel
theorem d_Model_isFault_1 : decode prog_9_method_6_code 1 = .ok (.iconst 1, 1) := by decide +kernel
theorem d_Model_isFault_2 : decode prog_9_method_6_code 2 = .ok (.aload_n 0, 1) := by decide +kernel
theorem d_Model_isFault_3 : decode prog_9_method_6_code 3 = .ok (.getfield 118, 3) := by decide +kernel
theorem d_Model_isFault_6 : decode prog_9_method_6_code 6 = .ok (.invokestatic 111, 3) := by decide +kernel
theorem d_Model_isFault_9 : decode prog_9_method_6_code 9 = .ok (.ireturn, 1) := by decide +kernel
theorem d_Model_bits_0 : decode prog_9_method_21_code 0 = .ok (.iconst 0, 1) := by decide +kernel
theorem d_Model_bits_1 : decode prog_9_method_21_code 1 = .ok (.istore_n 1, 1) := by decide +kernel
theorem d_Model_bits_2 : decode prog_9_method_21_code 2 = .ok (.iconst 0, 1) := by decide +kernel
theorem d_Model_bits_3 : decode prog_9_method_21_code 3 = .ok (.istore_n 2, 1) := by decide +kernel
theorem d_Model_bits_4 : decode prog_9_method_21_code 4 = .ok (.iload_n 2, 1) := by decide +kernel
end
section
/-! decode rows: printed by wip/gen/names.py -/
theorem d_Model_bits_5 : decode prog_9_method_21_code 5 = .ok (.bipush 8, 2) := by decide +kernel
theorem d_Model_bits_7 : decode prog_9_method_21_code 7 = .ok (.if_icmp .ge 17, 3) := by decide +kernel
theorem d_Model_bits_10 : decode prog_9_method_21_code 10 = .ok (.iload_n 1, 1) := by decide +kernel
theorem d_Model_bits_11 : decode prog_9_method_21_code 11 = .ok (.iload_n 0, 1) := by decide +kernel
theorem d_Model_bits_12 : decode prog_9_method_21_code 12 = .ok (.iload_n 2, 1) := by decide +kernel
theorem d_Model_bits_13 : decode prog_9_method_21_code 13 = .ok (.ishr, 1) := by decide +kernel
theorem d_Model_bits_14 : decode prog_9_method_21_code 14 = .ok (.iconst 1, 1) := by decide +kernel
theorem d_Model_bits_15 : decode prog_9_method_21_code 15 = .ok (.iand, 1) := by decide +kernel
theorem d_Model_bits_16 : decode prog_9_method_21_code 16 = .ok (.iadd, 1) := by decide +kernel
theorem d_Model_bits_17 : decode prog_9_method_21_code 17 = .ok (.istore_n 1, 1) := by decide +kernel
theorem d_Model_bits_18 : decode prog_9_method_21_code 18 = .ok (.iinc 2 1, 3) := by decide +kernel
theorem d_Model_bits_21 : decode prog_9_method_21_code 21 = .ok (.goto (-17), 3) := by decide +kernel
theorem d_Model_bits_24 : decode prog_9_method_21_code 24 = .ok (.iload_n 1, 1) := by decide +kernel
theorem d_Model_bits_25 : decode prog_9_method_21_code 25 = .ok (.ireturn, 1) := by decide +kernel
theorem d_Model_test_0 : decode prog_9_method_23_code 0 = .ok (.aload_n 0, 1) := by decide +kernel
theorem d_Model_test_1 : decode prog_9_method_23_code 1 = .ok (.aload_n 0, 1) := by decide +kernel
theorem d_Model_test_2 : decode prog_9_method_23_code 2 = .ok (.iload_n 1, 1) := by decide +kernel
theorem d_Model_test_3 : decode prog_9_method_23_code 3 = .ok (.invokevirtual 131, 3) := by decide +kernel
theorem d_Model_test_6 : decode prog_9_method_23_code 6 = .ok (.ifCond .ne 7, 3) := by decide +kernel
theorem d_Model_test_9 : decode prog_9_method_23_code 9 = .ok (.iconst 1, 1) := by decide +kernel
theorem d_Model_test_10 : decode prog_9_method_23_code 10 = .ok (.goto 4, 3) := by decide +kernel
theorem d_Model_test_13 : decode prog_9_method_23_code 13 = .ok (.iconst 0, 1) := by decide +kernel
theorem d_Model_test_14 : decode prog_9_method_23_code 14 = .ok (.putfield 104, 3) := by decide +kernel
theorem d_Model_test_17 : decode prog_9_method_23_code 17 = .ok (.aload_n 0, 1) := by decide +kernel
theorem d_Model_test_18 : decode prog_9_method_23_code 18 = .ok (.getfield 104, 3) := by decide +kernel
theorem d_Model_test_21 : decode prog_9_method_23_code 21 = .ok (.ifCond .ne 39, 3) := by decide +kernel
theorem d_Model_test_24 : decode prog_9_method_23_code 24 = .ok (.aload_n 0, 1) := by decide +kernel
theorem d_Model_test_25 : decode prog_9_method_23_code 25 = .ok (.aload_n 0, 1) := by decide +kernel
theorem d_Model_test_26 : decode prog_9_method_23_code 26 = .ok (.getfield 20, 3) := by decide +kernel
theorem d_Model_test_29 : decode prog_9_method_23_code 29 = .ok (.iload_n 1, 1) := by decide +kernel
theorem d_Model_test_30 : decode prog_9_method_23_code 30 = .ok (.iaload, 1) := by decide +kernel
theorem d_Model_test_31 : decode prog_9_method_23_code 31 = .ok (.ifCond .eq 21, 3) := by decide +kernel
theorem d_Model_test_34 : decode prog_9_method_23_code 34 = .ok (.aload_n 0, 1) := by decide +kernel
theorem d_Model_test_35 : decode prog_9_method_23_code 35 = .ok (.getfield 20, 3) := by decide +kernel
theorem d_Model_test_38 : decode prog_9_method_23_code 38 = .ok (.iload_n 1, 1) := by decide +kernel
theorem d_Model_test_39 : decode prog_9_method_23_code 39 = .ok (.iaload, 1) := by decide +kernel
theorem d_Model_test_40 : decode prog_9_method_23_code 40 = .ok (.iconst 2, 1) := by decide +kernel
theorem d_Model_test_41 : decode prog_9_method_23_code 41 = .ok (.if_icmp .eq 11, 3) := by decide +kernel
theorem d_Model_test_44 : decode prog_9_method_23_code 44 = .ok (.aload_n 0, 1) := by decide +kernel
theorem d_Model_test_45 : decode prog_9_method_23_code 45 = .ok (.iload_n 1, 1) := by decide +kernel
theorem d_Model_test_46 : decode prog_9_method_23_code 46 = .ok (.invokevirtual 158, 3) := by decide +kernel
theorem d_Model_test_49 : decode prog_9_method_23_code 49 = .ok (.ifCond .eq 7, 3) := by decide +kernel
theorem d_Model_test_52 : decode prog_9_method_23_code 52 = .ok (.iconst 2, 1) := by decide +kernel
theorem d_Model_test_53 : decode prog_9_method_23_code 53 = .ok (.goto 4, 3) := by decide +kernel
theorem d_Model_test_56 : decode prog_9_method_23_code 56 = .ok (.iconst 0, 1) := by decide +kernel
theorem d_Model_test_57 : decode prog_9_method_23_code 57 = .ok (.putfield 104, 3) := by decide +kernel
theorem d_Model_test_60 : decode prog_9_method_23_code 60 = .ok (.aload_n 0, 1) := by decide +kernel
theorem d_Model_test_61 : decode prog_9_method_23_code 61 = .ok (.getfield 104, 3) := by decide +kernel
theorem d_Model_test_64 : decode prog_9_method_23_code 64 = .ok (.ifCond .le 5, 3) := by decide +kernel
theorem d_Model_test_67 : decode prog_9_method_23_code 67 = .ok (.iconst 0, 1) := by decide +kernel
theorem d_Model_test_68 : decode prog_9_method_23_code 68 = .ok (.ireturn, 1) := by decide +kernel
theorem d_Model_test_69 : decode prog_9_method_23_code 69 = .ok (.aload_n 0, 1) := by decide +kernel
theorem d_Model_test_70 : decode prog_9_method_23_code 70 = .ok (.getfield 23, 3) := by decide +kernel
theorem d_Model_test_73 : decode prog_9_method_23_code 73 = .ok (.iload_n 1, 1) := by decide +kernel
theorem d_Model_test_74 : decode prog_9_method_23_code 74 = .ok (.iload_n 2, 1) := by decide +kernel
theorem d_Model_test_75 : decode prog_9_method_23_code 75 = .ok (.ifCond .ne 7, 3) := by decide +kernel
theorem d_Model_test_78 : decode prog_9_method_23_code 78 = .ok (.iconst 1, 1) := by decide +kernel
theorem d_Model_test_79 : decode prog_9_method_23_code 79 = .ok (.goto 4, 3) := by decide +kernel
theorem d_Model_test_82 : decode prog_9_method_23_code 82 = .ok (.iconst 0, 1) := by decide +kernel
theorem d_Model_test_83 : decode prog_9_method_23_code 83 = .ok (.bastore, 1) := by decide +kernel
theorem d_Model_test_84 : decode prog_9_method_23_code 84 = .ok (.iload_n 2, 1) := by decide +kernel
theorem d_Model_test_85 : decode prog_9_method_23_code 85 = .ok (.ireturn, 1) := by decide +kernel
theorem d_Model_openKinds_0 : decode prog_9_method_16_code 0 = .ok (.iconst 0, 1) := by decide +kernel
theorem d_Model_openKinds_1 : decode prog_9_method_16_code 1 = .ok (.istore_n 2, 1) := by decide +kernel
theorem d_Model_openKinds_2 : decode prog_9_method_16_code 2 = .ok (.iconst 0, 1) := by decide +kernel
theorem d_Model_openKinds_3 : decode prog_9_method_16_code 3 = .ok (.istore_n 3, 1) := by decide +kernel
theorem d_Model_openKinds_4 : decode prog_9_method_16_code 4 = .ok (.iload_n 3, 1) := by decide +kernel
theorem d_Model_openKinds_5 : decode prog_9_method_16_code 5 = .ok (.bipush 8, 2) := by decide +kernel
theorem d_Model_openKinds_7 : decode prog_9_method_16_code 7 = .ok (.if_icmp .ge 28, 3) := by decide +kernel
theorem d_Model_openKinds_10 : decode prog_9_method_16_code 10 = .ok (.iload_n 2, 1) := by decide +kernel
theorem d_Model_openKinds_11 : decode prog_9_method_16_code 11 = .ok (.aload_n 0, 1) := by decide +kernel
theorem d_Model_openKinds_12 : decode prog_9_method_16_code 12 = .ok (.iload_n 1, 1) := by decide +kernel
theorem d_Model_openKinds_13 : decode prog_9_method_16_code 13 = .ok (.iload_n 3, 1) := by decide +kernel
theorem d_Model_openKinds_14 : decode prog_9_method_16_code 14 = .ok (.invokevirtual 134, 3) := by decide +kernel
theorem d_Model_openKinds_17 : decode prog_9_method_16_code 17 = .ok (.ifCond .le 9, 3) := by decide +kernel
theorem d_Model_openKinds_20 : decode prog_9_method_16_code 20 = .ok (.iconst 1, 1) := by decide +kernel
theorem d_Model_openKinds_21 : decode prog_9_method_16_code 21 = .ok (.iload_n 3, 1) := by decide +kernel
theorem d_Model_openKinds_22 : decode prog_9_method_16_code 22 = .ok (.ishl, 1) := by decide +kernel
theorem d_Model_openKinds_23 : decode prog_9_method_16_code 23 = .ok (.goto 4, 3) := by decide +kernel
theorem d_Model_openKinds_26 : decode prog_9_method_16_code 26 = .ok (.iconst 0, 1) := by decide +kernel
theorem d_Model_openKinds_27 : decode prog_9_method_16_code 27 = .ok (.ior, 1) := by decide +kernel
theorem d_Model_openKinds_28 : decode prog_9_method_16_code 28 = .ok (.istore_n 2, 1) := by decide +kernel
theorem d_Model_openKinds_29 : decode prog_9_method_16_code 29 = .ok (.iinc 3 1, 3) := by decide +kernel
theorem d_Model_openKinds_32 : decode prog_9_method_16_code 32 = .ok (.goto (-28), 3) := by decide +kernel
theorem d_Model_openKinds_35 : decode prog_9_method_16_code 35 = .ok (.iload_n 2, 1) := by decide +kernel
theorem d_Model_openKinds_36 : decode prog_9_method_16_code 36 = .ok (.ireturn, 1) := by decide +kernel
theorem d_Model_resume_0 : decode prog_9_method_24_code 0 = .ok (.aload_n 0, 1) := by decide +kernel
theorem d_Model_resume_1 : decode prog_9_method_24_code 1 = .ok (.aload_n 0, 1) := by decide +kernel
theorem d_Model_resume_2 : decode prog_9_method_24_code 2 = .ok (.iload_n 1, 1) := by decide +kernel
theorem d_Model_resume_3 : decode prog_9_method_24_code 3 = .ok (.invokevirtual 131, 3) := by decide +kernel
theorem d_Model_resume_6 : decode prog_9_method_24_code 6 = .ok (.ifCond .ne 7, 3) := by decide +kernel
theorem d_Model_resume_9 : decode prog_9_method_24_code 9 = .ok (.iconst 1, 1) := by decide +kernel
theorem d_Model_resume_10 : decode prog_9_method_24_code 10 = .ok (.goto 4, 3) := by decide +kernel
theorem d_Model_resume_13 : decode prog_9_method_24_code 13 = .ok (.iconst 0, 1) := by decide +kernel
theorem d_Model_resume_14 : decode prog_9_method_24_code 14 = .ok (.putfield 104, 3) := by decide +kernel
theorem d_Model_resume_17 : decode prog_9_method_24_code 17 = .ok (.aload_n 0, 1) := by decide +kernel
theorem d_Model_resume_18 : decode prog_9_method_24_code 18 = .ok (.getfield 104, 3) := by decide +kernel
theorem d_Model_resume_21 : decode prog_9_method_24_code 21 = .ok (.ifCond .ne 21, 3) := by decide +kernel
theorem d_Model_resume_24 : decode prog_9_method_24_code 24 = .ok (.aload_n 0, 1) := by decide +kernel
theorem d_Model_resume_25 : decode prog_9_method_24_code 25 = .ok (.aload_n 0, 1) := by decide +kernel
theorem d_Model_resume_26 : decode prog_9_method_24_code 26 = .ok (.getfield 20, 3) := by decide +kernel
theorem d_Model_resume_29 : decode prog_9_method_24_code 29 = .ok (.iload_n 1, 1) := by decide +kernel
theorem d_Model_resume_30 : decode prog_9_method_24_code 30 = .ok (.iaload, 1) := by decide +kernel
theorem d_Model_resume_31 : decode prog_9_method_24_code 31 = .ok (.ifCond .ne 7, 3) := by decide +kernel
theorem d_Model_resume_34 : decode prog_9_method_24_code 34 = .ok (.iconst 2, 1) := by decide +kernel
theorem d_Model_resume_35 : decode prog_9_method_24_code 35 = .ok (.goto 4, 3) := by decide +kernel
theorem d_Model_resume_38 : decode prog_9_method_24_code 38 = .ok (.iconst 0, 1) := by decide +kernel
theorem d_Model_resume_39 : decode prog_9_method_24_code 39 = .ok (.putfield 104, 3) := by decide +kernel
theorem d_Model_resume_42 : decode prog_9_method_24_code 42 = .ok (.aload_n 0, 1) := by decide +kernel
theorem d_Model_resume_43 : decode prog_9_method_24_code 43 = .ok (.getfield 104, 3) := by decide +kernel
theorem d_Model_resume_46 : decode prog_9_method_24_code 46 = .ok (.ifCond .le 5, 3) := by decide +kernel
theorem d_Model_resume_49 : decode prog_9_method_24_code 49 = .ok (.iconst 0, 1) := by decide +kernel
theorem d_Model_resume_50 : decode prog_9_method_24_code 50 = .ok (.ireturn, 1) := by decide +kernel
theorem d_Model_resume_51 : decode prog_9_method_24_code 51 = .ok (.aload_n 0, 1) := by decide +kernel
theorem d_Model_resume_52 : decode prog_9_method_24_code 52 = .ok (.iload_n 1, 1) := by decide +kernel
theorem d_Model_resume_53 : decode prog_9_method_24_code 53 = .ok (.invokevirtual 158, 3) := by decide +kernel
theorem d_Model_resume_56 : decode prog_9_method_24_code 56 = .ok (.ifCond .eq 7, 3) := by decide +kernel
theorem d_Model_resume_59 : decode prog_9_method_24_code 59 = .ok (.iconst (-1), 1) := by decide +kernel
theorem d_Model_resume_60 : decode prog_9_method_24_code 60 = .ok (.goto 33, 3) := by decide +kernel
theorem d_Model_resume_63 : decode prog_9_method_24_code 63 = .ok (.aload_n 0, 1) := by decide +kernel
theorem d_Model_resume_64 : decode prog_9_method_24_code 64 = .ok (.getfield 20, 3) := by decide +kernel
theorem d_Model_resume_67 : decode prog_9_method_24_code 67 = .ok (.iload_n 1, 1) := by decide +kernel
theorem d_Model_resume_68 : decode prog_9_method_24_code 68 = .ok (.iaload, 1) := by decide +kernel
theorem d_Model_resume_69 : decode prog_9_method_24_code 69 = .ok (.iconst 2, 1) := by decide +kernel
theorem d_Model_resume_70 : decode prog_9_method_24_code 70 = .ok (.if_icmp .ne 8, 3) := by decide +kernel
theorem d_Model_resume_73 : decode prog_9_method_24_code 73 = .ok (.bipush (-2), 2) := by decide +kernel
theorem d_Model_resume_75 : decode prog_9_method_24_code 75 = .ok (.goto 18, 3) := by decide +kernel
theorem d_Model_resume_78 : decode prog_9_method_24_code 78 = .ok (.aload_n 0, 1) := by decide +kernel
theorem d_Model_resume_79 : decode prog_9_method_24_code 79 = .ok (.getfield 23, 3) := by decide +kernel
theorem d_Model_resume_82 : decode prog_9_method_24_code 82 = .ok (.iload_n 1, 1) := by decide +kernel
theorem d_Model_resume_83 : decode prog_9_method_24_code 83 = .ok (.baload, 1) := by decide +kernel
theorem d_Model_resume_84 : decode prog_9_method_24_code 84 = .ok (.ifCond .eq 8, 3) := by decide +kernel
theorem d_Model_resume_87 : decode prog_9_method_24_code 87 = .ok (.bipush (-3), 2) := by decide +kernel
theorem d_Model_resume_89 : decode prog_9_method_24_code 89 = .ok (.goto 4, 3) := by decide +kernel
theorem d_Model_resume_92 : decode prog_9_method_24_code 92 = .ok (.iconst 0, 1) := by decide +kernel
theorem d_Model_resume_93 : decode prog_9_method_24_code 93 = .ok (.istore_n 2, 1) := by decide +kernel
theorem d_Model_resume_94 : decode prog_9_method_24_code 94 = .ok (.iload_n 2, 1) := by decide +kernel
theorem d_Model_resume_95 : decode prog_9_method_24_code 95 = .ok (.ifCond .ge 5, 3) := by decide +kernel
theorem d_Model_resume_98 : decode prog_9_method_24_code 98 = .ok (.iload_n 2, 1) := by decide +kernel
theorem d_Model_resume_99 : decode prog_9_method_24_code 99 = .ok (.ireturn, 1) := by decide +kernel
theorem d_Model_resume_100 : decode prog_9_method_24_code 100 = .ok (.aload_n 0, 1) := by decide +kernel
theorem d_Model_resume_101 : decode prog_9_method_24_code 101 = .ok (.getfield 20, 3) := by decide +kernel
theorem d_Model_resume_104 : decode prog_9_method_24_code 104 = .ok (.iload_n 1, 1) := by decide +kernel
theorem d_Model_resume_105 : decode prog_9_method_24_code 105 = .ok (.iconst 0, 1) := by decide +kernel
theorem d_Model_resume_106 : decode prog_9_method_24_code 106 = .ok (.iastore, 1) := by decide +kernel
theorem d_Model_resume_107 : decode prog_9_method_24_code 107 = .ok (.iconst 1, 1) := by decide +kernel
theorem d_Model_resume_108 : decode prog_9_method_24_code 108 = .ok (.ireturn, 1) := by decide +kernel
theorem d_Model_zone_0 : decode prog_9_method_27_code 0 = .ok (.aload_n 0, 1) := by decide +kernel
theorem d_Model_zone_1 : decode prog_9_method_27_code 1 = .ok (.aload_n 0, 1) := by decide +kernel
theorem d_Model_zone_2 : decode prog_9_method_27_code 2 = .ok (.iload_n 1, 1) := by decide +kernel
theorem d_Model_zone_3 : decode prog_9_method_27_code 3 = .ok (.invokevirtual 131, 3) := by decide +kernel
theorem d_Model_zone_6 : decode prog_9_method_27_code 6 = .ok (.ifCond .ne 7, 3) := by decide +kernel
theorem d_Model_zone_9 : decode prog_9_method_27_code 9 = .ok (.iconst 1, 1) := by decide +kernel
theorem d_Model_zone_10 : decode prog_9_method_27_code 10 = .ok (.goto 12, 3) := by decide +kernel
theorem d_Model_zone_13 : decode prog_9_method_27_code 13 = .ok (.iload_n 2, 1) := by decide +kernel
theorem d_Model_zone_14 : decode prog_9_method_27_code 14 = .ok (.ifCond .ge 7, 3) := by decide +kernel
theorem d_Model_zone_17 : decode prog_9_method_27_code 17 = .ok (.iconst 2, 1) := by decide +kernel
theorem d_Model_zone_18 : decode prog_9_method_27_code 18 = .ok (.goto 4, 3) := by decide +kernel
theorem d_Model_zone_21 : decode prog_9_method_27_code 21 = .ok (.iconst 0, 1) := by decide +kernel
theorem d_Model_zone_22 : decode prog_9_method_27_code 22 = .ok (.putfield 104, 3) := by decide +kernel
theorem d_Model_zone_25 : decode prog_9_method_27_code 25 = .ok (.aload_n 0, 1) := by decide +kernel
theorem d_Model_zone_26 : decode prog_9_method_27_code 26 = .ok (.getfield 104, 3) := by decide +kernel
theorem d_Model_zone_29 : decode prog_9_method_27_code 29 = .ok (.ifCond .ne 22, 3) := by decide +kernel
theorem d_Model_zone_32 : decode prog_9_method_27_code 32 = .ok (.aload_n 0, 1) := by decide +kernel
theorem d_Model_zone_33 : decode prog_9_method_27_code 33 = .ok (.aload_n 0, 1) := by decide +kernel
theorem d_Model_zone_34 : decode prog_9_method_27_code 34 = .ok (.getfield 20, 3) := by decide +kernel
theorem d_Model_zone_37 : decode prog_9_method_27_code 37 = .ok (.iload_n 1, 1) := by decide +kernel
theorem d_Model_zone_38 : decode prog_9_method_27_code 38 = .ok (.iaload, 1) := by decide +kernel
theorem d_Model_zone_39 : decode prog_9_method_27_code 39 = .ok (.iconst 2, 1) := by decide +kernel
theorem d_Model_zone_40 : decode prog_9_method_27_code 40 = .ok (.if_icmp .eq 7, 3) := by decide +kernel
theorem d_Model_zone_43 : decode prog_9_method_27_code 43 = .ok (.iconst 3, 1) := by decide +kernel
theorem d_Model_zone_44 : decode prog_9_method_27_code 44 = .ok (.goto 4, 3) := by decide +kernel
theorem d_Model_zone_47 : decode prog_9_method_27_code 47 = .ok (.iconst 0, 1) := by decide +kernel
theorem d_Model_zone_48 : decode prog_9_method_27_code 48 = .ok (.putfield 104, 3) := by decide +kernel
theorem d_Model_zone_51 : decode prog_9_method_27_code 51 = .ok (.aload_n 0, 1) := by decide +kernel
theorem d_Model_zone_52 : decode prog_9_method_27_code 52 = .ok (.getfield 104, 3) := by decide +kernel
theorem d_Model_zone_55 : decode prog_9_method_27_code 55 = .ok (.ifCond .le 5, 3) := by decide +kernel
theorem d_Model_zone_58 : decode prog_9_method_27_code 58 = .ok (.iconst 0, 1) := by decide +kernel
theorem d_Model_zone_59 : decode prog_9_method_27_code 59 = .ok (.ireturn, 1) := by decide +kernel
theorem d_Model_zone_60 : decode prog_9_method_27_code 60 = .ok (.iload_n 2, 1) := by decide +kernel
theorem d_Model_zone_61 : decode prog_9_method_27_code 61 = .ok (.istore_n 3, 1) := by decide +kernel
theorem d_Model_zone_62 : decode prog_9_method_27_code 62 = .ok (.iconst 0, 1) := by decide +kernel
theorem d_Model_zone_63 : decode prog_9_method_27_code 63 = .ok (.istore 4, 2) := by decide +kernel
theorem d_Model_zone_65 : decode prog_9_method_27_code 65 = .ok (.iload 4, 2) := by decide +kernel
theorem d_Model_zone_67 : decode prog_9_method_27_code 67 = .ok (.aload_n 0, 1) := by decide +kernel
theorem d_Model_zone_68 : decode prog_9_method_27_code 68 = .ok (.getfield 108, 3) := by decide +kernel
theorem d_Model_zone_71 : decode prog_9_method_27_code 71 = .ok (.if_icmp .ge 32, 3) := by decide +kernel
theorem d_Model_zone_74 : decode prog_9_method_27_code 74 = .ok (.aload_n 0, 1) := by decide +kernel
theorem d_Model_zone_75 : decode prog_9_method_27_code 75 = .ok (.iload_n 1, 1) := by decide +kernel
theorem d_Model_zone_76 : decode prog_9_method_27_code 76 = .ok (.iload 4, 2) := by decide +kernel
theorem d_Model_zone_78 : decode prog_9_method_27_code 78 = .ok (.invokevirtual 165, 3) := by decide +kernel
theorem d_Model_zone_81 : decode prog_9_method_27_code 81 = .ok (.ifCond .ne 6, 3) := by decide +kernel
theorem d_Model_zone_84 : decode prog_9_method_27_code 84 = .ok (.goto 13, 3) := by decide +kernel
theorem d_Model_zone_87 : decode prog_9_method_27_code 87 = .ok (.iload_n 3, 1) := by decide +kernel
theorem d_Model_zone_88 : decode prog_9_method_27_code 88 = .ok (.ifCond .ne 6, 3) := by decide +kernel
theorem d_Model_zone_91 : decode prog_9_method_27_code 91 = .ok (.iload 4, 2) := by decide +kernel
theorem d_Model_zone_93 : decode prog_9_method_27_code 93 = .ok (.ireturn, 1) := by decide +kernel
theorem d_Model_zone_94 : decode prog_9_method_27_code 94 = .ok (.iinc 3 (-1), 3) := by decide +kernel
theorem d_Model_zone_97 : decode prog_9_method_27_code 97 = .ok (.iinc 4 1, 3) := by decide +kernel
theorem d_Model_zone_100 : decode prog_9_method_27_code 100 = .ok (.goto (-35), 3) := by decide +kernel
theorem d_Model_zone_103 : decode prog_9_method_27_code 103 = .ok (.iconst (-1), 1) := by decide +kernel
theorem d_Model_zone_104 : decode prog_9_method_27_code 104 = .ok (.ireturn, 1) := by decide +kernel
theorem d_Model_mayBe_0 : decode prog_9_method_26_code 0 = .ok (.aload_n 0, 1) := by decide +kernel
theorem d_Model_mayBe_1 : decode prog_9_method_26_code 1 = .ok (.aload_n 0, 1) := by decide +kernel
theorem d_Model_mayBe_2 : decode prog_9_method_26_code 2 = .ok (.getfield 13, 3) := by decide +kernel
theorem d_Model_mayBe_5 : decode prog_9_method_26_code 5 = .ok (.iload_n 1, 1) := by decide +kernel
theorem d_Model_mayBe_6 : decode prog_9_method_26_code 6 = .ok (.iaload, 1) := by decide +kernel
theorem d_Model_mayBe_7 : decode prog_9_method_26_code 7 = .ok (.invokevirtual 161, 3) := by decide +kernel
theorem d_Model_mayBe_10 : decode prog_9_method_26_code 10 = .ok (.aload_n 0, 1) := by decide +kernel
theorem d_Model_mayBe_11 : decode prog_9_method_26_code 11 = .ok (.getfield 101, 3) := by decide +kernel
theorem d_Model_mayBe_14 : decode prog_9_method_26_code 14 = .ok (.iload_n 2, 1) := by decide +kernel
theorem d_Model_mayBe_15 : decode prog_9_method_26_code 15 = .ok (.iaload, 1) := by decide +kernel
theorem d_Model_mayBe_16 : decode prog_9_method_26_code 16 = .ok (.bipush 20, 2) := by decide +kernel
theorem d_Model_mayBe_18 : decode prog_9_method_26_code 18 = .ok (.if_icmp .ge 30, 3) := by decide +kernel
theorem d_Model_mayBe_21 : decode prog_9_method_26_code 21 = .ok (.aload_n 0, 1) := by decide +kernel
theorem d_Model_mayBe_22 : decode prog_9_method_26_code 22 = .ok (.getfield 101, 3) := by decide +kernel
theorem d_Model_mayBe_25 : decode prog_9_method_26_code 25 = .ok (.iload_n 2, 1) := by decide +kernel
theorem d_Model_mayBe_26 : decode prog_9_method_26_code 26 = .ok (.iaload, 1) := by decide +kernel
theorem d_Model_mayBe_27 : decode prog_9_method_26_code 27 = .ok (.aload_n 0, 1) := by decide +kernel
theorem d_Model_mayBe_28 : decode prog_9_method_26_code 28 = .ok (.getfield 138, 3) := by decide +kernel
theorem d_Model_mayBe_31 : decode prog_9_method_26_code 31 = .ok (.aload_n 0, 1) := by decide +kernel
theorem d_Model_mayBe_32 : decode prog_9_method_26_code 32 = .ok (.getfield 26, 3) := by decide +kernel
theorem d_Model_mayBe_35 : decode prog_9_method_26_code 35 = .ok (.iload_n 1, 1) := by decide +kernel
theorem d_Model_mayBe_36 : decode prog_9_method_26_code 36 = .ok (.iaload, 1) := by decide +kernel
theorem d_Model_mayBe_37 : decode prog_9_method_26_code 37 = .ok (.isub, 1) := by decide +kernel
theorem d_Model_mayBe_38 : decode prog_9_method_26_code 38 = .ok (.bipush 10, 2) := by decide +kernel
theorem d_Model_mayBe_40 : decode prog_9_method_26_code 40 = .ok (.idiv, 1) := by decide +kernel
theorem d_Model_mayBe_41 : decode prog_9_method_26_code 41 = .ok (.if_icmp .gt 7, 3) := by decide +kernel
theorem d_Model_mayBe_44 : decode prog_9_method_26_code 44 = .ok (.iconst 1, 1) := by decide +kernel
theorem d_Model_mayBe_45 : decode prog_9_method_26_code 45 = .ok (.goto 4, 3) := by decide +kernel
theorem d_Model_mayBe_48 : decode prog_9_method_26_code 48 = .ok (.iconst 0, 1) := by decide +kernel
theorem d_Model_mayBe_49 : decode prog_9_method_26_code 49 = .ok (.ireturn, 1) := by decide +kernel
theorem d_Model_reach_0 : decode prog_9_method_25_code 0 = .ok (.iconst 0, 1) := by decide +kernel
theorem d_Model_reach_1 : decode prog_9_method_25_code 1 = .ok (.istore_n 2, 1) := by decide +kernel
theorem d_Model_reach_2 : decode prog_9_method_25_code 2 = .ok (.iload_n 2, 1) := by decide +kernel
theorem d_Model_reach_3 : decode prog_9_method_25_code 3 = .ok (.bipush 20, 2) := by decide +kernel
theorem d_Model_reach_5 : decode prog_9_method_25_code 5 = .ok (.if_icmp .ge 26, 3) := by decide +kernel
theorem d_Model_reach_8 : decode prog_9_method_25_code 8 = .ok (.aload_n 0, 1) := by decide +kernel
theorem d_Model_reach_9 : decode prog_9_method_25_code 9 = .ok (.getfield 101, 3) := by decide +kernel
theorem d_Model_reach_12 : decode prog_9_method_25_code 12 = .ok (.iload_n 2, 1) := by decide +kernel
theorem d_Model_reach_13 : decode prog_9_method_25_code 13 = .ok (.iload_n 2, 1) := by decide +kernel
theorem d_Model_reach_14 : decode prog_9_method_25_code 14 = .ok (.iload_n 1, 1) := by decide +kernel
theorem d_Model_reach_15 : decode prog_9_method_25_code 15 = .ok (.if_icmp .ne 7, 3) := by decide +kernel
theorem d_Model_reach_18 : decode prog_9_method_25_code 18 = .ok (.iconst 0, 1) := by decide +kernel
theorem d_Model_reach_19 : decode prog_9_method_25_code 19 = .ok (.goto 5, 3) := by decide +kernel
theorem d_Model_reach_22 : decode prog_9_method_25_code 22 = .ok (.bipush 20, 2) := by decide +kernel
theorem d_Model_reach_24 : decode prog_9_method_25_code 24 = .ok (.iastore, 1) := by decide +kernel
theorem d_Model_reach_25 : decode prog_9_method_25_code 25 = .ok (.iinc 2 1, 3) := by decide +kernel
theorem d_Model_reach_28 : decode prog_9_method_25_code 28 = .ok (.goto (-26), 3) := by decide +kernel
theorem d_Model_reach_31 : decode prog_9_method_25_code 31 = .ok (.iconst 0, 1) := by decide +kernel
theorem d_Model_reach_32 : decode prog_9_method_25_code 32 = .ok (.istore_n 2, 1) := by decide +kernel
theorem d_Model_reach_33 : decode prog_9_method_25_code 33 = .ok (.iload_n 2, 1) := by decide +kernel
theorem d_Model_reach_34 : decode prog_9_method_25_code 34 = .ok (.bipush 20, 2) := by decide +kernel
theorem d_Model_reach_36 : decode prog_9_method_25_code 36 = .ok (.if_icmp .ge 90, 3) := by decide +kernel
theorem d_Model_reach_39 : decode prog_9_method_25_code 39 = .ok (.iconst 0, 1) := by decide +kernel
theorem d_Model_reach_40 : decode prog_9_method_25_code 40 = .ok (.istore_n 3, 1) := by decide +kernel
theorem d_Model_reach_41 : decode prog_9_method_25_code 41 = .ok (.iload_n 3, 1) := by decide +kernel
theorem d_Model_reach_42 : decode prog_9_method_25_code 42 = .ok (.aload_n 0, 1) := by decide +kernel
theorem d_Model_reach_43 : decode prog_9_method_25_code 43 = .ok (.getfield 108, 3) := by decide +kernel
theorem d_Model_reach_46 : decode prog_9_method_25_code 46 = .ok (.if_icmp .ge 74, 3) := by decide +kernel
theorem d_Model_reach_49 : decode prog_9_method_25_code 49 = .ok (.iconst 0, 1) := by decide +kernel
theorem d_Model_reach_50 : decode prog_9_method_25_code 50 = .ok (.istore 4, 2) := by decide +kernel
theorem d_Model_reach_52 : decode prog_9_method_25_code 52 = .ok (.iload 4, 2) := by decide +kernel
theorem d_Model_reach_54 : decode prog_9_method_25_code 54 = .ok (.aload_n 0, 1) := by decide +kernel
theorem d_Model_reach_55 : decode prog_9_method_25_code 55 = .ok (.getfield 108, 3) := by decide +kernel
theorem d_Model_reach_58 : decode prog_9_method_25_code 58 = .ok (.if_icmp .ge 56, 3) := by decide +kernel
theorem d_Model_reach_61 : decode prog_9_method_25_code 61 = .ok (.aload_n 0, 1) := by decide +kernel
theorem d_Model_reach_62 : decode prog_9_method_25_code 62 = .ok (.getfield 101, 3) := by decide +kernel
theorem d_Model_reach_65 : decode prog_9_method_25_code 65 = .ok (.iload_n 3, 1) := by decide +kernel
theorem d_Model_reach_66 : decode prog_9_method_25_code 66 = .ok (.iaload, 1) := by decide +kernel
theorem d_Model_reach_67 : decode prog_9_method_25_code 67 = .ok (.iload_n 2, 1) := by decide +kernel
theorem d_Model_reach_68 : decode prog_9_method_25_code 68 = .ok (.if_icmp .ne 46, 3) := by decide +kernel
theorem d_Model_reach_71 : decode prog_9_method_25_code 71 = .ok (.aload_n 0, 1) := by decide +kernel
theorem d_Model_reach_72 : decode prog_9_method_25_code 72 = .ok (.getfield 7, 3) := by decide +kernel
theorem d_Model_reach_75 : decode prog_9_method_25_code 75 = .ok (.bipush 20, 2) := by decide +kernel
theorem d_Model_reach_77 : decode prog_9_method_25_code 77 = .ok (.iload_n 3, 1) := by decide +kernel
theorem d_Model_reach_78 : decode prog_9_method_25_code 78 = .ok (.imul, 1) := by decide +kernel
theorem d_Model_reach_79 : decode prog_9_method_25_code 79 = .ok (.iload 4, 2) := by decide +kernel
theorem d_Model_reach_81 : decode prog_9_method_25_code 81 = .ok (.iadd, 1) := by decide +kernel
theorem d_Model_reach_82 : decode prog_9_method_25_code 82 = .ok (.baload, 1) := by decide +kernel
theorem d_Model_reach_83 : decode prog_9_method_25_code 83 = .ok (.ifCond .eq 25, 3) := by decide +kernel
theorem d_Model_reach_86 : decode prog_9_method_25_code 86 = .ok (.aload_n 0, 1) := by decide +kernel
theorem d_Model_reach_87 : decode prog_9_method_25_code 87 = .ok (.getfield 101, 3) := by decide +kernel
theorem d_Model_reach_90 : decode prog_9_method_25_code 90 = .ok (.iload 4, 2) := by decide +kernel
theorem d_Model_reach_92 : decode prog_9_method_25_code 92 = .ok (.iaload, 1) := by decide +kernel
theorem d_Model_reach_93 : decode prog_9_method_25_code 93 = .ok (.bipush 20, 2) := by decide +kernel
theorem d_Model_reach_95 : decode prog_9_method_25_code 95 = .ok (.if_icmp .ne 13, 3) := by decide +kernel
theorem d_Model_reach_98 : decode prog_9_method_25_code 98 = .ok (.aload_n 0, 1) := by decide +kernel
theorem d_Model_reach_99 : decode prog_9_method_25_code 99 = .ok (.getfield 101, 3) := by decide +kernel
theorem d_Model_reach_102 : decode prog_9_method_25_code 102 = .ok (.iload 4, 2) := by decide +kernel
theorem d_Model_reach_104 : decode prog_9_method_25_code 104 = .ok (.iload_n 2, 1) := by decide +kernel
theorem d_Model_reach_105 : decode prog_9_method_25_code 105 = .ok (.iconst 1, 1) := by decide +kernel
theorem d_Model_reach_106 : decode prog_9_method_25_code 106 = .ok (.iadd, 1) := by decide +kernel
theorem d_Model_reach_107 : decode prog_9_method_25_code 107 = .ok (.iastore, 1) := by decide +kernel
theorem d_Model_reach_108 : decode prog_9_method_25_code 108 = .ok (.iinc 4 1, 3) := by decide +kernel
theorem d_Model_reach_111 : decode prog_9_method_25_code 111 = .ok (.goto (-59), 3) := by decide +kernel
theorem d_Model_reach_114 : decode prog_9_method_25_code 114 = .ok (.iinc 3 1, 3) := by decide +kernel
theorem d_Model_reach_117 : decode prog_9_method_25_code 117 = .ok (.goto (-76), 3) := by decide +kernel
theorem d_Model_reach_120 : decode prog_9_method_25_code 120 = .ok (.iinc 2 1, 3) := by decide +kernel
theorem d_Model_reach_123 : decode prog_9_method_25_code 123 = .ok (.goto (-90), 3) := by decide +kernel
theorem d_Model_reach_126 : decode prog_9_method_25_code 126 = .ok (.return_, 1) := by decide +kernel
theorem d_Model_found_0 : decode prog_9_method_28_code 0 = .ok (.aload_n 0, 1) := by decide +kernel
theorem d_Model_found_1 : decode prog_9_method_28_code 1 = .ok (.aload_n 0, 1) := by decide +kernel
theorem d_Model_found_2 : decode prog_9_method_28_code 2 = .ok (.iload_n 1, 1) := by decide +kernel
theorem d_Model_found_3 : decode prog_9_method_28_code 3 = .ok (.invokevirtual 131, 3) := by decide +kernel
theorem d_Model_found_6 : decode prog_9_method_28_code 6 = .ok (.ifCond .eq 11, 3) := by decide +kernel
theorem d_Model_found_9 : decode prog_9_method_28_code 9 = .ok (.aload_n 0, 1) := by decide +kernel
theorem d_Model_found_10 : decode prog_9_method_28_code 10 = .ok (.iload_n 2, 1) := by decide +kernel
theorem d_Model_found_11 : decode prog_9_method_28_code 11 = .ok (.invokevirtual 124, 3) := by decide +kernel
theorem d_Model_found_14 : decode prog_9_method_28_code 14 = .ok (.ifCond .ne 7, 3) := by decide +kernel
theorem d_Model_found_17 : decode prog_9_method_28_code 17 = .ok (.iconst 1, 1) := by decide +kernel
theorem d_Model_found_18 : decode prog_9_method_28_code 18 = .ok (.goto 4, 3) := by decide +kernel
theorem d_Model_found_21 : decode prog_9_method_28_code 21 = .ok (.iconst 0, 1) := by decide +kernel
theorem d_Model_found_22 : decode prog_9_method_28_code 22 = .ok (.putfield 104, 3) := by decide +kernel
theorem d_Model_found_25 : decode prog_9_method_28_code 25 = .ok (.aload_n 0, 1) := by decide +kernel
theorem d_Model_found_26 : decode prog_9_method_28_code 26 = .ok (.getfield 104, 3) := by decide +kernel
theorem d_Model_found_29 : decode prog_9_method_28_code 29 = .ok (.ifCond .ne 22, 3) := by decide +kernel
theorem d_Model_found_32 : decode prog_9_method_28_code 32 = .ok (.aload_n 0, 1) := by decide +kernel
theorem d_Model_found_33 : decode prog_9_method_28_code 33 = .ok (.aload_n 0, 1) := by decide +kernel
theorem d_Model_found_34 : decode prog_9_method_28_code 34 = .ok (.getfield 20, 3) := by decide +kernel
theorem d_Model_found_37 : decode prog_9_method_28_code 37 = .ok (.iload_n 1, 1) := by decide +kernel
theorem d_Model_found_38 : decode prog_9_method_28_code 38 = .ok (.iaload, 1) := by decide +kernel
theorem d_Model_found_39 : decode prog_9_method_28_code 39 = .ok (.iconst 2, 1) := by decide +kernel
theorem d_Model_found_40 : decode prog_9_method_28_code 40 = .ok (.if_icmp .eq 7, 3) := by decide +kernel
theorem d_Model_found_43 : decode prog_9_method_28_code 43 = .ok (.iconst 2, 1) := by decide +kernel
theorem d_Model_found_44 : decode prog_9_method_28_code 44 = .ok (.goto 4, 3) := by decide +kernel
theorem d_Model_found_47 : decode prog_9_method_28_code 47 = .ok (.iconst 0, 1) := by decide +kernel
theorem d_Model_found_48 : decode prog_9_method_28_code 48 = .ok (.putfield 104, 3) := by decide +kernel
theorem d_Model_found_51 : decode prog_9_method_28_code 51 = .ok (.aload_n 0, 1) := by decide +kernel
theorem d_Model_found_52 : decode prog_9_method_28_code 52 = .ok (.getfield 104, 3) := by decide +kernel
theorem d_Model_found_55 : decode prog_9_method_28_code 55 = .ok (.ifCond .ne 21, 3) := by decide +kernel
theorem d_Model_found_58 : decode prog_9_method_28_code 58 = .ok (.aload_n 0, 1) := by decide +kernel
theorem d_Model_found_59 : decode prog_9_method_28_code 59 = .ok (.aload_n 0, 1) := by decide +kernel
theorem d_Model_found_60 : decode prog_9_method_28_code 60 = .ok (.iload_n 1, 1) := by decide +kernel
theorem d_Model_found_61 : decode prog_9_method_28_code 61 = .ok (.iload_n 2, 1) := by decide +kernel
theorem d_Model_found_62 : decode prog_9_method_28_code 62 = .ok (.invokevirtual 165, 3) := by decide +kernel
theorem d_Model_found_65 : decode prog_9_method_28_code 65 = .ok (.ifCond .ne 7, 3) := by decide +kernel
theorem d_Model_found_68 : decode prog_9_method_28_code 68 = .ok (.iconst 2, 1) := by decide +kernel
theorem d_Model_found_69 : decode prog_9_method_28_code 69 = .ok (.goto 4, 3) := by decide +kernel
theorem d_Model_found_72 : decode prog_9_method_28_code 72 = .ok (.iconst 0, 1) := by decide +kernel
theorem d_Model_found_73 : decode prog_9_method_28_code 73 = .ok (.putfield 104, 3) := by decide +kernel
theorem d_Model_found_76 : decode prog_9_method_28_code 76 = .ok (.aload_n 0, 1) := by decide +kernel
theorem d_Model_found_77 : decode prog_9_method_28_code 77 = .ok (.getfield 104, 3) := by decide +kernel
theorem d_Model_found_80 : decode prog_9_method_28_code 80 = .ok (.ifCond .le 5, 3) := by decide +kernel
theorem d_Model_found_83 : decode prog_9_method_28_code 83 = .ok (.iconst 0, 1) := by decide +kernel
theorem d_Model_found_84 : decode prog_9_method_28_code 84 = .ok (.ireturn, 1) := by decide +kernel
theorem d_Model_found_85 : decode prog_9_method_28_code 85 = .ok (.aload_n 0, 1) := by decide +kernel
theorem d_Model_found_86 : decode prog_9_method_28_code 86 = .ok (.getfield 13, 3) := by decide +kernel
theorem d_Model_found_89 : decode prog_9_method_28_code 89 = .ok (.iload_n 1, 1) := by decide +kernel
theorem d_Model_found_90 : decode prog_9_method_28_code 90 = .ok (.iload_n 2, 1) := by decide +kernel
theorem d_Model_found_91 : decode prog_9_method_28_code 91 = .ok (.iastore, 1) := by decide +kernel
theorem d_Model_found_92 : decode prog_9_method_28_code 92 = .ok (.aload_n 0, 1) := by decide +kernel
theorem d_Model_found_93 : decode prog_9_method_28_code 93 = .ok (.getfield 20, 3) := by decide +kernel
theorem d_Model_found_96 : decode prog_9_method_28_code 96 = .ok (.iload_n 1, 1) := by decide +kernel
theorem d_Model_found_97 : decode prog_9_method_28_code 97 = .ok (.iconst 1, 1) := by decide +kernel
theorem d_Model_found_98 : decode prog_9_method_28_code 98 = .ok (.iastore, 1) := by decide +kernel
theorem d_Model_found_99 : decode prog_9_method_28_code 99 = .ok (.aload_n 0, 1) := by decide +kernel
theorem d_Model_found_100 : decode prog_9_method_28_code 100 = .ok (.getfield 101, 3) := by decide +kernel
theorem d_Model_found_103 : decode prog_9_method_28_code 103 = .ok (.iload_n 2, 1) := by decide +kernel
theorem d_Model_found_104 : decode prog_9_method_28_code 104 = .ok (.iaload, 1) := by decide +kernel
theorem d_Model_found_105 : decode prog_9_method_28_code 105 = .ok (.ireturn, 1) := by decide +kernel
theorem d_Model_tow_0 : decode prog_9_method_29_code 0 = .ok (.aload_n 0, 1) := by decide +kernel
theorem d_Model_tow_1 : decode prog_9_method_29_code 1 = .ok (.aload_n 0, 1) := by decide +kernel
theorem d_Model_tow_2 : decode prog_9_method_29_code 2 = .ok (.iload_n 1, 1) := by decide +kernel
theorem d_Model_tow_3 : decode prog_9_method_29_code 3 = .ok (.invokevirtual 131, 3) := by decide +kernel
theorem d_Model_tow_6 : decode prog_9_method_29_code 6 = .ok (.ifCond .eq 11, 3) := by decide +kernel
theorem d_Model_tow_9 : decode prog_9_method_29_code 9 = .ok (.aload_n 0, 1) := by decide +kernel
theorem d_Model_tow_10 : decode prog_9_method_29_code 10 = .ok (.iload_n 2, 1) := by decide +kernel
theorem d_Model_tow_11 : decode prog_9_method_29_code 11 = .ok (.invokevirtual 124, 3) := by decide +kernel
theorem d_Model_tow_14 : decode prog_9_method_29_code 14 = .ok (.ifCond .ne 7, 3) := by decide +kernel
theorem d_Model_tow_17 : decode prog_9_method_29_code 17 = .ok (.iconst 1, 1) := by decide +kernel
theorem d_Model_tow_18 : decode prog_9_method_29_code 18 = .ok (.goto 4, 3) := by decide +kernel
theorem d_Model_tow_21 : decode prog_9_method_29_code 21 = .ok (.iconst 0, 1) := by decide +kernel
theorem d_Model_tow_22 : decode prog_9_method_29_code 22 = .ok (.putfield 104, 3) := by decide +kernel
theorem d_Model_tow_25 : decode prog_9_method_29_code 25 = .ok (.aload_n 0, 1) := by decide +kernel
theorem d_Model_tow_26 : decode prog_9_method_29_code 26 = .ok (.getfield 104, 3) := by decide +kernel
theorem d_Model_tow_29 : decode prog_9_method_29_code 29 = .ok (.ifCond .ne 32, 3) := by decide +kernel
theorem d_Model_tow_32 : decode prog_9_method_29_code 32 = .ok (.aload_n 0, 1) := by decide +kernel
theorem d_Model_tow_33 : decode prog_9_method_29_code 33 = .ok (.aload_n 0, 1) := by decide +kernel
theorem d_Model_tow_34 : decode prog_9_method_29_code 34 = .ok (.getfield 20, 3) := by decide +kernel
theorem d_Model_tow_37 : decode prog_9_method_29_code 37 = .ok (.iload_n 1, 1) := by decide +kernel
theorem d_Model_tow_38 : decode prog_9_method_29_code 38 = .ok (.iaload, 1) := by decide +kernel
theorem d_Model_tow_39 : decode prog_9_method_29_code 39 = .ok (.iconst 1, 1) := by decide +kernel
theorem d_Model_tow_40 : decode prog_9_method_29_code 40 = .ok (.if_icmp .eq 17, 3) := by decide +kernel
theorem d_Model_tow_43 : decode prog_9_method_29_code 43 = .ok (.aload_n 0, 1) := by decide +kernel
theorem d_Model_tow_44 : decode prog_9_method_29_code 44 = .ok (.getfield 20, 3) := by decide +kernel
theorem d_Model_tow_47 : decode prog_9_method_29_code 47 = .ok (.iload_n 1, 1) := by decide +kernel
theorem d_Model_tow_48 : decode prog_9_method_29_code 48 = .ok (.iaload, 1) := by decide +kernel
theorem d_Model_tow_49 : decode prog_9_method_29_code 49 = .ok (.iconst 3, 1) := by decide +kernel
theorem d_Model_tow_50 : decode prog_9_method_29_code 50 = .ok (.if_icmp .eq 7, 3) := by decide +kernel
theorem d_Model_tow_53 : decode prog_9_method_29_code 53 = .ok (.iconst 2, 1) := by decide +kernel
theorem d_Model_tow_54 : decode prog_9_method_29_code 54 = .ok (.goto 4, 3) := by decide +kernel
theorem d_Model_tow_57 : decode prog_9_method_29_code 57 = .ok (.iconst 0, 1) := by decide +kernel
theorem d_Model_tow_58 : decode prog_9_method_29_code 58 = .ok (.putfield 104, 3) := by decide +kernel
theorem d_Model_tow_61 : decode prog_9_method_29_code 61 = .ok (.aload_n 0, 1) := by decide +kernel
theorem d_Model_tow_62 : decode prog_9_method_29_code 62 = .ok (.getfield 104, 3) := by decide +kernel
theorem d_Model_tow_65 : decode prog_9_method_29_code 65 = .ok (.ifCond .le 4, 3) := by decide +kernel
theorem d_Model_tow_68 : decode prog_9_method_29_code 68 = .ok (.return_, 1) := by decide +kernel
theorem d_Model_tow_69 : decode prog_9_method_29_code 69 = .ok (.aload_n 0, 1) := by decide +kernel
theorem d_Model_tow_70 : decode prog_9_method_29_code 70 = .ok (.getfield 20, 3) := by decide +kernel
theorem d_Model_tow_73 : decode prog_9_method_29_code 73 = .ok (.iload_n 1, 1) := by decide +kernel
theorem d_Model_tow_74 : decode prog_9_method_29_code 74 = .ok (.iconst 3, 1) := by decide +kernel
theorem d_Model_tow_75 : decode prog_9_method_29_code 75 = .ok (.iastore, 1) := by decide +kernel
theorem d_Model_tow_76 : decode prog_9_method_29_code 76 = .ok (.aload_n 0, 1) := by decide +kernel
theorem d_Model_tow_77 : decode prog_9_method_29_code 77 = .ok (.getfield 13, 3) := by decide +kernel
theorem d_Model_tow_80 : decode prog_9_method_29_code 80 = .ok (.iload_n 1, 1) := by decide +kernel
theorem d_Model_tow_81 : decode prog_9_method_29_code 81 = .ok (.iload_n 2, 1) := by decide +kernel
theorem d_Model_tow_82 : decode prog_9_method_29_code 82 = .ok (.iastore, 1) := by decide +kernel
theorem d_Model_tow_83 : decode prog_9_method_29_code 83 = .ok (.return_, 1) := by decide +kernel
theorem d_Model_plant_0 : decode prog_9_method_30_code 0 = .ok (.aload_n 0, 1) := by decide +kernel
theorem d_Model_plant_1 : decode prog_9_method_30_code 1 = .ok (.aload_n 0, 1) := by decide +kernel
theorem d_Model_plant_2 : decode prog_9_method_30_code 2 = .ok (.iload_n 1, 1) := by decide +kernel
theorem d_Model_plant_3 : decode prog_9_method_30_code 3 = .ok (.invokevirtual 131, 3) := by decide +kernel
theorem d_Model_plant_6 : decode prog_9_method_30_code 6 = .ok (.ifCond .ne 7, 3) := by decide +kernel
theorem d_Model_plant_9 : decode prog_9_method_30_code 9 = .ok (.iconst 1, 1) := by decide +kernel
theorem d_Model_plant_10 : decode prog_9_method_30_code 10 = .ok (.goto 39, 3) := by decide +kernel
theorem d_Model_plant_13 : decode prog_9_method_30_code 13 = .ok (.iload_n 2, 1) := by decide +kernel
theorem d_Model_plant_14 : decode prog_9_method_30_code 14 = .ok (.invokestatic 128, 3) := by decide +kernel
theorem d_Model_plant_17 : decode prog_9_method_30_code 17 = .ok (.ifCond .eq 14, 3) := by decide +kernel
theorem d_Model_plant_20 : decode prog_9_method_30_code 20 = .ok (.iload_n 3, 1) := by decide +kernel
theorem d_Model_plant_21 : decode prog_9_method_30_code 21 = .ok (.iconst 1, 1) := by decide +kernel
theorem d_Model_plant_22 : decode prog_9_method_30_code 22 = .ok (.sipush 1000, 3) := by decide +kernel
theorem d_Model_plant_25 : decode prog_9_method_30_code 25 = .ok (.invokestatic 111, 3) := by decide +kernel
theorem d_Model_plant_28 : decode prog_9_method_30_code 28 = .ok (.ifCond .ne 7, 3) := by decide +kernel
theorem d_Model_plant_31 : decode prog_9_method_30_code 31 = .ok (.iconst 2, 1) := by decide +kernel
theorem d_Model_plant_32 : decode prog_9_method_30_code 32 = .ok (.goto 17, 3) := by decide +kernel
theorem d_Model_plant_35 : decode prog_9_method_30_code 35 = .ok (.aload_n 0, 1) := by decide +kernel
theorem d_Model_plant_36 : decode prog_9_method_30_code 36 = .ok (.getfield 169, 3) := by decide +kernel
theorem d_Model_plant_39 : decode prog_9_method_30_code 39 = .ok (.bipush 10, 2) := by decide +kernel
theorem d_Model_plant_41 : decode prog_9_method_30_code 41 = .ok (.if_icmp .ne 7, 3) := by decide +kernel
theorem d_Model_plant_44 : decode prog_9_method_30_code 44 = .ok (.iconst 3, 1) := by decide +kernel
theorem d_Model_plant_45 : decode prog_9_method_30_code 45 = .ok (.goto 4, 3) := by decide +kernel
theorem d_Model_plant_48 : decode prog_9_method_30_code 48 = .ok (.iconst 0, 1) := by decide +kernel
theorem d_Model_plant_49 : decode prog_9_method_30_code 49 = .ok (.putfield 104, 3) := by decide +kernel
theorem d_Model_plant_52 : decode prog_9_method_30_code 52 = .ok (.aload_n 0, 1) := by decide +kernel
theorem d_Model_plant_53 : decode prog_9_method_30_code 53 = .ok (.getfield 104, 3) := by decide +kernel
theorem d_Model_plant_56 : decode prog_9_method_30_code 56 = .ok (.ifCond .le 4, 3) := by decide +kernel
theorem d_Model_plant_59 : decode prog_9_method_30_code 59 = .ok (.return_, 1) := by decide +kernel
theorem d_Model_plant_60 : decode prog_9_method_30_code 60 = .ok (.aload_n 0, 1) := by decide +kernel
theorem d_Model_plant_61 : decode prog_9_method_30_code 61 = .ok (.getfield 92, 3) := by decide +kernel
theorem d_Model_plant_64 : decode prog_9_method_30_code 64 = .ok (.aload_n 0, 1) := by decide +kernel
theorem d_Model_plant_65 : decode prog_9_method_30_code 65 = .ok (.getfield 169, 3) := by decide +kernel
theorem d_Model_plant_68 : decode prog_9_method_30_code 68 = .ok (.iload_n 1, 1) := by decide +kernel
theorem d_Model_plant_69 : decode prog_9_method_30_code 69 = .ok (.iastore, 1) := by decide +kernel
theorem d_Model_plant_70 : decode prog_9_method_30_code 70 = .ok (.aload_n 0, 1) := by decide +kernel
theorem d_Model_plant_71 : decode prog_9_method_30_code 71 = .ok (.getfield 95, 3) := by decide +kernel
theorem d_Model_plant_74 : decode prog_9_method_30_code 74 = .ok (.aload_n 0, 1) := by decide +kernel
theorem d_Model_plant_75 : decode prog_9_method_30_code 75 = .ok (.getfield 169, 3) := by decide +kernel
theorem d_Model_plant_78 : decode prog_9_method_30_code 78 = .ok (.iload_n 2, 1) := by decide +kernel
theorem d_Model_plant_79 : decode prog_9_method_30_code 79 = .ok (.iastore, 1) := by decide +kernel
theorem d_Model_plant_80 : decode prog_9_method_30_code 80 = .ok (.aload_n 0, 1) := by decide +kernel
theorem d_Model_plant_81 : decode prog_9_method_30_code 81 = .ok (.getfield 98, 3) := by decide +kernel
theorem d_Model_plant_84 : decode prog_9_method_30_code 84 = .ok (.aload_n 0, 1) := by decide +kernel
theorem d_Model_plant_85 : decode prog_9_method_30_code 85 = .ok (.getfield 169, 3) := by decide +kernel
theorem d_Model_plant_88 : decode prog_9_method_30_code 88 = .ok (.aload_n 0, 1) := by decide +kernel
theorem d_Model_plant_89 : decode prog_9_method_30_code 89 = .ok (.getfield 138, 3) := by decide +kernel
theorem d_Model_plant_92 : decode prog_9_method_30_code 92 = .ok (.iload_n 3, 1) := by decide +kernel
theorem d_Model_plant_93 : decode prog_9_method_30_code 93 = .ok (.iadd, 1) := by decide +kernel
theorem d_Model_plant_94 : decode prog_9_method_30_code 94 = .ok (.iastore, 1) := by decide +kernel
theorem d_Model_plant_95 : decode prog_9_method_30_code 95 = .ok (.aload_n 0, 1) := by decide +kernel
theorem d_Model_plant_96 : decode prog_9_method_30_code 96 = .ok (.dup, 1) := by decide +kernel
theorem d_Model_plant_97 : decode prog_9_method_30_code 97 = .ok (.getfield 169, 3) := by decide +kernel
theorem d_Model_plant_100 : decode prog_9_method_30_code 100 = .ok (.iconst 1, 1) := by decide +kernel
theorem d_Model_plant_101 : decode prog_9_method_30_code 101 = .ok (.iadd, 1) := by decide +kernel
theorem d_Model_plant_102 : decode prog_9_method_30_code 102 = .ok (.putfield 169, 3) := by decide +kernel
theorem d_Model_plant_105 : decode prog_9_method_30_code 105 = .ok (.return_, 1) := by decide +kernel
theorem d_Model_pass_0 : decode prog_9_method_32_code 0 = .ok (.aload_n 0, 1) := by decide +kernel
theorem d_Model_pass_1 : decode prog_9_method_32_code 1 = .ok (.iload_n 1, 1) := by decide +kernel
theorem d_Model_pass_2 : decode prog_9_method_32_code 2 = .ok (.iconst 0, 1) := by decide +kernel
theorem d_Model_pass_3 : decode prog_9_method_32_code 3 = .ok (.sipush 1000, 3) := by decide +kernel
theorem d_Model_pass_6 : decode prog_9_method_32_code 6 = .ok (.invokestatic 111, 3) := by decide +kernel
theorem d_Model_pass_9 : decode prog_9_method_32_code 9 = .ok (.ifCond .eq 18, 3) := by decide +kernel
theorem d_Model_pass_12 : decode prog_9_method_32_code 12 = .ok (.iload_n 1, 1) := by decide +kernel
theorem d_Model_pass_13 : decode prog_9_method_32_code 13 = .ok (.ldc 172, 2) := by decide +kernel
theorem d_Model_pass_15 : decode prog_9_method_32_code 15 = .ok (.aload_n 0, 1) := by decide +kernel
theorem d_Model_pass_16 : decode prog_9_method_32_code 16 = .ok (.getfield 138, 3) := by decide +kernel
theorem d_Model_pass_19 : decode prog_9_method_32_code 19 = .ok (.isub, 1) := by decide +kernel
theorem d_Model_pass_20 : decode prog_9_method_32_code 20 = .ok (.if_icmp .gt 7, 3) := by decide +kernel
theorem d_Model_pass_23 : decode prog_9_method_32_code 23 = .ok (.iconst 0, 1) := by decide +kernel
theorem d_Model_pass_24 : decode prog_9_method_32_code 24 = .ok (.goto 4, 3) := by decide +kernel
theorem d_Model_pass_27 : decode prog_9_method_32_code 27 = .ok (.iconst 1, 1) := by decide +kernel
theorem d_Model_pass_28 : decode prog_9_method_32_code 28 = .ok (.putfield 104, 3) := by decide +kernel
theorem d_Model_pass_31 : decode prog_9_method_32_code 31 = .ok (.aload_n 0, 1) := by decide +kernel
theorem d_Model_pass_32 : decode prog_9_method_32_code 32 = .ok (.getfield 104, 3) := by decide +kernel
theorem d_Model_pass_35 : decode prog_9_method_32_code 35 = .ok (.ifCond .le 5, 3) := by decide +kernel
theorem d_Model_pass_38 : decode prog_9_method_32_code 38 = .ok (.iconst 0, 1) := by decide +kernel
theorem d_Model_pass_39 : decode prog_9_method_32_code 39 = .ok (.ireturn, 1) := by decide +kernel
theorem d_Model_pass_40 : decode prog_9_method_32_code 40 = .ok (.iconst 0, 1) := by decide +kernel
theorem d_Model_pass_41 : decode prog_9_method_32_code 41 = .ok (.istore_n 2, 1) := by decide +kernel
theorem d_Model_pass_42 : decode prog_9_method_32_code 42 = .ok (.iconst 0, 1) := by decide +kernel
theorem d_Model_pass_43 : decode prog_9_method_32_code 43 = .ok (.istore_n 3, 1) := by decide +kernel
theorem d_Model_pass_44 : decode prog_9_method_32_code 44 = .ok (.iload_n 3, 1) := by decide +kernel
theorem d_Model_pass_45 : decode prog_9_method_32_code 45 = .ok (.iload_n 1, 1) := by decide +kernel
theorem d_Model_pass_46 : decode prog_9_method_32_code 46 = .ok (.if_icmp .ge 128, 3) := by decide +kernel
theorem d_Model_pass_49 : decode prog_9_method_32_code 49 = .ok (.aload_n 0, 1) := by decide +kernel
theorem d_Model_pass_50 : decode prog_9_method_32_code 50 = .ok (.dup, 1) := by decide +kernel
theorem d_Model_pass_51 : decode prog_9_method_32_code 51 = .ok (.getfield 138, 3) := by decide +kernel
theorem d_Model_pass_54 : decode prog_9_method_32_code 54 = .ok (.iconst 1, 1) := by decide +kernel
theorem d_Model_pass_55 : decode prog_9_method_32_code 55 = .ok (.iadd, 1) := by decide +kernel
theorem d_Model_pass_56 : decode prog_9_method_32_code 56 = .ok (.putfield 138, 3) := by decide +kernel
end
section
/-! decode rows: printed by wip/gen/names.py -/
theorem d_Model_pass_59 : decode prog_9_method_32_code 59 = .ok (.aload_n 0, 1) := by decide +kernel
theorem d_Model_pass_60 : decode prog_9_method_32_code 60 = .ok (.invokevirtual 173, 3) := by decide +kernel
theorem d_Model_pass_63 : decode prog_9_method_32_code 63 = .ok (.iconst 0, 1) := by decide +kernel
theorem d_Model_pass_64 : decode prog_9_method_32_code 64 = .ok (.istore 4, 2) := by decide +kernel
theorem d_Model_pass_66 : decode prog_9_method_32_code 66 = .ok (.iload 4, 2) := by decide +kernel
theorem d_Model_pass_68 : decode prog_9_method_32_code 68 = .ok (.aload_n 0, 1) := by decide +kernel
theorem d_Model_pass_69 : decode prog_9_method_32_code 69 = .ok (.getfield 121, 3) := by decide +kernel
theorem d_Model_pass_72 : decode prog_9_method_32_code 72 = .ok (.if_icmp .ge 96, 3) := by decide +kernel
theorem d_Model_pass_75 : decode prog_9_method_32_code 75 = .ok (.aload_n 0, 1) := by decide +kernel
theorem d_Model_pass_76 : decode prog_9_method_32_code 76 = .ok (.getfield 83, 3) := by decide +kernel
theorem d_Model_pass_79 : decode prog_9_method_32_code 79 = .ok (.iload 4, 2) := by decide +kernel
theorem d_Model_pass_81 : decode prog_9_method_32_code 81 = .ok (.iaload, 1) := by decide +kernel
theorem d_Model_pass_82 : decode prog_9_method_32_code 82 = .ok (.iconst (-1), 1) := by decide +kernel
theorem d_Model_pass_83 : decode prog_9_method_32_code 83 = .ok (.if_icmp .ne 79, 3) := by decide +kernel
theorem d_Model_pass_86 : decode prog_9_method_32_code 86 = .ok (.aload_n 0, 1) := by decide +kernel
theorem d_Model_pass_87 : decode prog_9_method_32_code 87 = .ok (.getfield 47, 3) := by decide +kernel
theorem d_Model_pass_90 : decode prog_9_method_32_code 90 = .ok (.aload_n 0, 1) := by decide +kernel
theorem d_Model_pass_91 : decode prog_9_method_32_code 91 = .ok (.getfield 89, 3) := by decide +kernel
theorem d_Model_pass_94 : decode prog_9_method_32_code 94 = .ok (.iload 4, 2) := by decide +kernel
theorem d_Model_pass_96 : decode prog_9_method_32_code 96 = .ok (.iaload, 1) := by decide +kernel
theorem d_Model_pass_97 : decode prog_9_method_32_code 97 = .ok (.iaload, 1) := by decide +kernel
theorem d_Model_pass_98 : decode prog_9_method_32_code 98 = .ok (.iconst (-1), 1) := by decide +kernel
theorem d_Model_pass_99 : decode prog_9_method_32_code 99 = .ok (.if_icmp .ne 63, 3) := by decide +kernel
theorem d_Model_pass_102 : decode prog_9_method_32_code 102 = .ok (.aload_n 0, 1) := by decide +kernel
theorem d_Model_pass_103 : decode prog_9_method_32_code 103 = .ok (.getfield 77, 3) := by decide +kernel
theorem d_Model_pass_106 : decode prog_9_method_32_code 106 = .ok (.iload 4, 2) := by decide +kernel
theorem d_Model_pass_108 : decode prog_9_method_32_code 108 = .ok (.iaload, 1) := by decide +kernel
theorem d_Model_pass_109 : decode prog_9_method_32_code 109 = .ok (.iconst 3, 1) := by decide +kernel
theorem d_Model_pass_110 : decode prog_9_method_32_code 110 = .ok (.if_icmp .eq 52, 3) := by decide +kernel
theorem d_Model_pass_113 : decode prog_9_method_32_code 113 = .ok (.aload_n 0, 1) := by decide +kernel
theorem d_Model_pass_114 : decode prog_9_method_32_code 114 = .ok (.getfield 138, 3) := by decide +kernel
theorem d_Model_pass_117 : decode prog_9_method_32_code 117 = .ok (.aload_n 0, 1) := by decide +kernel
theorem d_Model_pass_118 : decode prog_9_method_32_code 118 = .ok (.getfield 86, 3) := by decide +kernel
theorem d_Model_pass_121 : decode prog_9_method_32_code 121 = .ok (.iload 4, 2) := by decide +kernel
theorem d_Model_pass_123 : decode prog_9_method_32_code 123 = .ok (.iaload, 1) := by decide +kernel
theorem d_Model_pass_124 : decode prog_9_method_32_code 124 = .ok (.if_icmp .eq 38, 3) := by decide +kernel
theorem d_Model_pass_127 : decode prog_9_method_32_code 127 = .ok (.aload_n 0, 1) := by decide +kernel
theorem d_Model_pass_128 : decode prog_9_method_32_code 128 = .ok (.getfield 138, 3) := by decide +kernel
theorem d_Model_pass_131 : decode prog_9_method_32_code 131 = .ok (.aload_n 0, 1) := by decide +kernel
theorem d_Model_pass_132 : decode prog_9_method_32_code 132 = .ok (.getfield 86, 3) := by decide +kernel
theorem d_Model_pass_135 : decode prog_9_method_32_code 135 = .ok (.iload 4, 2) := by decide +kernel
theorem d_Model_pass_137 : decode prog_9_method_32_code 137 = .ok (.iaload, 1) := by decide +kernel
theorem d_Model_pass_138 : decode prog_9_method_32_code 138 = .ok (.isub, 1) := by decide +kernel
theorem d_Model_pass_139 : decode prog_9_method_32_code 139 = .ok (.bipush 30, 2) := by decide +kernel
theorem d_Model_pass_141 : decode prog_9_method_32_code 141 = .ok (.irem, 1) := by decide +kernel
theorem d_Model_pass_142 : decode prog_9_method_32_code 142 = .ok (.ifCond .eq 6, 3) := by decide +kernel
theorem d_Model_pass_145 : decode prog_9_method_32_code 145 = .ok (.goto 17, 3) := by decide +kernel
theorem d_Model_pass_148 : decode prog_9_method_32_code 148 = .ok (.aload_n 0, 1) := by decide +kernel
theorem d_Model_pass_149 : decode prog_9_method_32_code 149 = .ok (.getfield 77, 3) := by decide +kernel
theorem d_Model_pass_152 : decode prog_9_method_32_code 152 = .ok (.iload 4, 2) := by decide +kernel
theorem d_Model_pass_154 : decode prog_9_method_32_code 154 = .ok (.dup2, 1) := by decide +kernel
theorem d_Model_pass_155 : decode prog_9_method_32_code 155 = .ok (.iaload, 1) := by decide +kernel
theorem d_Model_pass_156 : decode prog_9_method_32_code 156 = .ok (.iconst 1, 1) := by decide +kernel
theorem d_Model_pass_157 : decode prog_9_method_32_code 157 = .ok (.iadd, 1) := by decide +kernel
theorem d_Model_pass_158 : decode prog_9_method_32_code 158 = .ok (.iastore, 1) := by decide +kernel
theorem d_Model_pass_159 : decode prog_9_method_32_code 159 = .ok (.iinc 2 1, 3) := by decide +kernel
theorem d_Model_pass_162 : decode prog_9_method_32_code 162 = .ok (.iinc 4 1, 3) := by decide +kernel
theorem d_Model_pass_165 : decode prog_9_method_32_code 165 = .ok (.goto (-99), 3) := by decide +kernel
theorem d_Model_pass_168 : decode prog_9_method_32_code 168 = .ok (.iinc 3 1, 3) := by decide +kernel
theorem d_Model_pass_171 : decode prog_9_method_32_code 171 = .ok (.goto (-127), 3) := by decide +kernel
theorem d_Model_pass_174 : decode prog_9_method_32_code 174 = .ok (.iload_n 2, 1) := by decide +kernel
theorem d_Model_pass_175 : decode prog_9_method_32_code 175 = .ok (.ireturn, 1) := by decide +kernel
theorem d_Model_comePlanted_0 : decode prog_9_method_31_code 0 = .ok (.iconst 0, 1) := by decide +kernel
theorem d_Model_comePlanted_1 : decode prog_9_method_31_code 1 = .ok (.istore_n 1, 1) := by decide +kernel
theorem d_Model_comePlanted_2 : decode prog_9_method_31_code 2 = .ok (.iconst 0, 1) := by decide +kernel
theorem d_Model_comePlanted_3 : decode prog_9_method_31_code 3 = .ok (.istore_n 2, 1) := by decide +kernel
theorem d_Model_comePlanted_4 : decode prog_9_method_31_code 4 = .ok (.iload_n 2, 1) := by decide +kernel
theorem d_Model_comePlanted_5 : decode prog_9_method_31_code 5 = .ok (.aload_n 0, 1) := by decide +kernel
theorem d_Model_comePlanted_6 : decode prog_9_method_31_code 6 = .ok (.getfield 169, 3) := by decide +kernel
theorem d_Model_comePlanted_9 : decode prog_9_method_31_code 9 = .ok (.if_icmp .ge 101, 3) := by decide +kernel
theorem d_Model_comePlanted_12 : decode prog_9_method_31_code 12 = .ok (.aload_n 0, 1) := by decide +kernel
theorem d_Model_comePlanted_13 : decode prog_9_method_31_code 13 = .ok (.getfield 98, 3) := by decide +kernel
theorem d_Model_comePlanted_16 : decode prog_9_method_31_code 16 = .ok (.iload_n 2, 1) := by decide +kernel
theorem d_Model_comePlanted_17 : decode prog_9_method_31_code 17 = .ok (.iaload, 1) := by decide +kernel
theorem d_Model_comePlanted_18 : decode prog_9_method_31_code 18 = .ok (.aload_n 0, 1) := by decide +kernel
theorem d_Model_comePlanted_19 : decode prog_9_method_31_code 19 = .ok (.getfield 138, 3) := by decide +kernel
theorem d_Model_comePlanted_22 : decode prog_9_method_31_code 22 = .ok (.if_icmp .ne 43, 3) := by decide +kernel
theorem d_Model_comePlanted_25 : decode prog_9_method_31_code 25 = .ok (.aload_n 0, 1) := by decide +kernel
theorem d_Model_comePlanted_26 : decode prog_9_method_31_code 26 = .ok (.aload_n 0, 1) := by decide +kernel
theorem d_Model_comePlanted_27 : decode prog_9_method_31_code 27 = .ok (.getfield 92, 3) := by decide +kernel
theorem d_Model_comePlanted_30 : decode prog_9_method_31_code 30 = .ok (.iload_n 2, 1) := by decide +kernel
theorem d_Model_comePlanted_31 : decode prog_9_method_31_code 31 = .ok (.iaload, 1) := by decide +kernel
theorem d_Model_comePlanted_32 : decode prog_9_method_31_code 32 = .ok (.aload_n 0, 1) := by decide +kernel
theorem d_Model_comePlanted_33 : decode prog_9_method_31_code 33 = .ok (.getfield 95, 3) := by decide +kernel
theorem d_Model_comePlanted_36 : decode prog_9_method_31_code 36 = .ok (.iload_n 2, 1) := by decide +kernel
theorem d_Model_comePlanted_37 : decode prog_9_method_31_code 37 = .ok (.iaload, 1) := by decide +kernel
theorem d_Model_comePlanted_38 : decode prog_9_method_31_code 38 = .ok (.invokevirtual 144, 3) := by decide +kernel
theorem d_Model_comePlanted_41 : decode prog_9_method_31_code 41 = .ok (.ifCond .ne 63, 3) := by decide +kernel
theorem d_Model_comePlanted_44 : decode prog_9_method_31_code 44 = .ok (.aload_n 0, 1) := by decide +kernel
theorem d_Model_comePlanted_45 : decode prog_9_method_31_code 45 = .ok (.aload_n 0, 1) := by decide +kernel
theorem d_Model_comePlanted_46 : decode prog_9_method_31_code 46 = .ok (.getfield 92, 3) := by decide +kernel
theorem d_Model_comePlanted_49 : decode prog_9_method_31_code 49 = .ok (.iload_n 2, 1) := by decide +kernel
theorem d_Model_comePlanted_50 : decode prog_9_method_31_code 50 = .ok (.iaload, 1) := by decide +kernel
theorem d_Model_comePlanted_51 : decode prog_9_method_31_code 51 = .ok (.aload_n 0, 1) := by decide +kernel
theorem d_Model_comePlanted_52 : decode prog_9_method_31_code 52 = .ok (.getfield 95, 3) := by decide +kernel
theorem d_Model_comePlanted_55 : decode prog_9_method_31_code 55 = .ok (.iload_n 2, 1) := by decide +kernel
theorem d_Model_comePlanted_56 : decode prog_9_method_31_code 56 = .ok (.iaload, 1) := by decide +kernel
theorem d_Model_comePlanted_57 : decode prog_9_method_31_code 57 = .ok (.iconst 1, 1) := by decide +kernel
theorem d_Model_comePlanted_58 : decode prog_9_method_31_code 58 = .ok (.invokevirtual 147, 3) := by decide +kernel
theorem d_Model_comePlanted_61 : decode prog_9_method_31_code 61 = .ok (.pop, 1) := by decide +kernel
theorem d_Model_comePlanted_62 : decode prog_9_method_31_code 62 = .ok (.goto 42, 3) := by decide +kernel
theorem d_Model_comePlanted_65 : decode prog_9_method_31_code 65 = .ok (.aload_n 0, 1) := by decide +kernel
theorem d_Model_comePlanted_66 : decode prog_9_method_31_code 66 = .ok (.getfield 92, 3) := by decide +kernel
theorem d_Model_comePlanted_69 : decode prog_9_method_31_code 69 = .ok (.iload_n 1, 1) := by decide +kernel
theorem d_Model_comePlanted_70 : decode prog_9_method_31_code 70 = .ok (.aload_n 0, 1) := by decide +kernel
theorem d_Model_comePlanted_71 : decode prog_9_method_31_code 71 = .ok (.getfield 92, 3) := by decide +kernel
theorem d_Model_comePlanted_74 : decode prog_9_method_31_code 74 = .ok (.iload_n 2, 1) := by decide +kernel
theorem d_Model_comePlanted_75 : decode prog_9_method_31_code 75 = .ok (.iaload, 1) := by decide +kernel
theorem d_Model_comePlanted_76 : decode prog_9_method_31_code 76 = .ok (.iastore, 1) := by decide +kernel
theorem d_Model_comePlanted_77 : decode prog_9_method_31_code 77 = .ok (.aload_n 0, 1) := by decide +kernel
theorem d_Model_comePlanted_78 : decode prog_9_method_31_code 78 = .ok (.getfield 95, 3) := by decide +kernel
theorem d_Model_comePlanted_81 : decode prog_9_method_31_code 81 = .ok (.iload_n 1, 1) := by decide +kernel
theorem d_Model_comePlanted_82 : decode prog_9_method_31_code 82 = .ok (.aload_n 0, 1) := by decide +kernel
theorem d_Model_comePlanted_83 : decode prog_9_method_31_code 83 = .ok (.getfield 95, 3) := by decide +kernel
theorem d_Model_comePlanted_86 : decode prog_9_method_31_code 86 = .ok (.iload_n 2, 1) := by decide +kernel
theorem d_Model_comePlanted_87 : decode prog_9_method_31_code 87 = .ok (.iaload, 1) := by decide +kernel
theorem d_Model_comePlanted_88 : decode prog_9_method_31_code 88 = .ok (.iastore, 1) := by decide +kernel
theorem d_Model_comePlanted_89 : decode prog_9_method_31_code 89 = .ok (.aload_n 0, 1) := by decide +kernel
theorem d_Model_comePlanted_90 : decode prog_9_method_31_code 90 = .ok (.getfield 98, 3) := by decide +kernel
theorem d_Model_comePlanted_93 : decode prog_9_method_31_code 93 = .ok (.iload_n 1, 1) := by decide +kernel
theorem d_Model_comePlanted_94 : decode prog_9_method_31_code 94 = .ok (.aload_n 0, 1) := by decide +kernel
theorem d_Model_comePlanted_95 : decode prog_9_method_31_code 95 = .ok (.getfield 98, 3) := by decide +kernel
theorem d_Model_comePlanted_98 : decode prog_9_method_31_code 98 = .ok (.iload_n 2, 1) := by decide +kernel
theorem d_Model_comePlanted_99 : decode prog_9_method_31_code 99 = .ok (.iaload, 1) := by decide +kernel
theorem d_Model_comePlanted_100 : decode prog_9_method_31_code 100 = .ok (.iastore, 1) := by decide +kernel
theorem d_Model_comePlanted_101 : decode prog_9_method_31_code 101 = .ok (.iinc 1 1, 3) := by decide +kernel
theorem d_Model_comePlanted_104 : decode prog_9_method_31_code 104 = .ok (.iinc 2 1, 3) := by decide +kernel
theorem d_Model_comePlanted_107 : decode prog_9_method_31_code 107 = .ok (.goto (-103), 3) := by decide +kernel
theorem d_Model_comePlanted_110 : decode prog_9_method_31_code 110 = .ok (.aload_n 0, 1) := by decide +kernel
theorem d_Model_comePlanted_111 : decode prog_9_method_31_code 111 = .ok (.iload_n 1, 1) := by decide +kernel
theorem d_Model_comePlanted_112 : decode prog_9_method_31_code 112 = .ok (.putfield 169, 3) := by decide +kernel
theorem d_Model_comePlanted_115 : decode prog_9_method_31_code 115 = .ok (.return_, 1) := by decide +kernel
theorem d_Model_acknowledge_0 : decode prog_9_method_33_code 0 = .ok (.aload_n 0, 1) := by decide +kernel
theorem d_Model_acknowledge_1 : decode prog_9_method_33_code 1 = .ok (.aload_n 0, 1) := by decide +kernel
theorem d_Model_acknowledge_2 : decode prog_9_method_33_code 2 = .ok (.iload_n 1, 1) := by decide +kernel
theorem d_Model_acknowledge_3 : decode prog_9_method_33_code 3 = .ok (.invokevirtual 176, 3) := by decide +kernel
theorem d_Model_acknowledge_6 : decode prog_9_method_33_code 6 = .ok (.ifCond .ne 7, 3) := by decide +kernel
theorem d_Model_acknowledge_9 : decode prog_9_method_33_code 9 = .ok (.iconst 1, 1) := by decide +kernel
theorem d_Model_acknowledge_10 : decode prog_9_method_33_code 10 = .ok (.goto 18, 3) := by decide +kernel
theorem d_Model_acknowledge_13 : decode prog_9_method_33_code 13 = .ok (.iload_n 2, 1) := by decide +kernel
theorem d_Model_acknowledge_14 : decode prog_9_method_33_code 14 = .ok (.iconst 0, 1) := by decide +kernel
theorem d_Model_acknowledge_15 : decode prog_9_method_33_code 15 = .ok (.bipush 7, 2) := by decide +kernel
theorem d_Model_acknowledge_17 : decode prog_9_method_33_code 17 = .ok (.invokestatic 111, 3) := by decide +kernel
theorem d_Model_acknowledge_20 : decode prog_9_method_33_code 20 = .ok (.ifCond .ne 7, 3) := by decide +kernel
theorem d_Model_acknowledge_23 : decode prog_9_method_33_code 23 = .ok (.iconst 2, 1) := by decide +kernel
theorem d_Model_acknowledge_24 : decode prog_9_method_33_code 24 = .ok (.goto 4, 3) := by decide +kernel
theorem d_Model_acknowledge_27 : decode prog_9_method_33_code 27 = .ok (.iconst 0, 1) := by decide +kernel
theorem d_Model_acknowledge_28 : decode prog_9_method_33_code 28 = .ok (.putfield 104, 3) := by decide +kernel
theorem d_Model_acknowledge_31 : decode prog_9_method_33_code 31 = .ok (.aload_n 0, 1) := by decide +kernel
theorem d_Model_acknowledge_32 : decode prog_9_method_33_code 32 = .ok (.getfield 104, 3) := by decide +kernel
theorem d_Model_acknowledge_35 : decode prog_9_method_33_code 35 = .ok (.ifCond .ne 22, 3) := by decide +kernel
theorem d_Model_acknowledge_38 : decode prog_9_method_33_code 38 = .ok (.aload_n 0, 1) := by decide +kernel
theorem d_Model_acknowledge_39 : decode prog_9_method_33_code 39 = .ok (.aload_n 0, 1) := by decide +kernel
theorem d_Model_acknowledge_40 : decode prog_9_method_33_code 40 = .ok (.getfield 83, 3) := by decide +kernel
theorem d_Model_acknowledge_43 : decode prog_9_method_33_code 43 = .ok (.iload_n 1, 1) := by decide +kernel
theorem d_Model_acknowledge_44 : decode prog_9_method_33_code 44 = .ok (.iaload, 1) := by decide +kernel
theorem d_Model_acknowledge_45 : decode prog_9_method_33_code 45 = .ok (.iconst (-1), 1) := by decide +kernel
theorem d_Model_acknowledge_46 : decode prog_9_method_33_code 46 = .ok (.if_icmp .eq 7, 3) := by decide +kernel
theorem d_Model_acknowledge_49 : decode prog_9_method_33_code 49 = .ok (.iconst 3, 1) := by decide +kernel
theorem d_Model_acknowledge_50 : decode prog_9_method_33_code 50 = .ok (.goto 4, 3) := by decide +kernel
theorem d_Model_acknowledge_53 : decode prog_9_method_33_code 53 = .ok (.iconst 0, 1) := by decide +kernel
theorem d_Model_acknowledge_54 : decode prog_9_method_33_code 54 = .ok (.putfield 104, 3) := by decide +kernel
theorem d_Model_acknowledge_57 : decode prog_9_method_33_code 57 = .ok (.aload_n 0, 1) := by decide +kernel
theorem d_Model_acknowledge_58 : decode prog_9_method_33_code 58 = .ok (.getfield 104, 3) := by decide +kernel
theorem d_Model_acknowledge_61 : decode prog_9_method_33_code 61 = .ok (.ifCond .le 5, 3) := by decide +kernel
theorem d_Model_acknowledge_64 : decode prog_9_method_33_code 64 = .ok (.iconst 0, 1) := by decide +kernel
theorem d_Model_acknowledge_65 : decode prog_9_method_33_code 65 = .ok (.ireturn, 1) := by decide +kernel
theorem d_Model_acknowledge_66 : decode prog_9_method_33_code 66 = .ok (.aload_n 0, 1) := by decide +kernel
theorem d_Model_acknowledge_67 : decode prog_9_method_33_code 67 = .ok (.getfield 83, 3) := by decide +kernel
theorem d_Model_acknowledge_70 : decode prog_9_method_33_code 70 = .ok (.iload_n 1, 1) := by decide +kernel
theorem d_Model_acknowledge_71 : decode prog_9_method_33_code 71 = .ok (.iload_n 2, 1) := by decide +kernel
theorem d_Model_acknowledge_72 : decode prog_9_method_33_code 72 = .ok (.iastore, 1) := by decide +kernel
theorem d_Model_acknowledge_73 : decode prog_9_method_33_code 73 = .ok (.aload_n 0, 1) := by decide +kernel
theorem d_Model_acknowledge_74 : decode prog_9_method_33_code 74 = .ok (.getfield 77, 3) := by decide +kernel
theorem d_Model_acknowledge_77 : decode prog_9_method_33_code 77 = .ok (.iload_n 1, 1) := by decide +kernel
theorem d_Model_acknowledge_78 : decode prog_9_method_33_code 78 = .ok (.iaload, 1) := by decide +kernel
theorem d_Model_acknowledge_79 : decode prog_9_method_33_code 79 = .ok (.ireturn, 1) := by decide +kernel
theorem d_Model_isAlarm_0 : decode prog_9_method_7_code 0 = .ok (.iload_n 1, 1) := by decide +kernel
theorem d_Model_isAlarm_1 : decode prog_9_method_7_code 1 = .ok (.iconst 0, 1) := by decide +kernel
theorem d_Model_isAlarm_2 : decode prog_9_method_7_code 2 = .ok (.aload_n 0, 1) := by decide +kernel
theorem d_Model_isAlarm_3 : decode prog_9_method_7_code 3 = .ok (.getfield 121, 3) := by decide +kernel
theorem d_Model_isAlarm_6 : decode prog_9_method_7_code 6 = .ok (.iconst 1, 1) := by decide +kernel
theorem d_Model_isAlarm_7 : decode prog_9_method_7_code 7 = .ok (.isub, 1) := by decide +kernel
theorem d_Model_isAlarm_8 : decode prog_9_method_7_code 8 = .ok (.invokestatic 111, 3) := by decide +kernel
theorem d_Model_isAlarm_11 : decode prog_9_method_7_code 11 = .ok (.ireturn, 1) := by decide +kernel
theorem d_Model_alarm_0 : decode prog_9_method_34_code 0 = .ok (.aload_n 0, 1) := by decide +kernel
theorem d_Model_alarm_1 : decode prog_9_method_34_code 1 = .ok (.aload_n 0, 1) := by decide +kernel
theorem d_Model_alarm_2 : decode prog_9_method_34_code 2 = .ok (.iload_n 1, 1) := by decide +kernel
theorem d_Model_alarm_3 : decode prog_9_method_34_code 3 = .ok (.invokevirtual 176, 3) := by decide +kernel
theorem d_Model_alarm_6 : decode prog_9_method_34_code 6 = .ok (.ifCond .ne 7, 3) := by decide +kernel
theorem d_Model_alarm_9 : decode prog_9_method_34_code 9 = .ok (.iconst 1, 1) := by decide +kernel
theorem d_Model_alarm_10 : decode prog_9_method_34_code 10 = .ok (.goto 18, 3) := by decide +kernel
theorem d_Model_alarm_13 : decode prog_9_method_34_code 13 = .ok (.iload_n 2, 1) := by decide +kernel
theorem d_Model_alarm_14 : decode prog_9_method_34_code 14 = .ok (.iconst 0, 1) := by decide +kernel
theorem d_Model_alarm_15 : decode prog_9_method_34_code 15 = .ok (.bipush 6, 2) := by decide +kernel
theorem d_Model_alarm_17 : decode prog_9_method_34_code 17 = .ok (.invokestatic 111, 3) := by decide +kernel
theorem d_Model_alarm_20 : decode prog_9_method_34_code 20 = .ok (.ifCond .ne 7, 3) := by decide +kernel
theorem d_Model_alarm_23 : decode prog_9_method_34_code 23 = .ok (.iconst 2, 1) := by decide +kernel
theorem d_Model_alarm_24 : decode prog_9_method_34_code 24 = .ok (.goto 4, 3) := by decide +kernel
theorem d_Model_alarm_27 : decode prog_9_method_34_code 27 = .ok (.iconst 0, 1) := by decide +kernel
theorem d_Model_alarm_28 : decode prog_9_method_34_code 28 = .ok (.putfield 104, 3) := by decide +kernel
theorem d_Model_alarm_31 : decode prog_9_method_34_code 31 = .ok (.aload_n 0, 1) := by decide +kernel
theorem d_Model_alarm_32 : decode prog_9_method_34_code 32 = .ok (.getfield 104, 3) := by decide +kernel
theorem d_Model_alarm_35 : decode prog_9_method_34_code 35 = .ok (.ifCond .le 5, 3) := by decide +kernel
theorem d_Model_alarm_38 : decode prog_9_method_34_code 38 = .ok (.iconst 0, 1) := by decide +kernel
theorem d_Model_alarm_39 : decode prog_9_method_34_code 39 = .ok (.ireturn, 1) := by decide +kernel
theorem d_Model_alarm_40 : decode prog_9_method_34_code 40 = .ok (.iload_n 2, 1) := by decide +kernel
theorem d_Model_alarm_41 : decode prog_9_method_34_code 41 = .ok (.ifCond .ne 10, 3) := by decide +kernel
theorem d_Model_alarm_44 : decode prog_9_method_34_code 44 = .ok (.aload_n 0, 1) := by decide +kernel
theorem d_Model_alarm_45 : decode prog_9_method_34_code 45 = .ok (.getfield 68, 3) := by decide +kernel
theorem d_Model_alarm_48 : decode prog_9_method_34_code 48 = .ok (.iload_n 1, 1) := by decide +kernel
theorem d_Model_alarm_49 : decode prog_9_method_34_code 49 = .ok (.iaload, 1) := by decide +kernel
theorem d_Model_alarm_50 : decode prog_9_method_34_code 50 = .ok (.ireturn, 1) := by decide +kernel
theorem d_Model_alarm_51 : decode prog_9_method_34_code 51 = .ok (.iload_n 2, 1) := by decide +kernel
theorem d_Model_alarm_52 : decode prog_9_method_34_code 52 = .ok (.iconst 1, 1) := by decide +kernel
theorem d_Model_alarm_53 : decode prog_9_method_34_code 53 = .ok (.if_icmp .ne 10, 3) := by decide +kernel
theorem d_Model_alarm_56 : decode prog_9_method_34_code 56 = .ok (.aload_n 0, 1) := by decide +kernel
theorem d_Model_alarm_57 : decode prog_9_method_34_code 57 = .ok (.getfield 71, 3) := by decide +kernel
theorem d_Model_alarm_60 : decode prog_9_method_34_code 60 = .ok (.iload_n 1, 1) := by decide +kernel
theorem d_Model_alarm_61 : decode prog_9_method_34_code 61 = .ok (.iaload, 1) := by decide +kernel
theorem d_Model_alarm_62 : decode prog_9_method_34_code 62 = .ok (.ireturn, 1) := by decide +kernel
theorem d_Model_alarm_63 : decode prog_9_method_34_code 63 = .ok (.iload_n 2, 1) := by decide +kernel
theorem d_Model_alarm_64 : decode prog_9_method_34_code 64 = .ok (.iconst 2, 1) := by decide +kernel
theorem d_Model_alarm_65 : decode prog_9_method_34_code 65 = .ok (.if_icmp .ne 10, 3) := by decide +kernel
theorem d_Model_alarm_68 : decode prog_9_method_34_code 68 = .ok (.aload_n 0, 1) := by decide +kernel
theorem d_Model_alarm_69 : decode prog_9_method_34_code 69 = .ok (.getfield 74, 3) := by decide +kernel
theorem d_Model_alarm_72 : decode prog_9_method_34_code 72 = .ok (.iload_n 1, 1) := by decide +kernel
theorem d_Model_alarm_73 : decode prog_9_method_34_code 73 = .ok (.iaload, 1) := by decide +kernel
theorem d_Model_alarm_74 : decode prog_9_method_34_code 74 = .ok (.ireturn, 1) := by decide +kernel
theorem d_Model_alarm_75 : decode prog_9_method_34_code 75 = .ok (.iload_n 2, 1) := by decide +kernel
theorem d_Model_alarm_76 : decode prog_9_method_34_code 76 = .ok (.iconst 3, 1) := by decide +kernel
theorem d_Model_alarm_77 : decode prog_9_method_34_code 77 = .ok (.if_icmp .ne 10, 3) := by decide +kernel
theorem d_Model_alarm_80 : decode prog_9_method_34_code 80 = .ok (.aload_n 0, 1) := by decide +kernel
theorem d_Model_alarm_81 : decode prog_9_method_34_code 81 = .ok (.getfield 77, 3) := by decide +kernel
theorem d_Model_alarm_84 : decode prog_9_method_34_code 84 = .ok (.iload_n 1, 1) := by decide +kernel
theorem d_Model_alarm_85 : decode prog_9_method_34_code 85 = .ok (.iaload, 1) := by decide +kernel
theorem d_Model_alarm_86 : decode prog_9_method_34_code 86 = .ok (.ireturn, 1) := by decide +kernel
theorem d_Model_alarm_87 : decode prog_9_method_34_code 87 = .ok (.iload_n 2, 1) := by decide +kernel
theorem d_Model_alarm_88 : decode prog_9_method_34_code 88 = .ok (.iconst 4, 1) := by decide +kernel
theorem d_Model_alarm_89 : decode prog_9_method_34_code 89 = .ok (.if_icmp .ne 12, 3) := by decide +kernel
theorem d_Model_alarm_92 : decode prog_9_method_34_code 92 = .ok (.aload_n 0, 1) := by decide +kernel
theorem d_Model_alarm_93 : decode prog_9_method_34_code 93 = .ok (.getfield 80, 3) := by decide +kernel
theorem d_Model_alarm_96 : decode prog_9_method_34_code 96 = .ok (.iload_n 1, 1) := by decide +kernel
theorem d_Model_alarm_97 : decode prog_9_method_34_code 97 = .ok (.iaload, 1) := by decide +kernel
theorem d_Model_alarm_98 : decode prog_9_method_34_code 98 = .ok (.goto 23, 3) := by decide +kernel
theorem d_Model_alarm_101 : decode prog_9_method_34_code 101 = .ok (.iload_n 2, 1) := by decide +kernel
theorem d_Model_alarm_102 : decode prog_9_method_34_code 102 = .ok (.iconst 5, 1) := by decide +kernel
theorem d_Model_alarm_103 : decode prog_9_method_34_code 103 = .ok (.if_icmp .ne 12, 3) := by decide +kernel
theorem d_Model_alarm_106 : decode prog_9_method_34_code 106 = .ok (.aload_n 0, 1) := by decide +kernel
theorem d_Model_alarm_107 : decode prog_9_method_34_code 107 = .ok (.getfield 83, 3) := by decide +kernel
theorem d_Model_alarm_110 : decode prog_9_method_34_code 110 = .ok (.iload_n 1, 1) := by decide +kernel
theorem d_Model_alarm_111 : decode prog_9_method_34_code 111 = .ok (.iaload, 1) := by decide +kernel
theorem d_Model_alarm_112 : decode prog_9_method_34_code 112 = .ok (.goto 9, 3) := by decide +kernel
theorem d_Model_alarm_115 : decode prog_9_method_34_code 115 = .ok (.aload_n 0, 1) := by decide +kernel
theorem d_Model_alarm_116 : decode prog_9_method_34_code 116 = .ok (.getfield 86, 3) := by decide +kernel
theorem d_Model_alarm_119 : decode prog_9_method_34_code 119 = .ok (.iload_n 1, 1) := by decide +kernel
theorem d_Model_alarm_120 : decode prog_9_method_34_code 120 = .ok (.iaload, 1) := by decide +kernel
theorem d_Model_alarm_121 : decode prog_9_method_34_code 121 = .ok (.ireturn, 1) := by decide +kernel
theorem d_Model_first_0 : decode prog_9_method_35_code 0 = .ok (.aload_n 0, 1) := by decide +kernel
theorem d_Model_first_1 : decode prog_9_method_35_code 1 = .ok (.iconst 0, 1) := by decide +kernel
theorem d_Model_first_2 : decode prog_9_method_35_code 2 = .ok (.putfield 104, 3) := by decide +kernel
theorem d_Model_first_5 : decode prog_9_method_35_code 5 = .ok (.iconst (-1), 1) := by decide +kernel
theorem d_Model_first_6 : decode prog_9_method_35_code 6 = .ok (.istore_n 1, 1) := by decide +kernel
theorem d_Model_first_7 : decode prog_9_method_35_code 7 = .ok (.iconst 0, 1) := by decide +kernel
theorem d_Model_first_8 : decode prog_9_method_35_code 8 = .ok (.istore_n 2, 1) := by decide +kernel
theorem d_Model_first_9 : decode prog_9_method_35_code 9 = .ok (.iload_n 2, 1) := by decide +kernel
theorem d_Model_first_10 : decode prog_9_method_35_code 10 = .ok (.aload_n 0, 1) := by decide +kernel
theorem d_Model_first_11 : decode prog_9_method_35_code 11 = .ok (.getfield 121, 3) := by decide +kernel
theorem d_Model_first_14 : decode prog_9_method_35_code 14 = .ok (.if_icmp .ge 74, 3) := by decide +kernel
theorem d_Model_first_17 : decode prog_9_method_35_code 17 = .ok (.aload_n 0, 1) := by decide +kernel
theorem d_Model_first_18 : decode prog_9_method_35_code 18 = .ok (.getfield 83, 3) := by decide +kernel
theorem d_Model_first_21 : decode prog_9_method_35_code 21 = .ok (.iload_n 2, 1) := by decide +kernel
theorem d_Model_first_22 : decode prog_9_method_35_code 22 = .ok (.iaload, 1) := by decide +kernel
theorem d_Model_first_23 : decode prog_9_method_35_code 23 = .ok (.iconst (-1), 1) := by decide +kernel
theorem d_Model_first_24 : decode prog_9_method_35_code 24 = .ok (.if_icmp .eq 6, 3) := by decide +kernel
theorem d_Model_first_27 : decode prog_9_method_35_code 27 = .ok (.goto 55, 3) := by decide +kernel
theorem d_Model_first_30 : decode prog_9_method_35_code 30 = .ok (.iload_n 1, 1) := by decide +kernel
theorem d_Model_first_31 : decode prog_9_method_35_code 31 = .ok (.iconst (-1), 1) := by decide +kernel
theorem d_Model_first_32 : decode prog_9_method_35_code 32 = .ok (.if_icmp .eq 48, 3) := by decide +kernel
theorem d_Model_first_35 : decode prog_9_method_35_code 35 = .ok (.aload_n 0, 1) := by decide +kernel
theorem d_Model_first_36 : decode prog_9_method_35_code 36 = .ok (.getfield 77, 3) := by decide +kernel
theorem d_Model_first_39 : decode prog_9_method_35_code 39 = .ok (.iload_n 2, 1) := by decide +kernel
theorem d_Model_first_40 : decode prog_9_method_35_code 40 = .ok (.iaload, 1) := by decide +kernel
theorem d_Model_first_41 : decode prog_9_method_35_code 41 = .ok (.aload_n 0, 1) := by decide +kernel
theorem d_Model_first_42 : decode prog_9_method_35_code 42 = .ok (.getfield 77, 3) := by decide +kernel
theorem d_Model_first_45 : decode prog_9_method_35_code 45 = .ok (.iload_n 1, 1) := by decide +kernel
theorem d_Model_first_46 : decode prog_9_method_35_code 46 = .ok (.iaload, 1) := by decide +kernel
theorem d_Model_first_47 : decode prog_9_method_35_code 47 = .ok (.if_icmp .gt 33, 3) := by decide +kernel
theorem d_Model_first_50 : decode prog_9_method_35_code 50 = .ok (.aload_n 0, 1) := by decide +kernel
theorem d_Model_first_51 : decode prog_9_method_35_code 51 = .ok (.getfield 77, 3) := by decide +kernel
theorem d_Model_first_54 : decode prog_9_method_35_code 54 = .ok (.iload_n 2, 1) := by decide +kernel
theorem d_Model_first_55 : decode prog_9_method_35_code 55 = .ok (.iaload, 1) := by decide +kernel
theorem d_Model_first_56 : decode prog_9_method_35_code 56 = .ok (.aload_n 0, 1) := by decide +kernel
theorem d_Model_first_57 : decode prog_9_method_35_code 57 = .ok (.getfield 77, 3) := by decide +kernel
theorem d_Model_first_60 : decode prog_9_method_35_code 60 = .ok (.iload_n 1, 1) := by decide +kernel
theorem d_Model_first_61 : decode prog_9_method_35_code 61 = .ok (.iaload, 1) := by decide +kernel
theorem d_Model_first_62 : decode prog_9_method_35_code 62 = .ok (.if_icmp .ne 20, 3) := by decide +kernel
theorem d_Model_first_65 : decode prog_9_method_35_code 65 = .ok (.aload_n 0, 1) := by decide +kernel
theorem d_Model_first_66 : decode prog_9_method_35_code 66 = .ok (.getfield 74, 3) := by decide +kernel
theorem d_Model_first_69 : decode prog_9_method_35_code 69 = .ok (.iload_n 2, 1) := by decide +kernel
theorem d_Model_first_70 : decode prog_9_method_35_code 70 = .ok (.iaload, 1) := by decide +kernel
theorem d_Model_first_71 : decode prog_9_method_35_code 71 = .ok (.aload_n 0, 1) := by decide +kernel
theorem d_Model_first_72 : decode prog_9_method_35_code 72 = .ok (.getfield 74, 3) := by decide +kernel
theorem d_Model_first_75 : decode prog_9_method_35_code 75 = .ok (.iload_n 1, 1) := by decide +kernel
theorem d_Model_first_76 : decode prog_9_method_35_code 76 = .ok (.iaload, 1) := by decide +kernel
theorem d_Model_first_77 : decode prog_9_method_35_code 77 = .ok (.if_icmp .ge 5, 3) := by decide +kernel
theorem d_Model_first_80 : decode prog_9_method_35_code 80 = .ok (.iload_n 2, 1) := by decide +kernel
theorem d_Model_first_81 : decode prog_9_method_35_code 81 = .ok (.istore_n 1, 1) := by decide +kernel
theorem d_Model_first_82 : decode prog_9_method_35_code 82 = .ok (.iinc 2 1, 3) := by decide +kernel
theorem d_Model_first_85 : decode prog_9_method_35_code 85 = .ok (.goto (-76), 3) := by decide +kernel
theorem d_Model_first_88 : decode prog_9_method_35_code 88 = .ok (.iload_n 1, 1) := by decide +kernel
theorem d_Model_first_89 : decode prog_9_method_35_code 89 = .ok (.ireturn, 1) := by decide +kernel
theorem d_Model_known_0 : decode prog_9_method_36_code 0 = .ok (.aload_n 0, 1) := by decide +kernel
theorem d_Model_known_1 : decode prog_9_method_36_code 1 = .ok (.aload_n 0, 1) := by decide +kernel
theorem d_Model_known_2 : decode prog_9_method_36_code 2 = .ok (.iload_n 1, 1) := by decide +kernel
theorem d_Model_known_3 : decode prog_9_method_36_code 3 = .ok (.invokevirtual 151, 3) := by decide +kernel
theorem d_Model_known_6 : decode prog_9_method_36_code 6 = .ok (.ifCond .ne 7, 3) := by decide +kernel
theorem d_Model_known_9 : decode prog_9_method_36_code 9 = .ok (.iconst 1, 1) := by decide +kernel
theorem d_Model_known_10 : decode prog_9_method_36_code 10 = .ok (.goto 18, 3) := by decide +kernel
theorem d_Model_known_13 : decode prog_9_method_36_code 13 = .ok (.iload_n 2, 1) := by decide +kernel
theorem d_Model_known_14 : decode prog_9_method_36_code 14 = .ok (.iconst 0, 1) := by decide +kernel
theorem d_Model_known_15 : decode prog_9_method_36_code 15 = .ok (.bipush 8, 2) := by decide +kernel
theorem d_Model_known_17 : decode prog_9_method_36_code 17 = .ok (.invokestatic 111, 3) := by decide +kernel
theorem d_Model_known_20 : decode prog_9_method_36_code 20 = .ok (.ifCond .ne 7, 3) := by decide +kernel
theorem d_Model_known_23 : decode prog_9_method_36_code 23 = .ok (.iconst 2, 1) := by decide +kernel
theorem d_Model_known_24 : decode prog_9_method_36_code 24 = .ok (.goto 4, 3) := by decide +kernel
theorem d_Model_known_27 : decode prog_9_method_36_code 27 = .ok (.iconst 0, 1) := by decide +kernel
theorem d_Model_known_28 : decode prog_9_method_36_code 28 = .ok (.putfield 104, 3) := by decide +kernel
theorem d_Model_known_31 : decode prog_9_method_36_code 31 = .ok (.aload_n 0, 1) := by decide +kernel
theorem d_Model_known_32 : decode prog_9_method_36_code 32 = .ok (.getfield 104, 3) := by decide +kernel
theorem d_Model_known_35 : decode prog_9_method_36_code 35 = .ok (.ifCond .le 5, 3) := by decide +kernel
theorem d_Model_known_38 : decode prog_9_method_36_code 38 = .ok (.iconst 0, 1) := by decide +kernel
theorem d_Model_known_39 : decode prog_9_method_36_code 39 = .ok (.ireturn, 1) := by decide +kernel
theorem d_Model_known_40 : decode prog_9_method_36_code 40 = .ok (.iload_n 2, 1) := by decide +kernel
theorem d_Model_known_41 : decode prog_9_method_36_code 41 = .ok (.ifCond .ne 10, 3) := by decide +kernel
theorem d_Model_known_44 : decode prog_9_method_36_code 44 = .ok (.aload_n 0, 1) := by decide +kernel
theorem d_Model_known_45 : decode prog_9_method_36_code 45 = .ok (.getfield 38, 3) := by decide +kernel
theorem d_Model_known_48 : decode prog_9_method_36_code 48 = .ok (.iload_n 1, 1) := by decide +kernel
theorem d_Model_known_49 : decode prog_9_method_36_code 49 = .ok (.iaload, 1) := by decide +kernel
theorem d_Model_known_50 : decode prog_9_method_36_code 50 = .ok (.ireturn, 1) := by decide +kernel
theorem d_Model_known_51 : decode prog_9_method_36_code 51 = .ok (.iload_n 2, 1) := by decide +kernel
theorem d_Model_known_52 : decode prog_9_method_36_code 52 = .ok (.iconst 1, 1) := by decide +kernel
theorem d_Model_known_53 : decode prog_9_method_36_code 53 = .ok (.if_icmp .ne 10, 3) := by decide +kernel
theorem d_Model_known_56 : decode prog_9_method_36_code 56 = .ok (.aload_n 0, 1) := by decide +kernel
theorem d_Model_known_57 : decode prog_9_method_36_code 57 = .ok (.getfield 41, 3) := by decide +kernel
theorem d_Model_known_60 : decode prog_9_method_36_code 60 = .ok (.iload_n 1, 1) := by decide +kernel
theorem d_Model_known_61 : decode prog_9_method_36_code 61 = .ok (.iaload, 1) := by decide +kernel
theorem d_Model_known_62 : decode prog_9_method_36_code 62 = .ok (.ireturn, 1) := by decide +kernel
theorem d_Model_known_63 : decode prog_9_method_36_code 63 = .ok (.iload_n 2, 1) := by decide +kernel
theorem d_Model_known_64 : decode prog_9_method_36_code 64 = .ok (.iconst 2, 1) := by decide +kernel
theorem d_Model_known_65 : decode prog_9_method_36_code 65 = .ok (.if_icmp .ne 10, 3) := by decide +kernel
theorem d_Model_known_68 : decode prog_9_method_36_code 68 = .ok (.aload_n 0, 1) := by decide +kernel
theorem d_Model_known_69 : decode prog_9_method_36_code 69 = .ok (.getfield 44, 3) := by decide +kernel
theorem d_Model_known_72 : decode prog_9_method_36_code 72 = .ok (.iload_n 1, 1) := by decide +kernel
theorem d_Model_known_73 : decode prog_9_method_36_code 73 = .ok (.iaload, 1) := by decide +kernel
theorem d_Model_known_74 : decode prog_9_method_36_code 74 = .ok (.ireturn, 1) := by decide +kernel
theorem d_Model_known_75 : decode prog_9_method_36_code 75 = .ok (.iload_n 2, 1) := by decide +kernel
theorem d_Model_known_76 : decode prog_9_method_36_code 76 = .ok (.iconst 3, 1) := by decide +kernel
theorem d_Model_known_77 : decode prog_9_method_36_code 77 = .ok (.if_icmp .ne 10, 3) := by decide +kernel
theorem d_Model_known_80 : decode prog_9_method_36_code 80 = .ok (.aload_n 0, 1) := by decide +kernel
theorem d_Model_known_81 : decode prog_9_method_36_code 81 = .ok (.getfield 47, 3) := by decide +kernel
theorem d_Model_known_84 : decode prog_9_method_36_code 84 = .ok (.iload_n 1, 1) := by decide +kernel
theorem d_Model_known_85 : decode prog_9_method_36_code 85 = .ok (.iaload, 1) := by decide +kernel
theorem d_Model_known_86 : decode prog_9_method_36_code 86 = .ok (.ireturn, 1) := by decide +kernel
theorem d_Model_known_87 : decode prog_9_method_36_code 87 = .ok (.iload_n 2, 1) := by decide +kernel
theorem d_Model_known_88 : decode prog_9_method_36_code 88 = .ok (.iconst 4, 1) := by decide +kernel
theorem d_Model_known_89 : decode prog_9_method_36_code 89 = .ok (.if_icmp .ne 10, 3) := by decide +kernel
theorem d_Model_known_92 : decode prog_9_method_36_code 92 = .ok (.aload_n 0, 1) := by decide +kernel
theorem d_Model_known_93 : decode prog_9_method_36_code 93 = .ok (.getfield 50, 3) := by decide +kernel
theorem d_Model_known_96 : decode prog_9_method_36_code 96 = .ok (.iload_n 1, 1) := by decide +kernel
theorem d_Model_known_97 : decode prog_9_method_36_code 97 = .ok (.iaload, 1) := by decide +kernel
theorem d_Model_known_98 : decode prog_9_method_36_code 98 = .ok (.ireturn, 1) := by decide +kernel
theorem d_Model_known_99 : decode prog_9_method_36_code 99 = .ok (.iload_n 2, 1) := by decide +kernel
theorem d_Model_known_100 : decode prog_9_method_36_code 100 = .ok (.iconst 5, 1) := by decide +kernel
theorem d_Model_known_101 : decode prog_9_method_36_code 101 = .ok (.if_icmp .ne 10, 3) := by decide +kernel
theorem d_Model_known_104 : decode prog_9_method_36_code 104 = .ok (.aload_n 0, 1) := by decide +kernel
theorem d_Model_known_105 : decode prog_9_method_36_code 105 = .ok (.getfield 53, 3) := by decide +kernel
theorem d_Model_known_108 : decode prog_9_method_36_code 108 = .ok (.iload_n 1, 1) := by decide +kernel
theorem d_Model_known_109 : decode prog_9_method_36_code 109 = .ok (.iaload, 1) := by decide +kernel
theorem d_Model_known_110 : decode prog_9_method_36_code 110 = .ok (.ireturn, 1) := by decide +kernel
theorem d_Model_known_111 : decode prog_9_method_36_code 111 = .ok (.iload_n 2, 1) := by decide +kernel
theorem d_Model_known_112 : decode prog_9_method_36_code 112 = .ok (.bipush 6, 2) := by decide +kernel
theorem d_Model_known_114 : decode prog_9_method_36_code 114 = .ok (.if_icmp .ne 20, 3) := by decide +kernel
theorem d_Model_known_117 : decode prog_9_method_36_code 117 = .ok (.aload_n 0, 1) := by decide +kernel
theorem d_Model_known_118 : decode prog_9_method_36_code 118 = .ok (.getfield 59, 3) := by decide +kernel
theorem d_Model_known_121 : decode prog_9_method_36_code 121 = .ok (.iload_n 1, 1) := by decide +kernel
theorem d_Model_known_122 : decode prog_9_method_36_code 122 = .ok (.baload, 1) := by decide +kernel
theorem d_Model_known_123 : decode prog_9_method_36_code 123 = .ok (.ifCond .eq 7, 3) := by decide +kernel
theorem d_Model_known_126 : decode prog_9_method_36_code 126 = .ok (.iconst 1, 1) := by decide +kernel
theorem d_Model_known_127 : decode prog_9_method_36_code 127 = .ok (.goto 28, 3) := by decide +kernel
theorem d_Model_known_130 : decode prog_9_method_36_code 130 = .ok (.iconst 0, 1) := by decide +kernel
theorem d_Model_known_131 : decode prog_9_method_36_code 131 = .ok (.goto 24, 3) := by decide +kernel
theorem d_Model_known_134 : decode prog_9_method_36_code 134 = .ok (.iload_n 2, 1) := by decide +kernel
theorem d_Model_known_135 : decode prog_9_method_36_code 135 = .ok (.bipush 7, 2) := by decide +kernel
theorem d_Model_known_137 : decode prog_9_method_36_code 137 = .ok (.if_icmp .ne 12, 3) := by decide +kernel
theorem d_Model_known_140 : decode prog_9_method_36_code 140 = .ok (.aload_n 0, 1) := by decide +kernel
theorem d_Model_known_141 : decode prog_9_method_36_code 141 = .ok (.getfield 62, 3) := by decide +kernel
theorem d_Model_known_144 : decode prog_9_method_36_code 144 = .ok (.iload_n 1, 1) := by decide +kernel
theorem d_Model_known_145 : decode prog_9_method_36_code 145 = .ok (.iaload, 1) := by decide +kernel
theorem d_Model_known_146 : decode prog_9_method_36_code 146 = .ok (.goto 9, 3) := by decide +kernel
theorem d_Model_known_149 : decode prog_9_method_36_code 149 = .ok (.aload_n 0, 1) := by decide +kernel
theorem d_Model_known_150 : decode prog_9_method_36_code 150 = .ok (.getfield 65, 3) := by decide +kernel
theorem d_Model_known_153 : decode prog_9_method_36_code 153 = .ok (.iload_n 1, 1) := by decide +kernel
theorem d_Model_known_154 : decode prog_9_method_36_code 154 = .ok (.iaload, 1) := by decide +kernel
theorem d_Model_known_155 : decode prog_9_method_36_code 155 = .ok (.ireturn, 1) := by decide +kernel
theorem d_Model_told_0 : decode prog_9_method_37_code 0 = .ok (.aload_n 0, 1) := by decide +kernel
theorem d_Model_told_1 : decode prog_9_method_37_code 1 = .ok (.aload_n 0, 1) := by decide +kernel
theorem d_Model_told_2 : decode prog_9_method_37_code 2 = .ok (.iload_n 1, 1) := by decide +kernel
theorem d_Model_told_3 : decode prog_9_method_37_code 3 = .ok (.invokevirtual 131, 3) := by decide +kernel
theorem d_Model_told_6 : decode prog_9_method_37_code 6 = .ok (.ifCond .ne 7, 3) := by decide +kernel
theorem d_Model_told_9 : decode prog_9_method_37_code 9 = .ok (.iconst 1, 1) := by decide +kernel
theorem d_Model_told_10 : decode prog_9_method_37_code 10 = .ok (.goto 17, 3) := by decide +kernel
theorem d_Model_told_13 : decode prog_9_method_37_code 13 = .ok (.iload_n 2, 1) := by decide +kernel
theorem d_Model_told_14 : decode prog_9_method_37_code 14 = .ok (.iconst 0, 1) := by decide +kernel
theorem d_Model_told_15 : decode prog_9_method_37_code 15 = .ok (.iconst 4, 1) := by decide +kernel
theorem d_Model_told_16 : decode prog_9_method_37_code 16 = .ok (.invokestatic 111, 3) := by decide +kernel
theorem d_Model_told_19 : decode prog_9_method_37_code 19 = .ok (.ifCond .ne 7, 3) := by decide +kernel
theorem d_Model_told_22 : decode prog_9_method_37_code 22 = .ok (.iconst 2, 1) := by decide +kernel
theorem d_Model_told_23 : decode prog_9_method_37_code 23 = .ok (.goto 4, 3) := by decide +kernel
theorem d_Model_told_26 : decode prog_9_method_37_code 26 = .ok (.iconst 0, 1) := by decide +kernel
theorem d_Model_told_27 : decode prog_9_method_37_code 27 = .ok (.putfield 104, 3) := by decide +kernel
theorem d_Model_told_30 : decode prog_9_method_37_code 30 = .ok (.aload_n 0, 1) := by decide +kernel
theorem d_Model_told_31 : decode prog_9_method_37_code 31 = .ok (.getfield 104, 3) := by decide +kernel
theorem d_Model_told_34 : decode prog_9_method_37_code 34 = .ok (.ifCond .le 5, 3) := by decide +kernel
theorem d_Model_told_37 : decode prog_9_method_37_code 37 = .ok (.iconst 0, 1) := by decide +kernel
theorem d_Model_told_38 : decode prog_9_method_37_code 38 = .ok (.ireturn, 1) := by decide +kernel
theorem d_Model_told_39 : decode prog_9_method_37_code 39 = .ok (.iload_n 2, 1) := by decide +kernel
theorem d_Model_told_40 : decode prog_9_method_37_code 40 = .ok (.ifCond .ne 10, 3) := by decide +kernel
theorem d_Model_told_43 : decode prog_9_method_37_code 43 = .ok (.aload_n 0, 1) := by decide +kernel
theorem d_Model_told_44 : decode prog_9_method_37_code 44 = .ok (.getfield 20, 3) := by decide +kernel
theorem d_Model_told_47 : decode prog_9_method_37_code 47 = .ok (.iload_n 1, 1) := by decide +kernel
theorem d_Model_told_48 : decode prog_9_method_37_code 48 = .ok (.iaload, 1) := by decide +kernel
theorem d_Model_told_49 : decode prog_9_method_37_code 49 = .ok (.ireturn, 1) := by decide +kernel
theorem d_Model_told_50 : decode prog_9_method_37_code 50 = .ok (.iload_n 2, 1) := by decide +kernel
theorem d_Model_told_51 : decode prog_9_method_37_code 51 = .ok (.iconst 1, 1) := by decide +kernel
theorem d_Model_told_52 : decode prog_9_method_37_code 52 = .ok (.if_icmp .ne 10, 3) := by decide +kernel
theorem d_Model_told_55 : decode prog_9_method_37_code 55 = .ok (.aload_n 0, 1) := by decide +kernel
theorem d_Model_told_56 : decode prog_9_method_37_code 56 = .ok (.getfield 13, 3) := by decide +kernel
theorem d_Model_told_59 : decode prog_9_method_37_code 59 = .ok (.iload_n 1, 1) := by decide +kernel
theorem d_Model_told_60 : decode prog_9_method_37_code 60 = .ok (.iaload, 1) := by decide +kernel
theorem d_Model_told_61 : decode prog_9_method_37_code 61 = .ok (.ireturn, 1) := by decide +kernel
theorem d_Model_told_62 : decode prog_9_method_37_code 62 = .ok (.iload_n 2, 1) := by decide +kernel
theorem d_Model_told_63 : decode prog_9_method_37_code 63 = .ok (.iconst 2, 1) := by decide +kernel
theorem d_Model_told_64 : decode prog_9_method_37_code 64 = .ok (.if_icmp .ne 10, 3) := by decide +kernel
theorem d_Model_told_67 : decode prog_9_method_37_code 67 = .ok (.aload_n 0, 1) := by decide +kernel
theorem d_Model_told_68 : decode prog_9_method_37_code 68 = .ok (.getfield 17, 3) := by decide +kernel
theorem d_Model_told_71 : decode prog_9_method_37_code 71 = .ok (.iload_n 1, 1) := by decide +kernel
theorem d_Model_told_72 : decode prog_9_method_37_code 72 = .ok (.iaload, 1) := by decide +kernel
theorem d_Model_told_73 : decode prog_9_method_37_code 73 = .ok (.ireturn, 1) := by decide +kernel
theorem d_Model_told_74 : decode prog_9_method_37_code 74 = .ok (.iload_n 2, 1) := by decide +kernel
theorem d_Model_told_75 : decode prog_9_method_37_code 75 = .ok (.iconst 3, 1) := by decide +kernel
theorem d_Model_told_76 : decode prog_9_method_37_code 76 = .ok (.if_icmp .ne 11, 3) := by decide +kernel
theorem d_Model_told_79 : decode prog_9_method_37_code 79 = .ok (.aload_n 0, 1) := by decide +kernel
theorem d_Model_told_80 : decode prog_9_method_37_code 80 = .ok (.iload_n 1, 1) := by decide +kernel
theorem d_Model_told_81 : decode prog_9_method_37_code 81 = .ok (.invokevirtual 158, 3) := by decide +kernel
theorem d_Model_told_84 : decode prog_9_method_37_code 84 = .ok (.goto 17, 3) := by decide +kernel
theorem d_Model_told_87 : decode prog_9_method_37_code 87 = .ok (.aload_n 0, 1) := by decide +kernel
theorem d_Model_told_88 : decode prog_9_method_37_code 88 = .ok (.getfield 23, 3) := by decide +kernel
theorem d_Model_told_91 : decode prog_9_method_37_code 91 = .ok (.iload_n 1, 1) := by decide +kernel
theorem d_Model_told_92 : decode prog_9_method_37_code 92 = .ok (.baload, 1) := by decide +kernel
theorem d_Model_told_93 : decode prog_9_method_37_code 93 = .ok (.ifCond .eq 7, 3) := by decide +kernel
theorem d_Model_told_96 : decode prog_9_method_37_code 96 = .ok (.iconst 1, 1) := by decide +kernel
theorem d_Model_told_97 : decode prog_9_method_37_code 97 = .ok (.goto 4, 3) := by decide +kernel
theorem d_Model_told_100 : decode prog_9_method_37_code 100 = .ok (.iconst 0, 1) := by decide +kernel
theorem d_Model_told_101 : decode prog_9_method_37_code 101 = .ok (.ireturn, 1) := by decide +kernel
theorem d_Model_count_0 : decode prog_9_method_38_code 0 = .ok (.aload_n 0, 1) := by decide +kernel
theorem d_Model_count_1 : decode prog_9_method_38_code 1 = .ok (.iconst 0, 1) := by decide +kernel
theorem d_Model_count_2 : decode prog_9_method_38_code 2 = .ok (.putfield 104, 3) := by decide +kernel
theorem d_Model_count_5 : decode prog_9_method_38_code 5 = .ok (.iload_n 1, 1) := by decide +kernel
theorem d_Model_count_6 : decode prog_9_method_38_code 6 = .ok (.ifCond .ne 8, 3) := by decide +kernel
theorem d_Model_count_9 : decode prog_9_method_38_code 9 = .ok (.aload_n 0, 1) := by decide +kernel
theorem d_Model_count_10 : decode prog_9_method_38_code 10 = .ok (.getfield 108, 3) := by decide +kernel
theorem d_Model_count_13 : decode prog_9_method_38_code 13 = .ok (.ireturn, 1) := by decide +kernel
theorem d_Model_count_14 : decode prog_9_method_38_code 14 = .ok (.iload_n 1, 1) := by decide +kernel
theorem d_Model_count_15 : decode prog_9_method_38_code 15 = .ok (.iconst 1, 1) := by decide +kernel
theorem d_Model_count_16 : decode prog_9_method_38_code 16 = .ok (.if_icmp .ne 8, 3) := by decide +kernel
theorem d_Model_count_19 : decode prog_9_method_38_code 19 = .ok (.aload_n 0, 1) := by decide +kernel
theorem d_Model_count_20 : decode prog_9_method_38_code 20 = .ok (.getfield 115, 3) := by decide +kernel
theorem d_Model_count_23 : decode prog_9_method_38_code 23 = .ok (.ireturn, 1) := by decide +kernel
theorem d_Model_count_24 : decode prog_9_method_38_code 24 = .ok (.iload_n 1, 1) := by decide +kernel
theorem d_Model_count_25 : decode prog_9_method_38_code 25 = .ok (.iconst 2, 1) := by decide +kernel
theorem d_Model_count_26 : decode prog_9_method_38_code 26 = .ok (.if_icmp .ne 8, 3) := by decide +kernel
theorem d_Model_count_29 : decode prog_9_method_38_code 29 = .ok (.aload_n 0, 1) := by decide +kernel
theorem d_Model_count_30 : decode prog_9_method_38_code 30 = .ok (.getfield 118, 3) := by decide +kernel
theorem d_Model_count_33 : decode prog_9_method_38_code 33 = .ok (.ireturn, 1) := by decide +kernel
theorem d_Model_count_34 : decode prog_9_method_38_code 34 = .ok (.iload_n 1, 1) := by decide +kernel
theorem d_Model_count_35 : decode prog_9_method_38_code 35 = .ok (.iconst 4, 1) := by decide +kernel
theorem d_Model_count_36 : decode prog_9_method_38_code 36 = .ok (.if_icmp .ne 8, 3) := by decide +kernel
theorem d_Model_count_39 : decode prog_9_method_38_code 39 = .ok (.aload_n 0, 1) := by decide +kernel
theorem d_Model_count_40 : decode prog_9_method_38_code 40 = .ok (.getfield 121, 3) := by decide +kernel
theorem d_Model_count_43 : decode prog_9_method_38_code 43 = .ok (.ireturn, 1) := by decide +kernel
theorem d_Model_count_44 : decode prog_9_method_38_code 44 = .ok (.iload_n 1, 1) := by decide +kernel
theorem d_Model_count_45 : decode prog_9_method_38_code 45 = .ok (.bipush 6, 2) := by decide +kernel
theorem d_Model_count_47 : decode prog_9_method_38_code 47 = .ok (.if_icmp .ne 8, 3) := by decide +kernel
theorem d_Model_count_50 : decode prog_9_method_38_code 50 = .ok (.aload_n 0, 1) := by decide +kernel
theorem d_Model_count_51 : decode prog_9_method_38_code 51 = .ok (.getfield 138, 3) := by decide +kernel
theorem d_Model_count_54 : decode prog_9_method_38_code 54 = .ok (.ireturn, 1) := by decide +kernel
theorem d_Model_count_55 : decode prog_9_method_38_code 55 = .ok (.iload_n 1, 1) := by decide +kernel
theorem d_Model_count_56 : decode prog_9_method_38_code 56 = .ok (.bipush 8, 2) := by decide +kernel
theorem d_Model_count_58 : decode prog_9_method_38_code 58 = .ok (.if_icmp .ne 8, 3) := by decide +kernel
end
section
/-! decode rows: printed by wip/gen/names.py -/
theorem d_Model_count_61 : decode prog_9_method_38_code 61 = .ok (.aload_n 0, 1) := by decide +kernel
theorem d_Model_count_62 : decode prog_9_method_38_code 62 = .ok (.getfield 169, 3) := by decide +kernel
theorem d_Model_count_65 : decode prog_9_method_38_code 65 = .ok (.ireturn, 1) := by decide +kernel
theorem d_Model_count_66 : decode prog_9_method_38_code 66 = .ok (.iconst 0, 1) := by decide +kernel
theorem d_Model_count_67 : decode prog_9_method_38_code 67 = .ok (.istore_n 2, 1) := by decide +kernel
theorem d_Model_count_68 : decode prog_9_method_38_code 68 = .ok (.iconst 1, 1) := by decide +kernel
theorem d_Model_count_69 : decode prog_9_method_38_code 69 = .ok (.istore_n 3, 1) := by decide +kernel
theorem d_Model_count_70 : decode prog_9_method_38_code 70 = .ok (.iload_n 3, 1) := by decide +kernel
theorem d_Model_count_71 : decode prog_9_method_38_code 71 = .ok (.aload_n 0, 1) := by decide +kernel
theorem d_Model_count_72 : decode prog_9_method_38_code 72 = .ok (.getfield 118, 3) := by decide +kernel
theorem d_Model_count_75 : decode prog_9_method_38_code 75 = .ok (.if_icmp .gt 75, 3) := by decide +kernel
theorem d_Model_count_78 : decode prog_9_method_38_code 78 = .ok (.iload_n 2, 1) := by decide +kernel
theorem d_Model_count_79 : decode prog_9_method_38_code 79 = .ok (.iload_n 1, 1) := by decide +kernel
theorem d_Model_count_80 : decode prog_9_method_38_code 80 = .ok (.iconst 3, 1) := by decide +kernel
theorem d_Model_count_81 : decode prog_9_method_38_code 81 = .ok (.if_icmp .ne 21, 3) := by decide +kernel
theorem d_Model_count_84 : decode prog_9_method_38_code 84 = .ok (.aload_n 0, 1) := by decide +kernel
theorem d_Model_count_85 : decode prog_9_method_38_code 85 = .ok (.getfield 47, 3) := by decide +kernel
theorem d_Model_count_88 : decode prog_9_method_38_code 88 = .ok (.iload_n 3, 1) := by decide +kernel
theorem d_Model_count_89 : decode prog_9_method_38_code 89 = .ok (.iaload, 1) := by decide +kernel
theorem d_Model_count_90 : decode prog_9_method_38_code 90 = .ok (.iconst (-1), 1) := by decide +kernel
theorem d_Model_count_91 : decode prog_9_method_38_code 91 = .ok (.if_icmp .ne 7, 3) := by decide +kernel
theorem d_Model_count_94 : decode prog_9_method_38_code 94 = .ok (.iconst 1, 1) := by decide +kernel
theorem d_Model_count_95 : decode prog_9_method_38_code 95 = .ok (.goto 47, 3) := by decide +kernel
theorem d_Model_count_98 : decode prog_9_method_38_code 98 = .ok (.iconst 0, 1) := by decide +kernel
theorem d_Model_count_99 : decode prog_9_method_38_code 99 = .ok (.goto 43, 3) := by decide +kernel
theorem d_Model_count_102 : decode prog_9_method_38_code 102 = .ok (.iload_n 1, 1) := by decide +kernel
theorem d_Model_count_103 : decode prog_9_method_38_code 103 = .ok (.bipush 7, 2) := by decide +kernel
theorem d_Model_count_105 : decode prog_9_method_38_code 105 = .ok (.if_icmp .ne 36, 3) := by decide +kernel
theorem d_Model_count_108 : decode prog_9_method_38_code 108 = .ok (.aload_n 0, 1) := by decide +kernel
theorem d_Model_count_109 : decode prog_9_method_38_code 109 = .ok (.getfield 47, 3) := by decide +kernel
theorem d_Model_count_112 : decode prog_9_method_38_code 112 = .ok (.iload_n 3, 1) := by decide +kernel
theorem d_Model_count_113 : decode prog_9_method_38_code 113 = .ok (.iaload, 1) := by decide +kernel
theorem d_Model_count_114 : decode prog_9_method_38_code 114 = .ok (.iconst (-1), 1) := by decide +kernel
theorem d_Model_count_115 : decode prog_9_method_38_code 115 = .ok (.if_icmp .ne 10, 3) := by decide +kernel
theorem d_Model_count_118 : decode prog_9_method_38_code 118 = .ok (.aload_n 0, 1) := by decide +kernel
theorem d_Model_count_119 : decode prog_9_method_38_code 119 = .ok (.getfield 138, 3) := by decide +kernel
theorem d_Model_count_122 : decode prog_9_method_38_code 122 = .ok (.goto 9, 3) := by decide +kernel
theorem d_Model_count_125 : decode prog_9_method_38_code 125 = .ok (.aload_n 0, 1) := by decide +kernel
theorem d_Model_count_126 : decode prog_9_method_38_code 126 = .ok (.getfield 47, 3) := by decide +kernel
theorem d_Model_count_129 : decode prog_9_method_38_code 129 = .ok (.iload_n 3, 1) := by decide +kernel
theorem d_Model_count_130 : decode prog_9_method_38_code 130 = .ok (.iaload, 1) := by decide +kernel
theorem d_Model_count_131 : decode prog_9_method_38_code 131 = .ok (.aload_n 0, 1) := by decide +kernel
theorem d_Model_count_132 : decode prog_9_method_38_code 132 = .ok (.getfield 44, 3) := by decide +kernel
theorem d_Model_count_135 : decode prog_9_method_38_code 135 = .ok (.iload_n 3, 1) := by decide +kernel
theorem d_Model_count_136 : decode prog_9_method_38_code 136 = .ok (.iaload, 1) := by decide +kernel
theorem d_Model_count_137 : decode prog_9_method_38_code 137 = .ok (.isub, 1) := by decide +kernel
theorem d_Model_count_138 : decode prog_9_method_38_code 138 = .ok (.goto 4, 3) := by decide +kernel
theorem d_Model_count_141 : decode prog_9_method_38_code 141 = .ok (.iconst 0, 1) := by decide +kernel
theorem d_Model_count_142 : decode prog_9_method_38_code 142 = .ok (.iadd, 1) := by decide +kernel
theorem d_Model_count_143 : decode prog_9_method_38_code 143 = .ok (.istore_n 2, 1) := by decide +kernel
theorem d_Model_count_144 : decode prog_9_method_38_code 144 = .ok (.iinc 3 1, 3) := by decide +kernel
theorem d_Model_count_147 : decode prog_9_method_38_code 147 = .ok (.goto (-77), 3) := by decide +kernel
theorem d_Model_count_150 : decode prog_9_method_38_code 150 = .ok (.iconst 0, 1) := by decide +kernel
theorem d_Model_count_151 : decode prog_9_method_38_code 151 = .ok (.istore_n 3, 1) := by decide +kernel
theorem d_Model_count_152 : decode prog_9_method_38_code 152 = .ok (.iload_n 3, 1) := by decide +kernel
theorem d_Model_count_153 : decode prog_9_method_38_code 153 = .ok (.aload_n 0, 1) := by decide +kernel
theorem d_Model_count_154 : decode prog_9_method_38_code 154 = .ok (.getfield 121, 3) := by decide +kernel
theorem d_Model_count_157 : decode prog_9_method_38_code 157 = .ok (.if_icmp .ge 32, 3) := by decide +kernel
theorem d_Model_count_160 : decode prog_9_method_38_code 160 = .ok (.iload_n 2, 1) := by decide +kernel
theorem d_Model_count_161 : decode prog_9_method_38_code 161 = .ok (.iload_n 1, 1) := by decide +kernel
theorem d_Model_count_162 : decode prog_9_method_38_code 162 = .ok (.iconst 5, 1) := by decide +kernel
theorem d_Model_count_163 : decode prog_9_method_38_code 163 = .ok (.if_icmp .ne 17, 3) := by decide +kernel
theorem d_Model_count_166 : decode prog_9_method_38_code 166 = .ok (.aload_n 0, 1) := by decide +kernel
theorem d_Model_count_167 : decode prog_9_method_38_code 167 = .ok (.getfield 83, 3) := by decide +kernel
theorem d_Model_count_170 : decode prog_9_method_38_code 170 = .ok (.iload_n 3, 1) := by decide +kernel
theorem d_Model_count_171 : decode prog_9_method_38_code 171 = .ok (.iaload, 1) := by decide +kernel
theorem d_Model_count_172 : decode prog_9_method_38_code 172 = .ok (.iconst (-1), 1) := by decide +kernel
theorem d_Model_count_173 : decode prog_9_method_38_code 173 = .ok (.if_icmp .ne 7, 3) := by decide +kernel
theorem d_Model_count_176 : decode prog_9_method_38_code 176 = .ok (.iconst 1, 1) := by decide +kernel
theorem d_Model_count_177 : decode prog_9_method_38_code 177 = .ok (.goto 4, 3) := by decide +kernel
theorem d_Model_count_180 : decode prog_9_method_38_code 180 = .ok (.iconst 0, 1) := by decide +kernel
theorem d_Model_count_181 : decode prog_9_method_38_code 181 = .ok (.iadd, 1) := by decide +kernel
theorem d_Model_count_182 : decode prog_9_method_38_code 182 = .ok (.istore_n 2, 1) := by decide +kernel
theorem d_Model_count_183 : decode prog_9_method_38_code 183 = .ok (.iinc 3 1, 3) := by decide +kernel
theorem d_Model_count_186 : decode prog_9_method_38_code 186 = .ok (.goto (-34), 3) := by decide +kernel
theorem d_Model_count_189 : decode prog_9_method_38_code 189 = .ok (.iload_n 1, 1) := by decide +kernel
theorem d_Model_count_190 : decode prog_9_method_38_code 190 = .ok (.iconst 3, 1) := by decide +kernel
theorem d_Model_count_191 : decode prog_9_method_38_code 191 = .ok (.if_icmp .eq 14, 3) := by decide +kernel
theorem d_Model_count_194 : decode prog_9_method_38_code 194 = .ok (.iload_n 1, 1) := by decide +kernel
theorem d_Model_count_195 : decode prog_9_method_38_code 195 = .ok (.iconst 5, 1) := by decide +kernel
theorem d_Model_count_196 : decode prog_9_method_38_code 196 = .ok (.if_icmp .eq 9, 3) := by decide +kernel
theorem d_Model_count_199 : decode prog_9_method_38_code 199 = .ok (.iload_n 1, 1) := by decide +kernel
theorem d_Model_count_200 : decode prog_9_method_38_code 200 = .ok (.bipush 7, 2) := by decide +kernel
theorem d_Model_count_202 : decode prog_9_method_38_code 202 = .ok (.if_icmp .ne 7, 3) := by decide +kernel
theorem d_Model_count_205 : decode prog_9_method_38_code 205 = .ok (.iload_n 2, 1) := by decide +kernel
theorem d_Model_count_206 : decode prog_9_method_38_code 206 = .ok (.goto 4, 3) := by decide +kernel
theorem d_Model_count_209 : decode prog_9_method_38_code 209 = .ok (.iconst (-1), 1) := by decide +kernel
theorem d_Model_count_210 : decode prog_9_method_38_code 210 = .ok (.ireturn, 1) := by decide +kernel
theorem d_Law_law_0 : decode code 0 = .ok (.new 8, 3) := by decide +kernel
theorem d_Law_law_3 : decode code 3 = .ok (.dup, 1) := by decide +kernel
theorem d_Law_law_4 : decode code 4 = .ok (.invokespecial 81, 3) := by decide +kernel
theorem d_Law_law_7 : decode code 7 = .ok (.astore_n 1, 1) := by decide +kernel
theorem d_Law_law_8 : decode code 8 = .ok (.new 82, 3) := by decide +kernel
theorem d_Law_law_11 : decode code 11 = .ok (.dup, 1) := by decide +kernel
theorem d_Law_law_12 : decode code 12 = .ok (.invokespecial 84, 3) := by decide +kernel
theorem d_Law_law_15 : decode code 15 = .ok (.astore_n 2, 1) := by decide +kernel
theorem d_Law_law_16 : decode code 16 = .ok (.iconst 1, 1) := by decide +kernel
theorem d_Law_law_17 : decode code 17 = .ok (.newarray .long, 2) := by decide +kernel
theorem d_Law_law_19 : decode code 19 = .ok (.astore_n 3, 1) := by decide +kernel
theorem d_Law_law_20 : decode code 20 = .ok (.iconst 0, 1) := by decide +kernel
theorem d_Law_law_21 : decode code 21 = .ok (.istore 4, 2) := by decide +kernel
theorem d_Law_law_23 : decode code 23 = .ok (.iload 4, 2) := by decide +kernel
theorem d_Law_law_25 : decode code 25 = .ok (.aload_n 0, 1) := by decide +kernel
theorem d_Law_law_26 : decode code 26 = .ok (.arraylength, 1) := by decide +kernel
theorem d_Law_law_27 : decode code 27 = .ok (.iconst 5, 1) := by decide +kernel
theorem d_Law_law_28 : decode code 28 = .ok (.isub, 1) := by decide +kernel
theorem d_Law_law_29 : decode code 29 = .ok (.if_icmp .gt 1338, 3) := by decide +kernel
theorem d_Law_law_32 : decode code 32 = .ok (.aload_n 0, 1) := by decide +kernel
theorem d_Law_law_33 : decode code 33 = .ok (.iload 4, 2) := by decide +kernel
theorem d_Law_law_35 : decode code 35 = .ok (.iaload, 1) := by decide +kernel
theorem d_Law_law_36 : decode code 36 = .ok (.bipush 31, 2) := by decide +kernel
theorem d_Law_law_38 : decode code 38 = .ok (.iand, 1) := by decide +kernel
theorem d_Law_law_39 : decode code 39 = .ok (.tableswitch 1322 0 20 #[97, 141, 189, 245, 333, 381, 429, 497, 565, 656, 712, 780, 848, 896, 956, 1012, 1080, 1148, 1216, 1284, 1297], 97) := by decide +kernel
theorem d_Law_law_136 : decode code 136 = .ok (.aload_n 1, 1) := by decide +kernel
theorem d_Law_law_137 : decode code 137 = .ok (.aload_n 3, 1) := by decide +kernel
theorem d_Law_law_138 : decode code 138 = .ok (.invokestatic 85, 3) := by decide +kernel
theorem d_Law_law_141 : decode code 141 = .ok (.istore 5, 2) := by decide +kernel
theorem d_Law_law_143 : decode code 143 = .ok (.aload_n 2, 1) := by decide +kernel
theorem d_Law_law_144 : decode code 144 = .ok (.invokevirtual 90, 3) := by decide +kernel
theorem d_Law_law_147 : decode code 147 = .ok (.istore 6, 2) := by decide +kernel
theorem d_Law_law_149 : decode code 149 = .ok (.aload_n 2, 1) := by decide +kernel
theorem d_Law_law_150 : decode code 150 = .ok (.invokevirtual 91, 3) := by decide +kernel
theorem d_Law_law_153 : decode code 153 = .ok (.iload 5, 2) := by decide +kernel
theorem d_Law_law_155 : decode code 155 = .ok (.if_icmp .eq 5, 3) := by decide +kernel
theorem d_Law_law_158 : decode code 158 = .ok (.iconst 0, 1) := by decide +kernel
theorem d_Law_law_159 : decode code 159 = .ok (.ireturn, 1) := by decide +kernel
theorem d_Law_law_160 : decode code 160 = .ok (.iload 5, 2) := by decide +kernel
theorem d_Law_law_162 : decode code 162 = .ok (.ifCond .ne 15, 3) := by decide +kernel
theorem d_Law_law_165 : decode code 165 = .ok (.aload_n 3, 1) := by decide +kernel
theorem d_Law_law_166 : decode code 166 = .ok (.iconst 0, 1) := by decide +kernel
theorem d_Law_law_167 : decode code 167 = .ok (.laload, 1) := by decide +kernel
theorem d_Law_law_168 : decode code 168 = .ok (.iload 6, 2) := by decide +kernel
theorem d_Law_law_170 : decode code 170 = .ok (.i2l, 1) := by decide +kernel
theorem d_Law_law_171 : decode code 171 = .ok (.lcmp, 1) := by decide +kernel
theorem d_Law_law_172 : decode code 172 = .ok (.ifCond .eq 5, 3) := by decide +kernel
theorem d_Law_law_175 : decode code 175 = .ok (.iconst 0, 1) := by decide +kernel
theorem d_Law_law_176 : decode code 176 = .ok (.ireturn, 1) := by decide +kernel
theorem d_Law_law_177 : decode code 177 = .ok (.goto 1184, 3) := by decide +kernel
theorem d_Law_law_180 : decode code 180 = .ok (.aload_n 1, 1) := by decide +kernel
theorem d_Law_law_181 : decode code 181 = .ok (.aload_n 0, 1) := by decide +kernel
theorem d_Law_law_182 : decode code 182 = .ok (.iload 4, 2) := by decide +kernel
theorem d_Law_law_184 : decode code 184 = .ok (.iconst 1, 1) := by decide +kernel
theorem d_Law_law_185 : decode code 185 = .ok (.iadd, 1) := by decide +kernel
theorem d_Law_law_186 : decode code 186 = .ok (.iaload, 1) := by decide +kernel
theorem d_Law_law_187 : decode code 187 = .ok (.aload_n 0, 1) := by decide +kernel
theorem d_Law_law_188 : decode code 188 = .ok (.iload 4, 2) := by decide +kernel
theorem d_Law_law_190 : decode code 190 = .ok (.iconst 2, 1) := by decide +kernel
theorem d_Law_law_191 : decode code 191 = .ok (.iadd, 1) := by decide +kernel
theorem d_Law_law_192 : decode code 192 = .ok (.iaload, 1) := by decide +kernel
theorem d_Law_law_193 : decode code 193 = .ok (.invokestatic 94, 3) := by decide +kernel
theorem d_Law_law_196 : decode code 196 = .ok (.istore 5, 2) := by decide +kernel
theorem d_Law_law_198 : decode code 198 = .ok (.aload_n 2, 1) := by decide +kernel
theorem d_Law_law_199 : decode code 199 = .ok (.aload_n 0, 1) := by decide +kernel
theorem d_Law_law_200 : decode code 200 = .ok (.iload 4, 2) := by decide +kernel
theorem d_Law_law_202 : decode code 202 = .ok (.iconst 1, 1) := by decide +kernel
theorem d_Law_law_203 : decode code 203 = .ok (.iadd, 1) := by decide +kernel
theorem d_Law_law_204 : decode code 204 = .ok (.iaload, 1) := by decide +kernel
theorem d_Law_law_205 : decode code 205 = .ok (.aload_n 0, 1) := by decide +kernel
theorem d_Law_law_206 : decode code 206 = .ok (.iload 4, 2) := by decide +kernel
theorem d_Law_law_208 : decode code 208 = .ok (.iconst 2, 1) := by decide +kernel
theorem d_Law_law_209 : decode code 209 = .ok (.iadd, 1) := by decide +kernel
theorem d_Law_law_210 : decode code 210 = .ok (.iaload, 1) := by decide +kernel
theorem d_Law_law_211 : decode code 211 = .ok (.invokevirtual 97, 3) := by decide +kernel
theorem d_Law_law_214 : decode code 214 = .ok (.aload_n 2, 1) := by decide +kernel
theorem d_Law_law_215 : decode code 215 = .ok (.invokevirtual 91, 3) := by decide +kernel
theorem d_Law_law_218 : decode code 218 = .ok (.iload 5, 2) := by decide +kernel
theorem d_Law_law_220 : decode code 220 = .ok (.if_icmp .eq 5, 3) := by decide +kernel
theorem d_Law_law_223 : decode code 223 = .ok (.iconst 0, 1) := by decide +kernel
theorem d_Law_law_224 : decode code 224 = .ok (.ireturn, 1) := by decide +kernel
theorem d_Law_law_225 : decode code 225 = .ok (.goto 1136, 3) := by decide +kernel
theorem d_Law_law_228 : decode code 228 = .ok (.aload_n 1, 1) := by decide +kernel
theorem d_Law_law_229 : decode code 229 = .ok (.aload_n 0, 1) := by decide +kernel
theorem d_Law_law_230 : decode code 230 = .ok (.iload 4, 2) := by decide +kernel
theorem d_Law_law_232 : decode code 232 = .ok (.iconst 1, 1) := by decide +kernel
theorem d_Law_law_233 : decode code 233 = .ok (.iadd, 1) := by decide +kernel
theorem d_Law_law_234 : decode code 234 = .ok (.iaload, 1) := by decide +kernel
theorem d_Law_law_235 : decode code 235 = .ok (.aload_n 3, 1) := by decide +kernel
theorem d_Law_law_236 : decode code 236 = .ok (.invokestatic 98, 3) := by decide +kernel
theorem d_Law_law_239 : decode code 239 = .ok (.istore 5, 2) := by decide +kernel
theorem d_Law_law_241 : decode code 241 = .ok (.aload_n 2, 1) := by decide +kernel
theorem d_Law_law_242 : decode code 242 = .ok (.aload_n 0, 1) := by decide +kernel
theorem d_Law_law_243 : decode code 243 = .ok (.iload 4, 2) := by decide +kernel
theorem d_Law_law_245 : decode code 245 = .ok (.iconst 1, 1) := by decide +kernel
theorem d_Law_law_246 : decode code 246 = .ok (.iadd, 1) := by decide +kernel
theorem d_Law_law_247 : decode code 247 = .ok (.iaload, 1) := by decide +kernel
theorem d_Law_law_248 : decode code 248 = .ok (.invokevirtual 101, 3) := by decide +kernel
theorem d_Law_law_251 : decode code 251 = .ok (.istore 6, 2) := by decide +kernel
theorem d_Law_law_253 : decode code 253 = .ok (.aload_n 2, 1) := by decide +kernel
theorem d_Law_law_254 : decode code 254 = .ok (.invokevirtual 91, 3) := by decide +kernel
theorem d_Law_law_257 : decode code 257 = .ok (.iload 5, 2) := by decide +kernel
theorem d_Law_law_259 : decode code 259 = .ok (.if_icmp .eq 5, 3) := by decide +kernel
theorem d_Law_law_262 : decode code 262 = .ok (.iconst 0, 1) := by decide +kernel
theorem d_Law_law_263 : decode code 263 = .ok (.ireturn, 1) := by decide +kernel
theorem d_Law_law_264 : decode code 264 = .ok (.iload 5, 2) := by decide +kernel
theorem d_Law_law_266 : decode code 266 = .ok (.ifCond .ne 15, 3) := by decide +kernel
theorem d_Law_law_269 : decode code 269 = .ok (.aload_n 3, 1) := by decide +kernel
theorem d_Law_law_270 : decode code 270 = .ok (.iconst 0, 1) := by decide +kernel
theorem d_Law_law_271 : decode code 271 = .ok (.laload, 1) := by decide +kernel
theorem d_Law_law_272 : decode code 272 = .ok (.iload 6, 2) := by decide +kernel
theorem d_Law_law_274 : decode code 274 = .ok (.i2l, 1) := by decide +kernel
theorem d_Law_law_275 : decode code 275 = .ok (.lcmp, 1) := by decide +kernel
theorem d_Law_law_276 : decode code 276 = .ok (.ifCond .eq 5, 3) := by decide +kernel
theorem d_Law_law_279 : decode code 279 = .ok (.iconst 0, 1) := by decide +kernel
theorem d_Law_law_280 : decode code 280 = .ok (.ireturn, 1) := by decide +kernel
theorem d_Law_law_281 : decode code 281 = .ok (.goto 1080, 3) := by decide +kernel
theorem d_Law_law_284 : decode code 284 = .ok (.aload_n 1, 1) := by decide +kernel
theorem d_Law_law_285 : decode code 285 = .ok (.aload_n 0, 1) := by decide +kernel
theorem d_Law_law_286 : decode code 286 = .ok (.iload 4, 2) := by decide +kernel
theorem d_Law_law_288 : decode code 288 = .ok (.iconst 1, 1) := by decide +kernel
theorem d_Law_law_289 : decode code 289 = .ok (.iadd, 1) := by decide +kernel
theorem d_Law_law_290 : decode code 290 = .ok (.iaload, 1) := by decide +kernel
theorem d_Law_law_291 : decode code 291 = .ok (.aload_n 0, 1) := by decide +kernel
theorem d_Law_law_292 : decode code 292 = .ok (.iload 4, 2) := by decide +kernel
theorem d_Law_law_294 : decode code 294 = .ok (.iconst 2, 1) := by decide +kernel
theorem d_Law_law_295 : decode code 295 = .ok (.iadd, 1) := by decide +kernel
theorem d_Law_law_296 : decode code 296 = .ok (.iaload, 1) := by decide +kernel
theorem d_Law_law_297 : decode code 297 = .ok (.aload_n 0, 1) := by decide +kernel
theorem d_Law_law_298 : decode code 298 = .ok (.iload 4, 2) := by decide +kernel
theorem d_Law_law_300 : decode code 300 = .ok (.iconst 3, 1) := by decide +kernel
theorem d_Law_law_301 : decode code 301 = .ok (.iadd, 1) := by decide +kernel
theorem d_Law_law_302 : decode code 302 = .ok (.iaload, 1) := by decide +kernel
theorem d_Law_law_303 : decode code 303 = .ok (.ifCond .eq 7, 3) := by decide +kernel
theorem d_Law_law_306 : decode code 306 = .ok (.iconst 1, 1) := by decide +kernel
theorem d_Law_law_307 : decode code 307 = .ok (.goto 4, 3) := by decide +kernel
theorem d_Law_law_310 : decode code 310 = .ok (.iconst 0, 1) := by decide +kernel
theorem d_Law_law_311 : decode code 311 = .ok (.aload_n 0, 1) := by decide +kernel
theorem d_Law_law_312 : decode code 312 = .ok (.iload 4, 2) := by decide +kernel
theorem d_Law_law_314 : decode code 314 = .ok (.iconst 4, 1) := by decide +kernel
theorem d_Law_law_315 : decode code 315 = .ok (.iadd, 1) := by decide +kernel
theorem d_Law_law_316 : decode code 316 = .ok (.iaload, 1) := by decide +kernel
theorem d_Law_law_317 : decode code 317 = .ok (.invokestatic 102, 3) := by decide +kernel
theorem d_Law_law_320 : decode code 320 = .ok (.istore 5, 2) := by decide +kernel
theorem d_Law_law_322 : decode code 322 = .ok (.aload_n 2, 1) := by decide +kernel
theorem d_Law_law_323 : decode code 323 = .ok (.aload_n 0, 1) := by decide +kernel
theorem d_Law_law_324 : decode code 324 = .ok (.iload 4, 2) := by decide +kernel
theorem d_Law_law_326 : decode code 326 = .ok (.iconst 1, 1) := by decide +kernel
theorem d_Law_law_327 : decode code 327 = .ok (.iadd, 1) := by decide +kernel
theorem d_Law_law_328 : decode code 328 = .ok (.iaload, 1) := by decide +kernel
theorem d_Law_law_329 : decode code 329 = .ok (.aload_n 0, 1) := by decide +kernel
theorem d_Law_law_330 : decode code 330 = .ok (.iload 4, 2) := by decide +kernel
theorem d_Law_law_332 : decode code 332 = .ok (.iconst 2, 1) := by decide +kernel
theorem d_Law_law_333 : decode code 333 = .ok (.iadd, 1) := by decide +kernel
theorem d_Law_law_334 : decode code 334 = .ok (.iaload, 1) := by decide +kernel
theorem d_Law_law_335 : decode code 335 = .ok (.aload_n 0, 1) := by decide +kernel
theorem d_Law_law_336 : decode code 336 = .ok (.iload 4, 2) := by decide +kernel
theorem d_Law_law_338 : decode code 338 = .ok (.iconst 3, 1) := by decide +kernel
theorem d_Law_law_339 : decode code 339 = .ok (.iadd, 1) := by decide +kernel
theorem d_Law_law_340 : decode code 340 = .ok (.iaload, 1) := by decide +kernel
theorem d_Law_law_341 : decode code 341 = .ok (.ifCond .eq 7, 3) := by decide +kernel
theorem d_Law_law_344 : decode code 344 = .ok (.iconst 1, 1) := by decide +kernel
theorem d_Law_law_345 : decode code 345 = .ok (.goto 4, 3) := by decide +kernel
theorem d_Law_law_348 : decode code 348 = .ok (.iconst 0, 1) := by decide +kernel
theorem d_Law_law_349 : decode code 349 = .ok (.aload_n 0, 1) := by decide +kernel
theorem d_Law_law_350 : decode code 350 = .ok (.iload 4, 2) := by decide +kernel
theorem d_Law_law_352 : decode code 352 = .ok (.iconst 4, 1) := by decide +kernel
theorem d_Law_law_353 : decode code 353 = .ok (.iadd, 1) := by decide +kernel
theorem d_Law_law_354 : decode code 354 = .ok (.iaload, 1) := by decide +kernel
theorem d_Law_law_355 : decode code 355 = .ok (.invokevirtual 105, 3) := by decide +kernel
theorem d_Law_law_358 : decode code 358 = .ok (.aload_n 2, 1) := by decide +kernel
theorem d_Law_law_359 : decode code 359 = .ok (.invokevirtual 91, 3) := by decide +kernel
theorem d_Law_law_362 : decode code 362 = .ok (.iload 5, 2) := by decide +kernel
theorem d_Law_law_364 : decode code 364 = .ok (.if_icmp .eq 5, 3) := by decide +kernel
theorem d_Law_law_367 : decode code 367 = .ok (.iconst 0, 1) := by decide +kernel
theorem d_Law_law_368 : decode code 368 = .ok (.ireturn, 1) := by decide +kernel
theorem d_Law_law_369 : decode code 369 = .ok (.goto 992, 3) := by decide +kernel
theorem d_Law_law_372 : decode code 372 = .ok (.aload_n 1, 1) := by decide +kernel
theorem d_Law_law_373 : decode code 373 = .ok (.aload_n 0, 1) := by decide +kernel
theorem d_Law_law_374 : decode code 374 = .ok (.iload 4, 2) := by decide +kernel
theorem d_Law_law_376 : decode code 376 = .ok (.iconst 1, 1) := by decide +kernel
theorem d_Law_law_377 : decode code 377 = .ok (.iadd, 1) := by decide +kernel
theorem d_Law_law_378 : decode code 378 = .ok (.iaload, 1) := by decide +kernel
theorem d_Law_law_379 : decode code 379 = .ok (.aload_n 0, 1) := by decide +kernel
theorem d_Law_law_380 : decode code 380 = .ok (.iload 4, 2) := by decide +kernel
theorem d_Law_law_382 : decode code 382 = .ok (.iconst 2, 1) := by decide +kernel
theorem d_Law_law_383 : decode code 383 = .ok (.iadd, 1) := by decide +kernel
theorem d_Law_law_384 : decode code 384 = .ok (.iaload, 1) := by decide +kernel
theorem d_Law_law_385 : decode code 385 = .ok (.invokestatic 106, 3) := by decide +kernel
theorem d_Law_law_388 : decode code 388 = .ok (.istore 5, 2) := by decide +kernel
theorem d_Law_law_390 : decode code 390 = .ok (.aload_n 2, 1) := by decide +kernel
theorem d_Law_law_391 : decode code 391 = .ok (.aload_n 0, 1) := by decide +kernel
theorem d_Law_law_392 : decode code 392 = .ok (.iload 4, 2) := by decide +kernel
theorem d_Law_law_394 : decode code 394 = .ok (.iconst 1, 1) := by decide +kernel
theorem d_Law_law_395 : decode code 395 = .ok (.iadd, 1) := by decide +kernel
theorem d_Law_law_396 : decode code 396 = .ok (.iaload, 1) := by decide +kernel
theorem d_Law_law_397 : decode code 397 = .ok (.aload_n 0, 1) := by decide +kernel
theorem d_Law_law_398 : decode code 398 = .ok (.iload 4, 2) := by decide +kernel
theorem d_Law_law_400 : decode code 400 = .ok (.iconst 2, 1) := by decide +kernel
theorem d_Law_law_401 : decode code 401 = .ok (.iadd, 1) := by decide +kernel
theorem d_Law_law_402 : decode code 402 = .ok (.iaload, 1) := by decide +kernel
theorem d_Law_law_403 : decode code 403 = .ok (.invokevirtual 108, 3) := by decide +kernel
theorem d_Law_law_406 : decode code 406 = .ok (.aload_n 2, 1) := by decide +kernel
theorem d_Law_law_407 : decode code 407 = .ok (.invokevirtual 91, 3) := by decide +kernel
theorem d_Law_law_410 : decode code 410 = .ok (.iload 5, 2) := by decide +kernel
theorem d_Law_law_412 : decode code 412 = .ok (.if_icmp .eq 5, 3) := by decide +kernel
theorem d_Law_law_415 : decode code 415 = .ok (.iconst 0, 1) := by decide +kernel
theorem d_Law_law_416 : decode code 416 = .ok (.ireturn, 1) := by decide +kernel
theorem d_Law_law_417 : decode code 417 = .ok (.goto 944, 3) := by decide +kernel
theorem d_Law_law_420 : decode code 420 = .ok (.aload_n 1, 1) := by decide +kernel
theorem d_Law_law_421 : decode code 421 = .ok (.aload_n 0, 1) := by decide +kernel
theorem d_Law_law_422 : decode code 422 = .ok (.iload 4, 2) := by decide +kernel
theorem d_Law_law_424 : decode code 424 = .ok (.iconst 1, 1) := by decide +kernel
theorem d_Law_law_425 : decode code 425 = .ok (.iadd, 1) := by decide +kernel
theorem d_Law_law_426 : decode code 426 = .ok (.iaload, 1) := by decide +kernel
theorem d_Law_law_427 : decode code 427 = .ok (.aload_n 0, 1) := by decide +kernel
theorem d_Law_law_428 : decode code 428 = .ok (.iload 4, 2) := by decide +kernel
theorem d_Law_law_430 : decode code 430 = .ok (.iconst 2, 1) := by decide +kernel
theorem d_Law_law_431 : decode code 431 = .ok (.iadd, 1) := by decide +kernel
theorem d_Law_law_432 : decode code 432 = .ok (.iaload, 1) := by decide +kernel
theorem d_Law_law_433 : decode code 433 = .ok (.invokestatic 109, 3) := by decide +kernel
theorem d_Law_law_436 : decode code 436 = .ok (.istore 5, 2) := by decide +kernel
theorem d_Law_law_438 : decode code 438 = .ok (.aload_n 2, 1) := by decide +kernel
theorem d_Law_law_439 : decode code 439 = .ok (.aload_n 0, 1) := by decide +kernel
theorem d_Law_law_440 : decode code 440 = .ok (.iload 4, 2) := by decide +kernel
theorem d_Law_law_442 : decode code 442 = .ok (.iconst 1, 1) := by decide +kernel
theorem d_Law_law_443 : decode code 443 = .ok (.iadd, 1) := by decide +kernel
theorem d_Law_law_444 : decode code 444 = .ok (.iaload, 1) := by decide +kernel
theorem d_Law_law_445 : decode code 445 = .ok (.aload_n 0, 1) := by decide +kernel
theorem d_Law_law_446 : decode code 446 = .ok (.iload 4, 2) := by decide +kernel
theorem d_Law_law_448 : decode code 448 = .ok (.iconst 2, 1) := by decide +kernel
theorem d_Law_law_449 : decode code 449 = .ok (.iadd, 1) := by decide +kernel
theorem d_Law_law_450 : decode code 450 = .ok (.iaload, 1) := by decide +kernel
theorem d_Law_law_451 : decode code 451 = .ok (.invokevirtual 111, 3) := by decide +kernel
theorem d_Law_law_454 : decode code 454 = .ok (.aload_n 2, 1) := by decide +kernel
theorem d_Law_law_455 : decode code 455 = .ok (.invokevirtual 91, 3) := by decide +kernel
theorem d_Law_law_458 : decode code 458 = .ok (.iload 5, 2) := by decide +kernel
theorem d_Law_law_460 : decode code 460 = .ok (.if_icmp .eq 5, 3) := by decide +kernel
theorem d_Law_law_463 : decode code 463 = .ok (.iconst 0, 1) := by decide +kernel
theorem d_Law_law_464 : decode code 464 = .ok (.ireturn, 1) := by decide +kernel
theorem d_Law_law_465 : decode code 465 = .ok (.goto 896, 3) := by decide +kernel
theorem d_Law_law_468 : decode code 468 = .ok (.aload_n 1, 1) := by decide +kernel
theorem d_Law_law_469 : decode code 469 = .ok (.aload_n 0, 1) := by decide +kernel
theorem d_Law_law_470 : decode code 470 = .ok (.iload 4, 2) := by decide +kernel
theorem d_Law_law_472 : decode code 472 = .ok (.iconst 1, 1) := by decide +kernel
theorem d_Law_law_473 : decode code 473 = .ok (.iadd, 1) := by decide +kernel
theorem d_Law_law_474 : decode code 474 = .ok (.iaload, 1) := by decide +kernel
theorem d_Law_law_475 : decode code 475 = .ok (.aload_n 0, 1) := by decide +kernel
theorem d_Law_law_476 : decode code 476 = .ok (.iload 4, 2) := by decide +kernel
theorem d_Law_law_478 : decode code 478 = .ok (.iconst 2, 1) := by decide +kernel
theorem d_Law_law_479 : decode code 479 = .ok (.iadd, 1) := by decide +kernel
theorem d_Law_law_480 : decode code 480 = .ok (.iaload, 1) := by decide +kernel
theorem d_Law_law_481 : decode code 481 = .ok (.aload_n 3, 1) := by decide +kernel
theorem d_Law_law_482 : decode code 482 = .ok (.invokestatic 112, 3) := by decide +kernel
theorem d_Law_law_485 : decode code 485 = .ok (.istore 5, 2) := by decide +kernel
theorem d_Law_law_487 : decode code 487 = .ok (.aload_n 2, 1) := by decide +kernel
theorem d_Law_law_488 : decode code 488 = .ok (.aload_n 0, 1) := by decide +kernel
theorem d_Law_law_489 : decode code 489 = .ok (.iload 4, 2) := by decide +kernel
theorem d_Law_law_491 : decode code 491 = .ok (.iconst 1, 1) := by decide +kernel
theorem d_Law_law_492 : decode code 492 = .ok (.iadd, 1) := by decide +kernel
theorem d_Law_law_493 : decode code 493 = .ok (.iaload, 1) := by decide +kernel
theorem d_Law_law_494 : decode code 494 = .ok (.aload_n 0, 1) := by decide +kernel
theorem d_Law_law_495 : decode code 495 = .ok (.iload 4, 2) := by decide +kernel
theorem d_Law_law_497 : decode code 497 = .ok (.iconst 2, 1) := by decide +kernel
theorem d_Law_law_498 : decode code 498 = .ok (.iadd, 1) := by decide +kernel
theorem d_Law_law_499 : decode code 499 = .ok (.iaload, 1) := by decide +kernel
theorem d_Law_law_500 : decode code 500 = .ok (.invokevirtual 115, 3) := by decide +kernel
theorem d_Law_law_503 : decode code 503 = .ok (.istore 6, 2) := by decide +kernel
theorem d_Law_law_505 : decode code 505 = .ok (.aload_n 2, 1) := by decide +kernel
theorem d_Law_law_506 : decode code 506 = .ok (.invokevirtual 91, 3) := by decide +kernel
theorem d_Law_law_509 : decode code 509 = .ok (.iload 5, 2) := by decide +kernel
theorem d_Law_law_511 : decode code 511 = .ok (.if_icmp .eq 5, 3) := by decide +kernel
theorem d_Law_law_514 : decode code 514 = .ok (.iconst 0, 1) := by decide +kernel
theorem d_Law_law_515 : decode code 515 = .ok (.ireturn, 1) := by decide +kernel
theorem d_Law_law_516 : decode code 516 = .ok (.iload 5, 2) := by decide +kernel
theorem d_Law_law_518 : decode code 518 = .ok (.ifCond .ne 15, 3) := by decide +kernel
theorem d_Law_law_521 : decode code 521 = .ok (.aload_n 3, 1) := by decide +kernel
theorem d_Law_law_522 : decode code 522 = .ok (.iconst 0, 1) := by decide +kernel
theorem d_Law_law_523 : decode code 523 = .ok (.laload, 1) := by decide +kernel
theorem d_Law_law_524 : decode code 524 = .ok (.iload 6, 2) := by decide +kernel
theorem d_Law_law_526 : decode code 526 = .ok (.i2l, 1) := by decide +kernel
theorem d_Law_law_527 : decode code 527 = .ok (.lcmp, 1) := by decide +kernel
theorem d_Law_law_528 : decode code 528 = .ok (.ifCond .eq 5, 3) := by decide +kernel
theorem d_Law_law_531 : decode code 531 = .ok (.iconst 0, 1) := by decide +kernel
theorem d_Law_law_532 : decode code 532 = .ok (.ireturn, 1) := by decide +kernel
theorem d_Law_law_533 : decode code 533 = .ok (.goto 828, 3) := by decide +kernel
theorem d_Law_law_536 : decode code 536 = .ok (.aload_n 1, 1) := by decide +kernel
theorem d_Law_law_537 : decode code 537 = .ok (.aload_n 0, 1) := by decide +kernel
theorem d_Law_law_538 : decode code 538 = .ok (.iload 4, 2) := by decide +kernel
theorem d_Law_law_540 : decode code 540 = .ok (.iconst 1, 1) := by decide +kernel
theorem d_Law_law_541 : decode code 541 = .ok (.iadd, 1) := by decide +kernel
theorem d_Law_law_542 : decode code 542 = .ok (.iaload, 1) := by decide +kernel
theorem d_Law_law_543 : decode code 543 = .ok (.aload_n 0, 1) := by decide +kernel
theorem d_Law_law_544 : decode code 544 = .ok (.iload 4, 2) := by decide +kernel
theorem d_Law_law_546 : decode code 546 = .ok (.iconst 2, 1) := by decide +kernel
theorem d_Law_law_547 : decode code 547 = .ok (.iadd, 1) := by decide +kernel
theorem d_Law_law_548 : decode code 548 = .ok (.iaload, 1) := by decide +kernel
theorem d_Law_law_549 : decode code 549 = .ok (.aload_n 3, 1) := by decide +kernel
theorem d_Law_law_550 : decode code 550 = .ok (.invokestatic 116, 3) := by decide +kernel
theorem d_Law_law_553 : decode code 553 = .ok (.istore 5, 2) := by decide +kernel
theorem d_Law_law_555 : decode code 555 = .ok (.aload_n 2, 1) := by decide +kernel
theorem d_Law_law_556 : decode code 556 = .ok (.aload_n 0, 1) := by decide +kernel
theorem d_Law_law_557 : decode code 557 = .ok (.iload 4, 2) := by decide +kernel
theorem d_Law_law_559 : decode code 559 = .ok (.iconst 1, 1) := by decide +kernel
theorem d_Law_law_560 : decode code 560 = .ok (.iadd, 1) := by decide +kernel
theorem d_Law_law_561 : decode code 561 = .ok (.iaload, 1) := by decide +kernel
theorem d_Law_law_562 : decode code 562 = .ok (.aload_n 0, 1) := by decide +kernel
theorem d_Law_law_563 : decode code 563 = .ok (.iload 4, 2) := by decide +kernel
theorem d_Law_law_565 : decode code 565 = .ok (.iconst 2, 1) := by decide +kernel
theorem d_Law_law_566 : decode code 566 = .ok (.iadd, 1) := by decide +kernel
theorem d_Law_law_567 : decode code 567 = .ok (.iaload, 1) := by decide +kernel
theorem d_Law_law_568 : decode code 568 = .ok (.invokevirtual 118, 3) := by decide +kernel
theorem d_Law_law_571 : decode code 571 = .ok (.istore 6, 2) := by decide +kernel
theorem d_Law_law_573 : decode code 573 = .ok (.aload_n 2, 1) := by decide +kernel
theorem d_Law_law_574 : decode code 574 = .ok (.invokevirtual 91, 3) := by decide +kernel
theorem d_Law_law_577 : decode code 577 = .ok (.iload 5, 2) := by decide +kernel
theorem d_Law_law_579 : decode code 579 = .ok (.if_icmp .eq 5, 3) := by decide +kernel
theorem d_Law_law_582 : decode code 582 = .ok (.iconst 0, 1) := by decide +kernel
theorem d_Law_law_583 : decode code 583 = .ok (.ireturn, 1) := by decide +kernel
theorem d_Law_law_584 : decode code 584 = .ok (.iload 5, 2) := by decide +kernel
theorem d_Law_law_586 : decode code 586 = .ok (.ifCond .ne 15, 3) := by decide +kernel
theorem d_Law_law_589 : decode code 589 = .ok (.aload_n 3, 1) := by decide +kernel
theorem d_Law_law_590 : decode code 590 = .ok (.iconst 0, 1) := by decide +kernel
theorem d_Law_law_591 : decode code 591 = .ok (.laload, 1) := by decide +kernel
theorem d_Law_law_592 : decode code 592 = .ok (.iload 6, 2) := by decide +kernel
theorem d_Law_law_594 : decode code 594 = .ok (.i2l, 1) := by decide +kernel
theorem d_Law_law_595 : decode code 595 = .ok (.lcmp, 1) := by decide +kernel
theorem d_Law_law_596 : decode code 596 = .ok (.ifCond .eq 5, 3) := by decide +kernel
theorem d_Law_law_599 : decode code 599 = .ok (.iconst 0, 1) := by decide +kernel
theorem d_Law_law_600 : decode code 600 = .ok (.ireturn, 1) := by decide +kernel
theorem d_Law_law_601 : decode code 601 = .ok (.goto 760, 3) := by decide +kernel
theorem d_Law_law_604 : decode code 604 = .ok (.aload_n 1, 1) := by decide +kernel
theorem d_Law_law_605 : decode code 605 = .ok (.aload_n 0, 1) := by decide +kernel
theorem d_Law_law_606 : decode code 606 = .ok (.iload 4, 2) := by decide +kernel
theorem d_Law_law_608 : decode code 608 = .ok (.iconst 1, 1) := by decide +kernel
theorem d_Law_law_609 : decode code 609 = .ok (.iadd, 1) := by decide +kernel
theorem d_Law_law_610 : decode code 610 = .ok (.iaload, 1) := by decide +kernel
theorem d_Law_law_611 : decode code 611 = .ok (.aload_n 0, 1) := by decide +kernel
theorem d_Law_law_612 : decode code 612 = .ok (.iload 4, 2) := by decide +kernel
theorem d_Law_law_614 : decode code 614 = .ok (.iconst 2, 1) := by decide +kernel
theorem d_Law_law_615 : decode code 615 = .ok (.iadd, 1) := by decide +kernel
theorem d_Law_law_616 : decode code 616 = .ok (.iaload, 1) := by decide +kernel
theorem d_Law_law_617 : decode code 617 = .ok (.ifCond .eq 7, 3) := by decide +kernel
theorem d_Law_law_620 : decode code 620 = .ok (.iconst 1, 1) := by decide +kernel
theorem d_Law_law_621 : decode code 621 = .ok (.goto 4, 3) := by decide +kernel
theorem d_Law_law_624 : decode code 624 = .ok (.iconst 0, 1) := by decide +kernel
theorem d_Law_law_625 : decode code 625 = .ok (.aload_n 3, 1) := by decide +kernel
theorem d_Law_law_626 : decode code 626 = .ok (.invokestatic 119, 3) := by decide +kernel
theorem d_Law_law_629 : decode code 629 = .ok (.istore 5, 2) := by decide +kernel
theorem d_Law_law_631 : decode code 631 = .ok (.aload_n 2, 1) := by decide +kernel
theorem d_Law_law_632 : decode code 632 = .ok (.aload_n 0, 1) := by decide +kernel
theorem d_Law_law_633 : decode code 633 = .ok (.iload 4, 2) := by decide +kernel
theorem d_Law_law_635 : decode code 635 = .ok (.iconst 1, 1) := by decide +kernel
theorem d_Law_law_636 : decode code 636 = .ok (.iadd, 1) := by decide +kernel
theorem d_Law_law_637 : decode code 637 = .ok (.iaload, 1) := by decide +kernel
theorem d_Law_law_638 : decode code 638 = .ok (.aload_n 0, 1) := by decide +kernel
theorem d_Law_law_639 : decode code 639 = .ok (.iload 4, 2) := by decide +kernel
theorem d_Law_law_641 : decode code 641 = .ok (.iconst 2, 1) := by decide +kernel
theorem d_Law_law_642 : decode code 642 = .ok (.iadd, 1) := by decide +kernel
theorem d_Law_law_643 : decode code 643 = .ok (.iaload, 1) := by decide +kernel
theorem d_Law_law_644 : decode code 644 = .ok (.ifCond .eq 7, 3) := by decide +kernel
theorem d_Law_law_647 : decode code 647 = .ok (.iconst 1, 1) := by decide +kernel
theorem d_Law_law_648 : decode code 648 = .ok (.goto 4, 3) := by decide +kernel
theorem d_Law_law_651 : decode code 651 = .ok (.iconst 0, 1) := by decide +kernel
theorem d_Law_law_652 : decode code 652 = .ok (.invokevirtual 122, 3) := by decide +kernel
theorem d_Law_law_655 : decode code 655 = .ok (.istore 6, 2) := by decide +kernel
theorem d_Law_law_657 : decode code 657 = .ok (.aload_n 2, 1) := by decide +kernel
theorem d_Law_law_658 : decode code 658 = .ok (.invokevirtual 91, 3) := by decide +kernel
theorem d_Law_law_661 : decode code 661 = .ok (.iload 5, 2) := by decide +kernel
theorem d_Law_law_663 : decode code 663 = .ok (.if_icmp .eq 5, 3) := by decide +kernel
theorem d_Law_law_666 : decode code 666 = .ok (.iconst 0, 1) := by decide +kernel
theorem d_Law_law_667 : decode code 667 = .ok (.ireturn, 1) := by decide +kernel
theorem d_Law_law_668 : decode code 668 = .ok (.iload 5, 2) := by decide +kernel
theorem d_Law_law_670 : decode code 670 = .ok (.ifCond .ne 22, 3) := by decide +kernel
theorem d_Law_law_673 : decode code 673 = .ok (.aload_n 3, 1) := by decide +kernel
theorem d_Law_law_674 : decode code 674 = .ok (.iconst 0, 1) := by decide +kernel
theorem d_Law_law_675 : decode code 675 = .ok (.laload, 1) := by decide +kernel
theorem d_Law_law_676 : decode code 676 = .ok (.iload 6, 2) := by decide +kernel
theorem d_Law_law_678 : decode code 678 = .ok (.ifCond .eq 7, 3) := by decide +kernel
theorem d_Law_law_681 : decode code 681 = .ok (.lconst 1, 1) := by decide +kernel
theorem d_Law_law_682 : decode code 682 = .ok (.goto 4, 3) := by decide +kernel
theorem d_Law_law_685 : decode code 685 = .ok (.lconst 0, 1) := by decide +kernel
theorem d_Law_law_686 : decode code 686 = .ok (.lcmp, 1) := by decide +kernel
theorem d_Law_law_687 : decode code 687 = .ok (.ifCond .eq 5, 3) := by decide +kernel
theorem d_Law_law_690 : decode code 690 = .ok (.iconst 0, 1) := by decide +kernel
theorem d_Law_law_691 : decode code 691 = .ok (.ireturn, 1) := by decide +kernel
theorem d_Law_law_692 : decode code 692 = .ok (.goto 669, 3) := by decide +kernel
theorem d_Law_law_695 : decode code 695 = .ok (.aload_n 1, 1) := by decide +kernel
theorem d_Law_law_696 : decode code 696 = .ok (.aload_n 0, 1) := by decide +kernel
theorem d_Law_law_697 : decode code 697 = .ok (.iload 4, 2) := by decide +kernel
theorem d_Law_law_699 : decode code 699 = .ok (.iconst 1, 1) := by decide +kernel
theorem d_Law_law_700 : decode code 700 = .ok (.iadd, 1) := by decide +kernel
theorem d_Law_law_701 : decode code 701 = .ok (.iaload, 1) := by decide +kernel
theorem d_Law_law_702 : decode code 702 = .ok (.aload_n 3, 1) := by decide +kernel
theorem d_Law_law_703 : decode code 703 = .ok (.invokestatic 123, 3) := by decide +kernel
theorem d_Law_law_706 : decode code 706 = .ok (.istore 5, 2) := by decide +kernel
theorem d_Law_law_708 : decode code 708 = .ok (.aload_n 2, 1) := by decide +kernel
theorem d_Law_law_709 : decode code 709 = .ok (.aload_n 0, 1) := by decide +kernel
theorem d_Law_law_710 : decode code 710 = .ok (.iload 4, 2) := by decide +kernel
theorem d_Law_law_712 : decode code 712 = .ok (.iconst 1, 1) := by decide +kernel
theorem d_Law_law_713 : decode code 713 = .ok (.iadd, 1) := by decide +kernel
theorem d_Law_law_714 : decode code 714 = .ok (.iaload, 1) := by decide +kernel
theorem d_Law_law_715 : decode code 715 = .ok (.invokevirtual 125, 3) := by decide +kernel
theorem d_Law_law_718 : decode code 718 = .ok (.istore 6, 2) := by decide +kernel
theorem d_Law_law_720 : decode code 720 = .ok (.aload_n 2, 1) := by decide +kernel
theorem d_Law_law_721 : decode code 721 = .ok (.invokevirtual 91, 3) := by decide +kernel
theorem d_Law_law_724 : decode code 724 = .ok (.iload 5, 2) := by decide +kernel
theorem d_Law_law_726 : decode code 726 = .ok (.if_icmp .eq 5, 3) := by decide +kernel
theorem d_Law_law_729 : decode code 729 = .ok (.iconst 0, 1) := by decide +kernel
theorem d_Law_law_730 : decode code 730 = .ok (.ireturn, 1) := by decide +kernel
theorem d_Law_law_731 : decode code 731 = .ok (.iload 5, 2) := by decide +kernel
theorem d_Law_law_733 : decode code 733 = .ok (.ifCond .ne 15, 3) := by decide +kernel
end
section
/-! decode rows: printed by wip/gen/names.py -/
theorem d_Law_law_736 : decode code 736 = .ok (.aload_n 3, 1) := by decide +kernel
theorem d_Law_law_737 : decode code 737 = .ok (.iconst 0, 1) := by decide +kernel
theorem d_Law_law_738 : decode code 738 = .ok (.laload, 1) := by decide +kernel
theorem d_Law_law_739 : decode code 739 = .ok (.iload 6, 2) := by decide +kernel
theorem d_Law_law_741 : decode code 741 = .ok (.i2l, 1) := by decide +kernel
theorem d_Law_law_742 : decode code 742 = .ok (.lcmp, 1) := by decide +kernel
theorem d_Law_law_743 : decode code 743 = .ok (.ifCond .eq 5, 3) := by decide +kernel
theorem d_Law_law_746 : decode code 746 = .ok (.iconst 0, 1) := by decide +kernel
theorem d_Law_law_747 : decode code 747 = .ok (.ireturn, 1) := by decide +kernel
theorem d_Law_law_748 : decode code 748 = .ok (.goto 613, 3) := by decide +kernel
theorem d_Law_law_751 : decode code 751 = .ok (.aload_n 1, 1) := by decide +kernel
theorem d_Law_law_752 : decode code 752 = .ok (.aload_n 0, 1) := by decide +kernel
theorem d_Law_law_753 : decode code 753 = .ok (.iload 4, 2) := by decide +kernel
theorem d_Law_law_755 : decode code 755 = .ok (.iconst 1, 1) := by decide +kernel
theorem d_Law_law_756 : decode code 756 = .ok (.iadd, 1) := by decide +kernel
theorem d_Law_law_757 : decode code 757 = .ok (.iaload, 1) := by decide +kernel
theorem d_Law_law_758 : decode code 758 = .ok (.aload_n 0, 1) := by decide +kernel
theorem d_Law_law_759 : decode code 759 = .ok (.iload 4, 2) := by decide +kernel
theorem d_Law_law_761 : decode code 761 = .ok (.iconst 2, 1) := by decide +kernel
theorem d_Law_law_762 : decode code 762 = .ok (.iadd, 1) := by decide +kernel
theorem d_Law_law_763 : decode code 763 = .ok (.iaload, 1) := by decide +kernel
theorem d_Law_law_764 : decode code 764 = .ok (.aload_n 3, 1) := by decide +kernel
theorem d_Law_law_765 : decode code 765 = .ok (.invokestatic 126, 3) := by decide +kernel
theorem d_Law_law_768 : decode code 768 = .ok (.istore 5, 2) := by decide +kernel
theorem d_Law_law_770 : decode code 770 = .ok (.aload_n 2, 1) := by decide +kernel
theorem d_Law_law_771 : decode code 771 = .ok (.aload_n 0, 1) := by decide +kernel
theorem d_Law_law_772 : decode code 772 = .ok (.iload 4, 2) := by decide +kernel
theorem d_Law_law_774 : decode code 774 = .ok (.iconst 1, 1) := by decide +kernel
theorem d_Law_law_775 : decode code 775 = .ok (.iadd, 1) := by decide +kernel
theorem d_Law_law_776 : decode code 776 = .ok (.iaload, 1) := by decide +kernel
theorem d_Law_law_777 : decode code 777 = .ok (.aload_n 0, 1) := by decide +kernel
theorem d_Law_law_778 : decode code 778 = .ok (.iload 4, 2) := by decide +kernel
theorem d_Law_law_780 : decode code 780 = .ok (.iconst 2, 1) := by decide +kernel
theorem d_Law_law_781 : decode code 781 = .ok (.iadd, 1) := by decide +kernel
theorem d_Law_law_782 : decode code 782 = .ok (.iaload, 1) := by decide +kernel
theorem d_Law_law_783 : decode code 783 = .ok (.invokevirtual 128, 3) := by decide +kernel
theorem d_Law_law_786 : decode code 786 = .ok (.istore 6, 2) := by decide +kernel
theorem d_Law_law_788 : decode code 788 = .ok (.aload_n 2, 1) := by decide +kernel
theorem d_Law_law_789 : decode code 789 = .ok (.invokevirtual 91, 3) := by decide +kernel
theorem d_Law_law_792 : decode code 792 = .ok (.iload 5, 2) := by decide +kernel
theorem d_Law_law_794 : decode code 794 = .ok (.if_icmp .eq 5, 3) := by decide +kernel
theorem d_Law_law_797 : decode code 797 = .ok (.iconst 0, 1) := by decide +kernel
theorem d_Law_law_798 : decode code 798 = .ok (.ireturn, 1) := by decide +kernel
theorem d_Law_law_799 : decode code 799 = .ok (.iload 5, 2) := by decide +kernel
theorem d_Law_law_801 : decode code 801 = .ok (.ifCond .ne 15, 3) := by decide +kernel
theorem d_Law_law_804 : decode code 804 = .ok (.aload_n 3, 1) := by decide +kernel
theorem d_Law_law_805 : decode code 805 = .ok (.iconst 0, 1) := by decide +kernel
theorem d_Law_law_806 : decode code 806 = .ok (.laload, 1) := by decide +kernel
theorem d_Law_law_807 : decode code 807 = .ok (.iload 6, 2) := by decide +kernel
theorem d_Law_law_809 : decode code 809 = .ok (.i2l, 1) := by decide +kernel
theorem d_Law_law_810 : decode code 810 = .ok (.lcmp, 1) := by decide +kernel
theorem d_Law_law_811 : decode code 811 = .ok (.ifCond .eq 5, 3) := by decide +kernel
theorem d_Law_law_814 : decode code 814 = .ok (.iconst 0, 1) := by decide +kernel
theorem d_Law_law_815 : decode code 815 = .ok (.ireturn, 1) := by decide +kernel
theorem d_Law_law_816 : decode code 816 = .ok (.goto 545, 3) := by decide +kernel
theorem d_Law_law_819 : decode code 819 = .ok (.aload_n 1, 1) := by decide +kernel
theorem d_Law_law_820 : decode code 820 = .ok (.aload_n 0, 1) := by decide +kernel
theorem d_Law_law_821 : decode code 821 = .ok (.iload 4, 2) := by decide +kernel
theorem d_Law_law_823 : decode code 823 = .ok (.iconst 1, 1) := by decide +kernel
theorem d_Law_law_824 : decode code 824 = .ok (.iadd, 1) := by decide +kernel
theorem d_Law_law_825 : decode code 825 = .ok (.iaload, 1) := by decide +kernel
theorem d_Law_law_826 : decode code 826 = .ok (.aload_n 0, 1) := by decide +kernel
theorem d_Law_law_827 : decode code 827 = .ok (.iload 4, 2) := by decide +kernel
theorem d_Law_law_829 : decode code 829 = .ok (.iconst 2, 1) := by decide +kernel
theorem d_Law_law_830 : decode code 830 = .ok (.iadd, 1) := by decide +kernel
theorem d_Law_law_831 : decode code 831 = .ok (.iaload, 1) := by decide +kernel
theorem d_Law_law_832 : decode code 832 = .ok (.aload_n 3, 1) := by decide +kernel
theorem d_Law_law_833 : decode code 833 = .ok (.invokestatic 129, 3) := by decide +kernel
theorem d_Law_law_836 : decode code 836 = .ok (.istore 5, 2) := by decide +kernel
theorem d_Law_law_838 : decode code 838 = .ok (.aload_n 2, 1) := by decide +kernel
theorem d_Law_law_839 : decode code 839 = .ok (.aload_n 0, 1) := by decide +kernel
theorem d_Law_law_840 : decode code 840 = .ok (.iload 4, 2) := by decide +kernel
theorem d_Law_law_842 : decode code 842 = .ok (.iconst 1, 1) := by decide +kernel
theorem d_Law_law_843 : decode code 843 = .ok (.iadd, 1) := by decide +kernel
theorem d_Law_law_844 : decode code 844 = .ok (.iaload, 1) := by decide +kernel
theorem d_Law_law_845 : decode code 845 = .ok (.aload_n 0, 1) := by decide +kernel
theorem d_Law_law_846 : decode code 846 = .ok (.iload 4, 2) := by decide +kernel
theorem d_Law_law_848 : decode code 848 = .ok (.iconst 2, 1) := by decide +kernel
theorem d_Law_law_849 : decode code 849 = .ok (.iadd, 1) := by decide +kernel
theorem d_Law_law_850 : decode code 850 = .ok (.iaload, 1) := by decide +kernel
theorem d_Law_law_851 : decode code 851 = .ok (.invokevirtual 131, 3) := by decide +kernel
theorem d_Law_law_854 : decode code 854 = .ok (.istore 6, 2) := by decide +kernel
theorem d_Law_law_856 : decode code 856 = .ok (.aload_n 2, 1) := by decide +kernel
theorem d_Law_law_857 : decode code 857 = .ok (.invokevirtual 91, 3) := by decide +kernel
theorem d_Law_law_860 : decode code 860 = .ok (.iload 5, 2) := by decide +kernel
theorem d_Law_law_862 : decode code 862 = .ok (.if_icmp .eq 5, 3) := by decide +kernel
theorem d_Law_law_865 : decode code 865 = .ok (.iconst 0, 1) := by decide +kernel
theorem d_Law_law_866 : decode code 866 = .ok (.ireturn, 1) := by decide +kernel
theorem d_Law_law_867 : decode code 867 = .ok (.iload 5, 2) := by decide +kernel
theorem d_Law_law_869 : decode code 869 = .ok (.ifCond .ne 15, 3) := by decide +kernel
theorem d_Law_law_872 : decode code 872 = .ok (.aload_n 3, 1) := by decide +kernel
theorem d_Law_law_873 : decode code 873 = .ok (.iconst 0, 1) := by decide +kernel
theorem d_Law_law_874 : decode code 874 = .ok (.laload, 1) := by decide +kernel
theorem d_Law_law_875 : decode code 875 = .ok (.iload 6, 2) := by decide +kernel
theorem d_Law_law_877 : decode code 877 = .ok (.i2l, 1) := by decide +kernel
theorem d_Law_law_878 : decode code 878 = .ok (.lcmp, 1) := by decide +kernel
theorem d_Law_law_879 : decode code 879 = .ok (.ifCond .eq 5, 3) := by decide +kernel
theorem d_Law_law_882 : decode code 882 = .ok (.iconst 0, 1) := by decide +kernel
theorem d_Law_law_883 : decode code 883 = .ok (.ireturn, 1) := by decide +kernel
theorem d_Law_law_884 : decode code 884 = .ok (.goto 477, 3) := by decide +kernel
theorem d_Law_law_887 : decode code 887 = .ok (.aload_n 1, 1) := by decide +kernel
theorem d_Law_law_888 : decode code 888 = .ok (.aload_n 0, 1) := by decide +kernel
theorem d_Law_law_889 : decode code 889 = .ok (.iload 4, 2) := by decide +kernel
theorem d_Law_law_891 : decode code 891 = .ok (.iconst 1, 1) := by decide +kernel
theorem d_Law_law_892 : decode code 892 = .ok (.iadd, 1) := by decide +kernel
theorem d_Law_law_893 : decode code 893 = .ok (.iaload, 1) := by decide +kernel
theorem d_Law_law_894 : decode code 894 = .ok (.aload_n 0, 1) := by decide +kernel
theorem d_Law_law_895 : decode code 895 = .ok (.iload 4, 2) := by decide +kernel
theorem d_Law_law_897 : decode code 897 = .ok (.iconst 2, 1) := by decide +kernel
theorem d_Law_law_898 : decode code 898 = .ok (.iadd, 1) := by decide +kernel
theorem d_Law_law_899 : decode code 899 = .ok (.iaload, 1) := by decide +kernel
theorem d_Law_law_900 : decode code 900 = .ok (.invokestatic 132, 3) := by decide +kernel
theorem d_Law_law_903 : decode code 903 = .ok (.istore 5, 2) := by decide +kernel
theorem d_Law_law_905 : decode code 905 = .ok (.aload_n 2, 1) := by decide +kernel
theorem d_Law_law_906 : decode code 906 = .ok (.aload_n 0, 1) := by decide +kernel
theorem d_Law_law_907 : decode code 907 = .ok (.iload 4, 2) := by decide +kernel
theorem d_Law_law_909 : decode code 909 = .ok (.iconst 1, 1) := by decide +kernel
theorem d_Law_law_910 : decode code 910 = .ok (.iadd, 1) := by decide +kernel
theorem d_Law_law_911 : decode code 911 = .ok (.iaload, 1) := by decide +kernel
theorem d_Law_law_912 : decode code 912 = .ok (.aload_n 0, 1) := by decide +kernel
theorem d_Law_law_913 : decode code 913 = .ok (.iload 4, 2) := by decide +kernel
theorem d_Law_law_915 : decode code 915 = .ok (.iconst 2, 1) := by decide +kernel
theorem d_Law_law_916 : decode code 916 = .ok (.iadd, 1) := by decide +kernel
theorem d_Law_law_917 : decode code 917 = .ok (.iaload, 1) := by decide +kernel
theorem d_Law_law_918 : decode code 918 = .ok (.invokevirtual 134, 3) := by decide +kernel
theorem d_Law_law_921 : decode code 921 = .ok (.aload_n 2, 1) := by decide +kernel
theorem d_Law_law_922 : decode code 922 = .ok (.invokevirtual 91, 3) := by decide +kernel
theorem d_Law_law_925 : decode code 925 = .ok (.iload 5, 2) := by decide +kernel
theorem d_Law_law_927 : decode code 927 = .ok (.if_icmp .eq 5, 3) := by decide +kernel
theorem d_Law_law_930 : decode code 930 = .ok (.iconst 0, 1) := by decide +kernel
theorem d_Law_law_931 : decode code 931 = .ok (.ireturn, 1) := by decide +kernel
theorem d_Law_law_932 : decode code 932 = .ok (.goto 429, 3) := by decide +kernel
theorem d_Law_law_935 : decode code 935 = .ok (.aload_n 1, 1) := by decide +kernel
theorem d_Law_law_936 : decode code 936 = .ok (.aload_n 0, 1) := by decide +kernel
theorem d_Law_law_937 : decode code 937 = .ok (.iload 4, 2) := by decide +kernel
theorem d_Law_law_939 : decode code 939 = .ok (.iconst 1, 1) := by decide +kernel
theorem d_Law_law_940 : decode code 940 = .ok (.iadd, 1) := by decide +kernel
theorem d_Law_law_941 : decode code 941 = .ok (.iaload, 1) := by decide +kernel
theorem d_Law_law_942 : decode code 942 = .ok (.aload_n 0, 1) := by decide +kernel
theorem d_Law_law_943 : decode code 943 = .ok (.iload 4, 2) := by decide +kernel
theorem d_Law_law_945 : decode code 945 = .ok (.iconst 2, 1) := by decide +kernel
theorem d_Law_law_946 : decode code 946 = .ok (.iadd, 1) := by decide +kernel
theorem d_Law_law_947 : decode code 947 = .ok (.iaload, 1) := by decide +kernel
theorem d_Law_law_948 : decode code 948 = .ok (.aload_n 0, 1) := by decide +kernel
theorem d_Law_law_949 : decode code 949 = .ok (.iload 4, 2) := by decide +kernel
theorem d_Law_law_951 : decode code 951 = .ok (.iconst 3, 1) := by decide +kernel
theorem d_Law_law_952 : decode code 952 = .ok (.iadd, 1) := by decide +kernel
theorem d_Law_law_953 : decode code 953 = .ok (.iaload, 1) := by decide +kernel
theorem d_Law_law_954 : decode code 954 = .ok (.invokestatic 135, 3) := by decide +kernel
theorem d_Law_law_957 : decode code 957 = .ok (.istore 5, 2) := by decide +kernel
theorem d_Law_law_959 : decode code 959 = .ok (.aload_n 2, 1) := by decide +kernel
theorem d_Law_law_960 : decode code 960 = .ok (.aload_n 0, 1) := by decide +kernel
theorem d_Law_law_961 : decode code 961 = .ok (.iload 4, 2) := by decide +kernel
theorem d_Law_law_963 : decode code 963 = .ok (.iconst 1, 1) := by decide +kernel
theorem d_Law_law_964 : decode code 964 = .ok (.iadd, 1) := by decide +kernel
theorem d_Law_law_965 : decode code 965 = .ok (.iaload, 1) := by decide +kernel
theorem d_Law_law_966 : decode code 966 = .ok (.aload_n 0, 1) := by decide +kernel
theorem d_Law_law_967 : decode code 967 = .ok (.iload 4, 2) := by decide +kernel
theorem d_Law_law_969 : decode code 969 = .ok (.iconst 2, 1) := by decide +kernel
theorem d_Law_law_970 : decode code 970 = .ok (.iadd, 1) := by decide +kernel
theorem d_Law_law_971 : decode code 971 = .ok (.iaload, 1) := by decide +kernel
theorem d_Law_law_972 : decode code 972 = .ok (.aload_n 0, 1) := by decide +kernel
theorem d_Law_law_973 : decode code 973 = .ok (.iload 4, 2) := by decide +kernel
theorem d_Law_law_975 : decode code 975 = .ok (.iconst 3, 1) := by decide +kernel
theorem d_Law_law_976 : decode code 976 = .ok (.iadd, 1) := by decide +kernel
theorem d_Law_law_977 : decode code 977 = .ok (.iaload, 1) := by decide +kernel
theorem d_Law_law_978 : decode code 978 = .ok (.invokevirtual 138, 3) := by decide +kernel
theorem d_Law_law_981 : decode code 981 = .ok (.aload_n 2, 1) := by decide +kernel
theorem d_Law_law_982 : decode code 982 = .ok (.invokevirtual 91, 3) := by decide +kernel
theorem d_Law_law_985 : decode code 985 = .ok (.iload 5, 2) := by decide +kernel
theorem d_Law_law_987 : decode code 987 = .ok (.if_icmp .eq 5, 3) := by decide +kernel
theorem d_Law_law_990 : decode code 990 = .ok (.iconst 0, 1) := by decide +kernel
theorem d_Law_law_991 : decode code 991 = .ok (.ireturn, 1) := by decide +kernel
theorem d_Law_law_992 : decode code 992 = .ok (.goto 369, 3) := by decide +kernel
theorem d_Law_law_995 : decode code 995 = .ok (.aload_n 1, 1) := by decide +kernel
theorem d_Law_law_996 : decode code 996 = .ok (.aload_n 0, 1) := by decide +kernel
theorem d_Law_law_997 : decode code 997 = .ok (.iload 4, 2) := by decide +kernel
theorem d_Law_law_999 : decode code 999 = .ok (.iconst 1, 1) := by decide +kernel
theorem d_Law_law_1000 : decode code 1000 = .ok (.iadd, 1) := by decide +kernel
theorem d_Law_law_1001 : decode code 1001 = .ok (.iaload, 1) := by decide +kernel
theorem d_Law_law_1002 : decode code 1002 = .ok (.aload_n 3, 1) := by decide +kernel
theorem d_Law_law_1003 : decode code 1003 = .ok (.invokestatic 139, 3) := by decide +kernel
theorem d_Law_law_1006 : decode code 1006 = .ok (.istore 5, 2) := by decide +kernel
theorem d_Law_law_1008 : decode code 1008 = .ok (.aload_n 2, 1) := by decide +kernel
theorem d_Law_law_1009 : decode code 1009 = .ok (.aload_n 0, 1) := by decide +kernel
theorem d_Law_law_1010 : decode code 1010 = .ok (.iload 4, 2) := by decide +kernel
theorem d_Law_law_1012 : decode code 1012 = .ok (.iconst 1, 1) := by decide +kernel
theorem d_Law_law_1013 : decode code 1013 = .ok (.iadd, 1) := by decide +kernel
theorem d_Law_law_1014 : decode code 1014 = .ok (.iaload, 1) := by decide +kernel
theorem d_Law_law_1015 : decode code 1015 = .ok (.invokevirtual 141, 3) := by decide +kernel
theorem d_Law_law_1018 : decode code 1018 = .ok (.istore 6, 2) := by decide +kernel
theorem d_Law_law_1020 : decode code 1020 = .ok (.aload_n 2, 1) := by decide +kernel
theorem d_Law_law_1021 : decode code 1021 = .ok (.invokevirtual 91, 3) := by decide +kernel
theorem d_Law_law_1024 : decode code 1024 = .ok (.iload 5, 2) := by decide +kernel
theorem d_Law_law_1026 : decode code 1026 = .ok (.if_icmp .eq 5, 3) := by decide +kernel
theorem d_Law_law_1029 : decode code 1029 = .ok (.iconst 0, 1) := by decide +kernel
theorem d_Law_law_1030 : decode code 1030 = .ok (.ireturn, 1) := by decide +kernel
theorem d_Law_law_1031 : decode code 1031 = .ok (.iload 5, 2) := by decide +kernel
theorem d_Law_law_1033 : decode code 1033 = .ok (.ifCond .ne 15, 3) := by decide +kernel
theorem d_Law_law_1036 : decode code 1036 = .ok (.aload_n 3, 1) := by decide +kernel
theorem d_Law_law_1037 : decode code 1037 = .ok (.iconst 0, 1) := by decide +kernel
theorem d_Law_law_1038 : decode code 1038 = .ok (.laload, 1) := by decide +kernel
theorem d_Law_law_1039 : decode code 1039 = .ok (.iload 6, 2) := by decide +kernel
theorem d_Law_law_1041 : decode code 1041 = .ok (.i2l, 1) := by decide +kernel
theorem d_Law_law_1042 : decode code 1042 = .ok (.lcmp, 1) := by decide +kernel
theorem d_Law_law_1043 : decode code 1043 = .ok (.ifCond .eq 5, 3) := by decide +kernel
theorem d_Law_law_1046 : decode code 1046 = .ok (.iconst 0, 1) := by decide +kernel
theorem d_Law_law_1047 : decode code 1047 = .ok (.ireturn, 1) := by decide +kernel
theorem d_Law_law_1048 : decode code 1048 = .ok (.goto 313, 3) := by decide +kernel
theorem d_Law_law_1051 : decode code 1051 = .ok (.aload_n 1, 1) := by decide +kernel
theorem d_Law_law_1052 : decode code 1052 = .ok (.aload_n 0, 1) := by decide +kernel
theorem d_Law_law_1053 : decode code 1053 = .ok (.iload 4, 2) := by decide +kernel
theorem d_Law_law_1055 : decode code 1055 = .ok (.iconst 1, 1) := by decide +kernel
theorem d_Law_law_1056 : decode code 1056 = .ok (.iadd, 1) := by decide +kernel
theorem d_Law_law_1057 : decode code 1057 = .ok (.iaload, 1) := by decide +kernel
theorem d_Law_law_1058 : decode code 1058 = .ok (.aload_n 0, 1) := by decide +kernel
theorem d_Law_law_1059 : decode code 1059 = .ok (.iload 4, 2) := by decide +kernel
theorem d_Law_law_1061 : decode code 1061 = .ok (.iconst 2, 1) := by decide +kernel
theorem d_Law_law_1062 : decode code 1062 = .ok (.iadd, 1) := by decide +kernel
theorem d_Law_law_1063 : decode code 1063 = .ok (.iaload, 1) := by decide +kernel
theorem d_Law_law_1064 : decode code 1064 = .ok (.aload_n 3, 1) := by decide +kernel
theorem d_Law_law_1065 : decode code 1065 = .ok (.invokestatic 142, 3) := by decide +kernel
theorem d_Law_law_1068 : decode code 1068 = .ok (.istore 5, 2) := by decide +kernel
theorem d_Law_law_1070 : decode code 1070 = .ok (.aload_n 2, 1) := by decide +kernel
theorem d_Law_law_1071 : decode code 1071 = .ok (.aload_n 0, 1) := by decide +kernel
theorem d_Law_law_1072 : decode code 1072 = .ok (.iload 4, 2) := by decide +kernel
theorem d_Law_law_1074 : decode code 1074 = .ok (.iconst 1, 1) := by decide +kernel
theorem d_Law_law_1075 : decode code 1075 = .ok (.iadd, 1) := by decide +kernel
theorem d_Law_law_1076 : decode code 1076 = .ok (.iaload, 1) := by decide +kernel
theorem d_Law_law_1077 : decode code 1077 = .ok (.aload_n 0, 1) := by decide +kernel
theorem d_Law_law_1078 : decode code 1078 = .ok (.iload 4, 2) := by decide +kernel
theorem d_Law_law_1080 : decode code 1080 = .ok (.iconst 2, 1) := by decide +kernel
theorem d_Law_law_1081 : decode code 1081 = .ok (.iadd, 1) := by decide +kernel
theorem d_Law_law_1082 : decode code 1082 = .ok (.iaload, 1) := by decide +kernel
theorem d_Law_law_1083 : decode code 1083 = .ok (.invokevirtual 144, 3) := by decide +kernel
theorem d_Law_law_1086 : decode code 1086 = .ok (.istore 6, 2) := by decide +kernel
theorem d_Law_law_1088 : decode code 1088 = .ok (.aload_n 2, 1) := by decide +kernel
theorem d_Law_law_1089 : decode code 1089 = .ok (.invokevirtual 91, 3) := by decide +kernel
theorem d_Law_law_1092 : decode code 1092 = .ok (.iload 5, 2) := by decide +kernel
theorem d_Law_law_1094 : decode code 1094 = .ok (.if_icmp .eq 5, 3) := by decide +kernel
theorem d_Law_law_1097 : decode code 1097 = .ok (.iconst 0, 1) := by decide +kernel
theorem d_Law_law_1098 : decode code 1098 = .ok (.ireturn, 1) := by decide +kernel
theorem d_Law_law_1099 : decode code 1099 = .ok (.iload 5, 2) := by decide +kernel
theorem d_Law_law_1101 : decode code 1101 = .ok (.ifCond .ne 15, 3) := by decide +kernel
theorem d_Law_law_1104 : decode code 1104 = .ok (.aload_n 3, 1) := by decide +kernel
theorem d_Law_law_1105 : decode code 1105 = .ok (.iconst 0, 1) := by decide +kernel
theorem d_Law_law_1106 : decode code 1106 = .ok (.laload, 1) := by decide +kernel
theorem d_Law_law_1107 : decode code 1107 = .ok (.iload 6, 2) := by decide +kernel
theorem d_Law_law_1109 : decode code 1109 = .ok (.i2l, 1) := by decide +kernel
theorem d_Law_law_1110 : decode code 1110 = .ok (.lcmp, 1) := by decide +kernel
theorem d_Law_law_1111 : decode code 1111 = .ok (.ifCond .eq 5, 3) := by decide +kernel
theorem d_Law_law_1114 : decode code 1114 = .ok (.iconst 0, 1) := by decide +kernel
theorem d_Law_law_1115 : decode code 1115 = .ok (.ireturn, 1) := by decide +kernel
theorem d_Law_law_1116 : decode code 1116 = .ok (.goto 245, 3) := by decide +kernel
theorem d_Law_law_1119 : decode code 1119 = .ok (.aload_n 1, 1) := by decide +kernel
theorem d_Law_law_1120 : decode code 1120 = .ok (.aload_n 0, 1) := by decide +kernel
theorem d_Law_law_1121 : decode code 1121 = .ok (.iload 4, 2) := by decide +kernel
theorem d_Law_law_1123 : decode code 1123 = .ok (.iconst 1, 1) := by decide +kernel
theorem d_Law_law_1124 : decode code 1124 = .ok (.iadd, 1) := by decide +kernel
theorem d_Law_law_1125 : decode code 1125 = .ok (.iaload, 1) := by decide +kernel
theorem d_Law_law_1126 : decode code 1126 = .ok (.aload_n 0, 1) := by decide +kernel
theorem d_Law_law_1127 : decode code 1127 = .ok (.iload 4, 2) := by decide +kernel
theorem d_Law_law_1129 : decode code 1129 = .ok (.iconst 2, 1) := by decide +kernel
theorem d_Law_law_1130 : decode code 1130 = .ok (.iadd, 1) := by decide +kernel
theorem d_Law_law_1131 : decode code 1131 = .ok (.iaload, 1) := by decide +kernel
theorem d_Law_law_1132 : decode code 1132 = .ok (.aload_n 3, 1) := by decide +kernel
theorem d_Law_law_1133 : decode code 1133 = .ok (.invokestatic 145, 3) := by decide +kernel
theorem d_Law_law_1136 : decode code 1136 = .ok (.istore 5, 2) := by decide +kernel
theorem d_Law_law_1138 : decode code 1138 = .ok (.aload_n 2, 1) := by decide +kernel
theorem d_Law_law_1139 : decode code 1139 = .ok (.aload_n 0, 1) := by decide +kernel
theorem d_Law_law_1140 : decode code 1140 = .ok (.iload 4, 2) := by decide +kernel
theorem d_Law_law_1142 : decode code 1142 = .ok (.iconst 1, 1) := by decide +kernel
theorem d_Law_law_1143 : decode code 1143 = .ok (.iadd, 1) := by decide +kernel
theorem d_Law_law_1144 : decode code 1144 = .ok (.iaload, 1) := by decide +kernel
theorem d_Law_law_1145 : decode code 1145 = .ok (.aload_n 0, 1) := by decide +kernel
theorem d_Law_law_1146 : decode code 1146 = .ok (.iload 4, 2) := by decide +kernel
theorem d_Law_law_1148 : decode code 1148 = .ok (.iconst 2, 1) := by decide +kernel
theorem d_Law_law_1149 : decode code 1149 = .ok (.iadd, 1) := by decide +kernel
theorem d_Law_law_1150 : decode code 1150 = .ok (.iaload, 1) := by decide +kernel
theorem d_Law_law_1151 : decode code 1151 = .ok (.invokevirtual 147, 3) := by decide +kernel
theorem d_Law_law_1154 : decode code 1154 = .ok (.istore 6, 2) := by decide +kernel
theorem d_Law_law_1156 : decode code 1156 = .ok (.aload_n 2, 1) := by decide +kernel
theorem d_Law_law_1157 : decode code 1157 = .ok (.invokevirtual 91, 3) := by decide +kernel
theorem d_Law_law_1160 : decode code 1160 = .ok (.iload 5, 2) := by decide +kernel
theorem d_Law_law_1162 : decode code 1162 = .ok (.if_icmp .eq 5, 3) := by decide +kernel
theorem d_Law_law_1165 : decode code 1165 = .ok (.iconst 0, 1) := by decide +kernel
theorem d_Law_law_1166 : decode code 1166 = .ok (.ireturn, 1) := by decide +kernel
theorem d_Law_law_1167 : decode code 1167 = .ok (.iload 5, 2) := by decide +kernel
theorem d_Law_law_1169 : decode code 1169 = .ok (.ifCond .ne 15, 3) := by decide +kernel
theorem d_Law_law_1172 : decode code 1172 = .ok (.aload_n 3, 1) := by decide +kernel
theorem d_Law_law_1173 : decode code 1173 = .ok (.iconst 0, 1) := by decide +kernel
theorem d_Law_law_1174 : decode code 1174 = .ok (.laload, 1) := by decide +kernel
theorem d_Law_law_1175 : decode code 1175 = .ok (.iload 6, 2) := by decide +kernel
theorem d_Law_law_1177 : decode code 1177 = .ok (.i2l, 1) := by decide +kernel
theorem d_Law_law_1178 : decode code 1178 = .ok (.lcmp, 1) := by decide +kernel
theorem d_Law_law_1179 : decode code 1179 = .ok (.ifCond .eq 5, 3) := by decide +kernel
theorem d_Law_law_1182 : decode code 1182 = .ok (.iconst 0, 1) := by decide +kernel
theorem d_Law_law_1183 : decode code 1183 = .ok (.ireturn, 1) := by decide +kernel
theorem d_Law_law_1184 : decode code 1184 = .ok (.goto 177, 3) := by decide +kernel
theorem d_Law_law_1187 : decode code 1187 = .ok (.aload_n 1, 1) := by decide +kernel
theorem d_Law_law_1188 : decode code 1188 = .ok (.aload_n 0, 1) := by decide +kernel
theorem d_Law_law_1189 : decode code 1189 = .ok (.iload 4, 2) := by decide +kernel
theorem d_Law_law_1191 : decode code 1191 = .ok (.iconst 1, 1) := by decide +kernel
theorem d_Law_law_1192 : decode code 1192 = .ok (.iadd, 1) := by decide +kernel
theorem d_Law_law_1193 : decode code 1193 = .ok (.iaload, 1) := by decide +kernel
theorem d_Law_law_1194 : decode code 1194 = .ok (.aload_n 0, 1) := by decide +kernel
theorem d_Law_law_1195 : decode code 1195 = .ok (.iload 4, 2) := by decide +kernel
theorem d_Law_law_1197 : decode code 1197 = .ok (.iconst 2, 1) := by decide +kernel
theorem d_Law_law_1198 : decode code 1198 = .ok (.iadd, 1) := by decide +kernel
theorem d_Law_law_1199 : decode code 1199 = .ok (.iaload, 1) := by decide +kernel
theorem d_Law_law_1200 : decode code 1200 = .ok (.aload_n 3, 1) := by decide +kernel
theorem d_Law_law_1201 : decode code 1201 = .ok (.invokestatic 148, 3) := by decide +kernel
theorem d_Law_law_1204 : decode code 1204 = .ok (.istore 5, 2) := by decide +kernel
theorem d_Law_law_1206 : decode code 1206 = .ok (.aload_n 2, 1) := by decide +kernel
theorem d_Law_law_1207 : decode code 1207 = .ok (.aload_n 0, 1) := by decide +kernel
theorem d_Law_law_1208 : decode code 1208 = .ok (.iload 4, 2) := by decide +kernel
theorem d_Law_law_1210 : decode code 1210 = .ok (.iconst 1, 1) := by decide +kernel
theorem d_Law_law_1211 : decode code 1211 = .ok (.iadd, 1) := by decide +kernel
theorem d_Law_law_1212 : decode code 1212 = .ok (.iaload, 1) := by decide +kernel
theorem d_Law_law_1213 : decode code 1213 = .ok (.aload_n 0, 1) := by decide +kernel
theorem d_Law_law_1214 : decode code 1214 = .ok (.iload 4, 2) := by decide +kernel
theorem d_Law_law_1216 : decode code 1216 = .ok (.iconst 2, 1) := by decide +kernel
theorem d_Law_law_1217 : decode code 1217 = .ok (.iadd, 1) := by decide +kernel
theorem d_Law_law_1218 : decode code 1218 = .ok (.iaload, 1) := by decide +kernel
theorem d_Law_law_1219 : decode code 1219 = .ok (.invokevirtual 150, 3) := by decide +kernel
theorem d_Law_law_1222 : decode code 1222 = .ok (.istore 6, 2) := by decide +kernel
theorem d_Law_law_1224 : decode code 1224 = .ok (.aload_n 2, 1) := by decide +kernel
theorem d_Law_law_1225 : decode code 1225 = .ok (.invokevirtual 91, 3) := by decide +kernel
theorem d_Law_law_1228 : decode code 1228 = .ok (.iload 5, 2) := by decide +kernel
theorem d_Law_law_1230 : decode code 1230 = .ok (.if_icmp .eq 5, 3) := by decide +kernel
theorem d_Law_law_1233 : decode code 1233 = .ok (.iconst 0, 1) := by decide +kernel
theorem d_Law_law_1234 : decode code 1234 = .ok (.ireturn, 1) := by decide +kernel
theorem d_Law_law_1235 : decode code 1235 = .ok (.iload 5, 2) := by decide +kernel
theorem d_Law_law_1237 : decode code 1237 = .ok (.ifCond .ne 15, 3) := by decide +kernel
theorem d_Law_law_1240 : decode code 1240 = .ok (.aload_n 3, 1) := by decide +kernel
theorem d_Law_law_1241 : decode code 1241 = .ok (.iconst 0, 1) := by decide +kernel
theorem d_Law_law_1242 : decode code 1242 = .ok (.laload, 1) := by decide +kernel
theorem d_Law_law_1243 : decode code 1243 = .ok (.iload 6, 2) := by decide +kernel
theorem d_Law_law_1245 : decode code 1245 = .ok (.i2l, 1) := by decide +kernel
theorem d_Law_law_1246 : decode code 1246 = .ok (.lcmp, 1) := by decide +kernel
theorem d_Law_law_1247 : decode code 1247 = .ok (.ifCond .eq 5, 3) := by decide +kernel
theorem d_Law_law_1250 : decode code 1250 = .ok (.iconst 0, 1) := by decide +kernel
theorem d_Law_law_1251 : decode code 1251 = .ok (.ireturn, 1) := by decide +kernel
theorem d_Law_law_1252 : decode code 1252 = .ok (.goto 109, 3) := by decide +kernel
theorem d_Law_law_1255 : decode code 1255 = .ok (.aload_n 1, 1) := by decide +kernel
theorem d_Law_law_1256 : decode code 1256 = .ok (.aload_n 0, 1) := by decide +kernel
theorem d_Law_law_1257 : decode code 1257 = .ok (.iload 4, 2) := by decide +kernel
theorem d_Law_law_1259 : decode code 1259 = .ok (.iconst 1, 1) := by decide +kernel
theorem d_Law_law_1260 : decode code 1260 = .ok (.iadd, 1) := by decide +kernel
theorem d_Law_law_1261 : decode code 1261 = .ok (.iaload, 1) := by decide +kernel
theorem d_Law_law_1262 : decode code 1262 = .ok (.aload_n 0, 1) := by decide +kernel
theorem d_Law_law_1263 : decode code 1263 = .ok (.iload 4, 2) := by decide +kernel
theorem d_Law_law_1265 : decode code 1265 = .ok (.iconst 2, 1) := by decide +kernel
theorem d_Law_law_1266 : decode code 1266 = .ok (.iadd, 1) := by decide +kernel
theorem d_Law_law_1267 : decode code 1267 = .ok (.iaload, 1) := by decide +kernel
theorem d_Law_law_1268 : decode code 1268 = .ok (.aload_n 3, 1) := by decide +kernel
theorem d_Law_law_1269 : decode code 1269 = .ok (.invokestatic 151, 3) := by decide +kernel
theorem d_Law_law_1272 : decode code 1272 = .ok (.istore 5, 2) := by decide +kernel
theorem d_Law_law_1274 : decode code 1274 = .ok (.aload_n 2, 1) := by decide +kernel
theorem d_Law_law_1275 : decode code 1275 = .ok (.aload_n 0, 1) := by decide +kernel
theorem d_Law_law_1276 : decode code 1276 = .ok (.iload 4, 2) := by decide +kernel
theorem d_Law_law_1278 : decode code 1278 = .ok (.iconst 1, 1) := by decide +kernel
theorem d_Law_law_1279 : decode code 1279 = .ok (.iadd, 1) := by decide +kernel
theorem d_Law_law_1280 : decode code 1280 = .ok (.iaload, 1) := by decide +kernel
theorem d_Law_law_1281 : decode code 1281 = .ok (.aload_n 0, 1) := by decide +kernel
theorem d_Law_law_1282 : decode code 1282 = .ok (.iload 4, 2) := by decide +kernel
theorem d_Law_law_1284 : decode code 1284 = .ok (.iconst 2, 1) := by decide +kernel
theorem d_Law_law_1285 : decode code 1285 = .ok (.iadd, 1) := by decide +kernel
theorem d_Law_law_1286 : decode code 1286 = .ok (.iaload, 1) := by decide +kernel
theorem d_Law_law_1287 : decode code 1287 = .ok (.invokevirtual 153, 3) := by decide +kernel
theorem d_Law_law_1290 : decode code 1290 = .ok (.istore 6, 2) := by decide +kernel
theorem d_Law_law_1292 : decode code 1292 = .ok (.aload_n 2, 1) := by decide +kernel
theorem d_Law_law_1293 : decode code 1293 = .ok (.invokevirtual 91, 3) := by decide +kernel
theorem d_Law_law_1296 : decode code 1296 = .ok (.iload 5, 2) := by decide +kernel
theorem d_Law_law_1298 : decode code 1298 = .ok (.if_icmp .eq 5, 3) := by decide +kernel
theorem d_Law_law_1301 : decode code 1301 = .ok (.iconst 0, 1) := by decide +kernel
theorem d_Law_law_1302 : decode code 1302 = .ok (.ireturn, 1) := by decide +kernel
theorem d_Law_law_1303 : decode code 1303 = .ok (.iload 5, 2) := by decide +kernel
theorem d_Law_law_1305 : decode code 1305 = .ok (.ifCond .ne 15, 3) := by decide +kernel
theorem d_Law_law_1308 : decode code 1308 = .ok (.aload_n 3, 1) := by decide +kernel
theorem d_Law_law_1309 : decode code 1309 = .ok (.iconst 0, 1) := by decide +kernel
theorem d_Law_law_1310 : decode code 1310 = .ok (.laload, 1) := by decide +kernel
theorem d_Law_law_1311 : decode code 1311 = .ok (.iload 6, 2) := by decide +kernel
theorem d_Law_law_1313 : decode code 1313 = .ok (.i2l, 1) := by decide +kernel
theorem d_Law_law_1314 : decode code 1314 = .ok (.lcmp, 1) := by decide +kernel
theorem d_Law_law_1315 : decode code 1315 = .ok (.ifCond .eq 5, 3) := by decide +kernel
theorem d_Law_law_1318 : decode code 1318 = .ok (.iconst 0, 1) := by decide +kernel
theorem d_Law_law_1319 : decode code 1319 = .ok (.ireturn, 1) := by decide +kernel
theorem d_Law_law_1320 : decode code 1320 = .ok (.goto 41, 3) := by decide +kernel
theorem d_Law_law_1323 : decode code 1323 = .ok (.aload_n 1, 1) := by decide +kernel
theorem d_Law_law_1324 : decode code 1324 = .ok (.invokevirtual 154, 3) := by decide +kernel
theorem d_Law_law_1327 : decode code 1327 = .ok (.aload_n 2, 1) := by decide +kernel
theorem d_Law_law_1328 : decode code 1328 = .ok (.invokevirtual 157, 3) := by decide +kernel
theorem d_Law_law_1331 : decode code 1331 = .ok (.if_icmp .eq 30, 3) := by decide +kernel
theorem d_Law_law_1334 : decode code 1334 = .ok (.iconst 0, 1) := by decide +kernel
theorem d_Law_law_1335 : decode code 1335 = .ok (.ireturn, 1) := by decide +kernel
theorem d_Law_law_1336 : decode code 1336 = .ok (.aload_n 1, 1) := by decide +kernel
theorem d_Law_law_1337 : decode code 1337 = .ok (.aload_n 0, 1) := by decide +kernel
theorem d_Law_law_1338 : decode code 1338 = .ok (.iload 4, 2) := by decide +kernel
theorem d_Law_law_1340 : decode code 1340 = .ok (.iconst 1, 1) := by decide +kernel
theorem d_Law_law_1341 : decode code 1341 = .ok (.iadd, 1) := by decide +kernel
theorem d_Law_law_1342 : decode code 1342 = .ok (.iaload, 1) := by decide +kernel
theorem d_Law_law_1343 : decode code 1343 = .ok (.invokevirtual 158, 3) := by decide +kernel
theorem d_Law_law_1346 : decode code 1346 = .ok (.aload_n 2, 1) := by decide +kernel
theorem d_Law_law_1347 : decode code 1347 = .ok (.aload_n 0, 1) := by decide +kernel
theorem d_Law_law_1348 : decode code 1348 = .ok (.iload 4, 2) := by decide +kernel
theorem d_Law_law_1350 : decode code 1350 = .ok (.iconst 1, 1) := by decide +kernel
theorem d_Law_law_1351 : decode code 1351 = .ok (.iadd, 1) := by decide +kernel
theorem d_Law_law_1352 : decode code 1352 = .ok (.iaload, 1) := by decide +kernel
theorem d_Law_law_1353 : decode code 1353 = .ok (.invokevirtual 161, 3) := by decide +kernel
theorem d_Law_law_1356 : decode code 1356 = .ok (.if_icmp .eq 5, 3) := by decide +kernel
theorem d_Law_law_1359 : decode code 1359 = .ok (.iconst 0, 1) := by decide +kernel
theorem d_Law_law_1360 : decode code 1360 = .ok (.ireturn, 1) := by decide +kernel
theorem d_Law_law_1361 : decode code 1361 = .ok (.iinc 4 5, 3) := by decide +kernel
theorem d_Law_law_1364 : decode code 1364 = .ok (.goto (-1341), 3) := by decide +kernel
theorem d_Law_law_1367 : decode code 1367 = .ok (.iconst 1, 1) := by decide +kernel
theorem d_Law_law_1368 : decode code 1368 = .ok (.ireturn, 1) := by decide +kernel
end
section
/-! array rows at a place that is a number; throws: the words -/
section OSN
variable {p : Program} {l : Launch} {e : Env} {R : Room} {s : State} {m : MethodId} {args : Array Value} {below : List Frame} {meth : Method} {c : Code} {H : Heap} {locs : List Loc} {cells slots : Nat} {Q : State → Prop}
variable {cc : ByteArray} {pc : Nat} {ls : Array Slot} {rest : List Value} {D : va_G} {cA : Nat → ClassId} {bs : Nat} {σ σ0 : os_S} {ad ad0 : Nat → Nat → Nat} {tys : List (ClassId × FieldType)}
theorem os_ialdN (hx : p.tables.exec = Jvm.exec) (hb : c.code = cc) {K i t t0 n : Nat} {ix : Int32} (hK : va_K D os_cl tys s) (hV : os_V D cA bs σ0 ad0 s σ ad H locs) (hs : os_sc K = .inr (t, none)) (hlg : os_lg K = false) (ht : tys[t0]? = some (cA t, .int)) (hi : i < os_n σ K) (hix : ix = nI n) (hlt : n < os_l σ K i) (hsz : os_l σ K i < 2 ^ 31) (hdg : decode cc pc = .ok (.iaload, 1))
    (kk : W p l e R s m args below meth c H locs cells slots Q (F0 m (pc + 1) ls (.int (os_g σ K n i) :: rest))) : W p l e R s m args below meth c H locs cells slots Q (F0 m pc ls (.int ix :: .ref (ad K i) :: rest)) := by
  subst hix
  have hc : (nI n).toNatClampNeg = n := nI_clamp (by omega)
  exact os_iald hx hb hK hV hs hlg ht hi (vp_in_nI hlt hsz) hdg (by rw [hc]; exact kk)
theorem os_zaldN (hx : p.tables.exec = Jvm.exec) (hb : c.code = cc) {K i t t0 n : Nat} {ix : Int32} (hK : va_K D os_cl tys s) (hV : os_V D cA bs σ0 ad0 s σ ad H locs) (hs : os_sc K = .inr (t, none)) (hlg : os_lg K = false) (ht : tys[t0]? = some (cA t, .boolean)) (hi : i < os_n σ K) (hix : ix = nI n) (hlt : n < os_l σ K i) (hsz : os_l σ K i < 2 ^ 31) (hdg : decode cc pc = .ok (.baload, 1))
    (kk : W p l e R s m args below meth c H locs cells slots Q (F0 m (pc + 1) ls (.int (os_g σ K n i) :: rest))) : W p l e R s m args below meth c H locs cells slots Q (F0 m pc ls (.int ix :: .ref (ad K i) :: rest)) := by
  subst hix
  have hc : (nI n).toNatClampNeg = n := nI_clamp (by omega)
  exact os_zald hx hb hK hV hs hlg ht hi (vp_in_nI hlt hsz) hdg (by rw [hc]; exact kk)
theorem os_laldN (hx : p.tables.exec = Jvm.exec) (hb : c.code = cc) {K i t t0 n : Nat} {ix : Int32} (hK : va_K D os_cl tys s) (hV : os_V D cA bs σ0 ad0 s σ ad H locs) (hs : os_sc K = .inr (t, none)) (hlg : os_lg K = true) (ht : tys[t0]? = some (cA t, .long)) (hi : i < os_n σ K) (hix : ix = nI n) (hlt : n < os_l σ K i) (hsz : os_l σ K i < 2 ^ 31) (hdg : decode cc pc = .ok (.laload, 1))
    (kk : W p l e R s m args below meth c H locs cells slots Q (F0 m (pc + 1) ls (.long (os_g σ K n i).toInt64 :: rest))) : W p l e R s m args below meth c H locs cells slots Q (F0 m pc ls (.int ix :: .ref (ad K i) :: rest)) := by
  subst hix
  have hc : (nI n).toNatClampNeg = n := nI_clamp (by omega)
  exact os_lald hx hb hK hV hs hlg ht hi (vp_in_nI hlt hsz) hdg (by rw [hc]; exact kk)
theorem os_aaldN (hx : p.tables.exec = Jvm.exec) (hb : c.code = cc) {K i t t0 n kt : Nat} {ix : Int32} {C : String} (hK : va_K D os_cl tys s) (hV : os_V D cA bs σ0 ad0 s σ ad H locs) (hs : os_sc K = .inr (t, some kt)) (ht : tys[t0]? = some (cA t, .object C)) (hi : i < os_n σ K) (hix : ix = nI n) (hlt : n < os_l σ K i) (hsz : os_l σ K i < 2 ^ 31) (hdg : decode cc pc = .ok (.aaload, 1))
    (kk : W p l e R s m args below meth c H locs cells slots Q (F0 m (pc + 1) ls (va_rf ((os_r σ K n i).map (ad kt)) :: rest))) : W p l e R s m args below meth c H locs cells slots Q (F0 m pc ls (.int ix :: .ref (ad K i) :: rest)) := by
  subst hix
  have hc : (nI n).toNatClampNeg = n := nI_clamp (by omega)
  exact os_aald hx hb hK hV hs ht hi (vp_in_nI hlt hsz) hdg (by rw [hc]; exact kk)
theorem os_iastN (hx : p.tables.exec = Jvm.exec) (hb : c.code = cc) {K i t t0 n : Nat} {ix v : Int32} (hK : va_K D os_cl tys s) (hV : os_V D cA bs σ0 ad0 s σ ad H locs) (hs : os_sc K = .inr (t, none)) (hlg : os_lg K = false) (ht : tys[t0]? = some (cA t, .int)) (hi : i < os_n σ K) (hix : ix = nI n) (hlt : n < os_l σ K i) (hsz : os_l σ K i < 2 ^ 31) (hdg : decode cc pc = .ok (.iastore, 1))
    (kk : ∀ (H1 : Heap) (locs1 : List Loc), os_V D cA bs σ0 ad0 s (os_sg σ K n i v) ad H1 locs1 → W p l e R s m args below meth c H1 locs1 cells slots Q (F0 m (pc + 1) ls rest)) : W p l e R s m args below meth c H locs cells slots Q (F0 m pc ls (.int v :: .int ix :: .ref (ad K i) :: rest)) := by
  subst hix
  have hc : (nI n).toNatClampNeg = n := nI_clamp (by omega)
  refine os_iast hx hb hK hV hs hlg ht hi (vp_in_nI hlt hsz) hdg (fun H1 locs1 h => ?_)
  rw [hc] at h
  exact kk H1 locs1 h
theorem os_zastN (hx : p.tables.exec = Jvm.exec) (hb : c.code = cc) {K i t t0 n : Nat} {ix v : Int32} (hK : va_K D os_cl tys s) (hV : os_V D cA bs σ0 ad0 s σ ad H locs) (hs : os_sc K = .inr (t, none)) (hlg : os_lg K = false) (ht : tys[t0]? = some (cA t, .boolean)) (hi : i < os_n σ K) (hix : ix = nI n) (hlt : n < os_l σ K i) (hsz : os_l σ K i < 2 ^ 31) (hv : narrow .boolean (.int v) = .int v) (hdg : decode cc pc = .ok (.bastore, 1))
    (kk : ∀ (H1 : Heap) (locs1 : List Loc), os_V D cA bs σ0 ad0 s (os_sg σ K n i v) ad H1 locs1 → W p l e R s m args below meth c H1 locs1 cells slots Q (F0 m (pc + 1) ls rest)) : W p l e R s m args below meth c H locs cells slots Q (F0 m pc ls (.int v :: .int ix :: .ref (ad K i) :: rest)) := by
  subst hix
  have hc : (nI n).toNatClampNeg = n := nI_clamp (by omega)
  refine os_zast hx hb hK hV hs hlg ht hi (vp_in_nI hlt hsz) hv hdg (fun H1 locs1 h => ?_)
  rw [hc] at h
  exact kk H1 locs1 h
theorem os_lastN (hx : p.tables.exec = Jvm.exec) (hb : c.code = cc) {K i t t0 n : Nat} {ix v : Int32} (hK : va_K D os_cl tys s) (hV : os_V D cA bs σ0 ad0 s σ ad H locs) (hs : os_sc K = .inr (t, none)) (hlg : os_lg K = true) (ht : tys[t0]? = some (cA t, .long)) (hi : i < os_n σ K) (hix : ix = nI n) (hlt : n < os_l σ K i) (hsz : os_l σ K i < 2 ^ 31) (hdg : decode cc pc = .ok (.lastore, 1))
    (kk : ∀ (H1 : Heap) (locs1 : List Loc), os_V D cA bs σ0 ad0 s (os_sg σ K n i v) ad H1 locs1 → W p l e R s m args below meth c H1 locs1 cells slots Q (F0 m (pc + 1) ls rest)) : W p l e R s m args below meth c H locs cells slots Q (F0 m pc ls (.long v.toInt64 :: .int ix :: .ref (ad K i) :: rest)) := by
  subst hix
  have hc : (nI n).toNatClampNeg = n := nI_clamp (by omega)
  refine os_last hx hb hK hV hs hlg ht hi (vp_in_nI hlt hsz) hdg (fun H1 locs1 h => ?_)
  rw [hc] at h
  exact kk H1 locs1 h
theorem os_aastNN (hx : p.tables.exec = Jvm.exec) (hb : c.code = cc) {K i t t0 n kt : Nat} {ix : Int32} {C : String} (hK : va_K D os_cl tys s) (hV : os_V D cA bs σ0 ad0 s σ ad H locs) (hs : os_sc K = .inr (t, some kt)) (ht : tys[t0]? = some (cA t, .object C)) (hi : i < os_n σ K) (hix : ix = nI n) (hlt : n < os_l σ K i) (hsz : os_l σ K i < 2 ^ 31) (hdg : decode cc pc = .ok (.aastore, 1))
    (kk : ∀ (H1 : Heap) (locs1 : List Loc), os_V D cA bs σ0 ad0 s (os_sr σ K n i none) ad H1 locs1 → W p l e R s m args below meth c H1 locs1 cells slots Q (F0 m (pc + 1) ls rest)) : W p l e R s m args below meth c H locs cells slots Q (F0 m pc ls (.null :: .int ix :: .ref (ad K i) :: rest)) := by
  subst hix
  have hc : (nI n).toNatClampNeg = n := nI_clamp (by omega)
  refine os_aastN hx hb hK hV hs ht hi (vp_in_nI hlt hsz) hdg (fun H1 locs1 h => ?_)
  rw [hc] at h
  exact kk H1 locs1 h
theorem os_aastK (hx : p.tables.exec = Jvm.exec) (hb : c.code = cc) {K i t t0 n kt ck x : Nat} {r : vw_C} {fds : List (Option Nat)} {ix : Int32} (hK : va_K D os_cl tys s) (hV : os_V D cA bs σ0 ad0 s σ ad H locs) (hs : os_sc K = .inr (t, some kt)) (hsk : os_sc kt = .inl (ck, fds)) (hc : os_cl[ck]? = some r) (ht : tys[t0]? = some (cA t, .object r.1)) (hi : i < os_n σ K) (hxt : x < os_n σ kt) (hix : ix = nI n) (hlt : n < os_l σ K i) (hsz : os_l σ K i < 2 ^ 31) (hdg : decode cc pc = .ok (.aastore, 1))
    (kk : ∀ (H1 : Heap) (locs1 : List Loc), os_V D cA bs σ0 ad0 s (os_sr σ K n i (some x)) ad H1 locs1 → W p l e R s m args below meth c H1 locs1 cells slots Q (F0 m (pc + 1) ls rest)) : W p l e R s m args below meth c H locs cells slots Q (F0 m pc ls (.ref (ad kt x) :: .int ix :: .ref (ad K i) :: rest)) := by
  subst hix
  have hcl : (nI n).toNatClampNeg = n := nI_clamp (by omega)
  refine os_aast hx hb hK hV hs hsk hc ht hi hxt (vp_in_nI hlt hsz) hdg (fun H1 locs1 h => ?_)
  rw [hcl] at h
  exact kk H1 locs1 h
end OSN
theorem th_IllegalArgumentException : ∀ w ∈ (Bundle.ownAtoms "RobotFaults" 70 "java/lang/IllegalArgumentException" ["java/lang/RuntimeException", "java/lang/Exception"]).filter os_no, w ∈ os_tb := os_sub (by decide +kernel) (by decide +kernel)
theorem th_IllegalStateException : ∀ w ∈ (Bundle.ownAtoms "RobotFaults" 108 "java/lang/IllegalStateException" ["java/lang/RuntimeException", "java/lang/Exception"]).filter os_no, w ∈ os_tb := os_sub (by decide +kernel) (by decide +kernel)
theorem th_UnsupportedOperationException : ∀ w ∈ (Bundle.ownAtoms "RobotFaults" 55 "java/lang/UnsupportedOperationException" ["java/lang/RuntimeException", "java/lang/Exception"]).filter os_no, w ∈ os_tb := os_sub (by decide +kernel) (by decide +kernel)
section OSW
variable {p : Program} {l : Launch} {e : Env} {R : Room} {s : State} {m : MethodId} {args : Array Value} {below : List Frame} {meth : Method} {c : Code} {H : Heap} {locs : List Loc} {cells slots : Nat} {Q : State → Prop}
variable {cc : ByteArray} {pc : Nat} {ls : Array Slot} {rest st0 : List Value} {D : va_G} {cA : Nat → ClassId} {bs : Nat} {σ σ0 : os_S} {ad ad0 : Nat → Nat → Nat} {tys : List (ClassId × FieldType)}
variable {rm : Room} {Post : os_O → os_S → (Nat → Nat → Nat) → Prop}
/-- 'throw new E("text")': new; dup; ldc; invokespecial; athrow, in a body without handlers; the text by a wide index -/
theorem os_throwW {own cls text : String} {names : List String} {ik is ic : Nat} (hx : p.tables.exec = Jvm.exec) (hb : c.code = cc) (hl : l.stackTraces = false) (hown : s.vm.findClass own = some m.cls) (hcls : Bundle.fit cls = true) (hnames : ∀ n ∈ names, Bundle.fit n = true)
    (hE : os_EV D cA bs s) (hV : os_V D cA bs σ0 ad0 s σ ad H locs) (hk : Cond.classLink own ik cls ∈ os_tb) (hini : Cond.initialized cls ∈ os_tb) (hstr : (own, is, text) ∈ os_str) (hat : ∀ w ∈ (Bundle.ownAtoms own ic cls names).filter os_no, w ∈ os_tb)
    (hsize : ls.size = c.maxLocals) (d0 : decode cc pc = .ok (.new ik, 3)) (d3 : decode cc (pc + 3) = .ok (.dup, 1)) (d4 : decode cc (pc + 4) = .ok (.ldc_w is, 3)) (d6 : decode cc (pc + 7) = .ok (.invokespecial ic, 3)) (d9 : decode cc (pc + 10) = .ok (.athrow, 1))
    (hout : ∀ x ∈ c.exceptionTable.toList, False) (hlocks : meth.locks = false) (hRf : names.length + 3 < R.frames) (hRl : (rest.map fun v => v.category).sum + (13 * (names.length + 1) + 43) ≤ R.locals) (hRc : cells + 1 ≤ R.cells) (hRs : slots + 6 ≤ R.slots) (hc : cells + 1 ≤ rm.cells) (hs : slots + 6 ≤ rm.slots) (hp : Post (.inr cls) σ ad) :
    W p l e R s m args below meth c H locs cells slots (os_End D cA bs below s σ0 ad0 rm Post) (F0 m pc ls rest) := by
  intro T hT X
  have htr : e.platform.stackTraces = false := (show e.platform.stackTraces = l.stackTraces by rw [X.admits.platform]).trans hl
  have Y := os_rebase X (R' := { frames := R.frames, locals := R.locals, cells := 1, slots := 6 }) (Nat.le_refl _) (Nat.le_refl _) hRc hRs
  obtain ⟨s', hA⟩ : ∃ z, z = (T.setVm s.vm).setFrames (.invoking m args :: below) := ⟨_, rfl⟩
  rw [← hA] at Y
  have hvm : s'.vm = s.vm := by rw [hA]; rfl
  have hhp : s'.heap = H := by rw [hA]; exact hT
  have hW0 : s.WarmedH s'.vm := by rw [hvm]; exact State.WarmedH.refl s
  have hE' : os_EV D cA bs s' := hE.moved hW0 (by rw [hhp]; exact hV.2.2.1) (fun q hq => by rw [hhp]; exact hV.low hE.2.2.1 q hq)
  have h : ∀ w ∈ Bundle.ownAtoms own ic cls names, w.before args s' = true := os_own hE' hat
  have hown' : s'.vm.findClass own = some m.cls := by rw [hvm]; exact hown
  have hins : (Cond.instantiable cls 6).before args s' = true := h _ (by simp [Bundle.ownAtoms])
  obtain ⟨vm₁, cX, kX, hfX, hkX, -, -, X₁, st1⟩ := Y.newCold hx (own := own) (C := cls) (index := ik) (n := 6) hown' (hE'.hts _ hk) hins (hE'.hts _ hini)
    (g := F0 m pc ls rest) rfl (by rw [hb]; exact d0) (Nat.le_refl _) (Nat.le_refl _)
  generalize hT1 : (T.setVm vm₁).pushCell { cls := cX, slots := kX.instanceTypes.map defaultValue, vm := .none } = T1 at X₁ st1
  have hcat : (Value.ref T.heap.size).category = 1 := rfl
  have hcellA : T1.heap[T.heap.size]? = some (freshCell cX kX) := by rw [← hT1]; exact State.heap_pushCell_size _ _
  have d3' : decode c.code (pc + 3) = .ok (.dup, 1) := by rw [hb]; exact d3
  have d4' : decode c.code (pc + 4) = .ok (.ldc_w is, 3) := by rw [hb]; exact d4
  obtain ⟨sa, hstr'⟩ := hE'.2.2.2.2.2 _ hstr
  obtain ⟨U, hsteps, hrun, hend, hW, hsame, ce, hce, hO⟩ := X₁.ctorThrowS hx htr (own := own) (cls := cls) (names := names) (ic := ic) hown' hcls hnames h (fun x hx => nomatch hx) hfX hkX hcellA (by rw [hhp, hT]; exact Nat.le_refl _) (msg := .ref sa) rfl
    (g := { method := m, pc := pc + 7, locals := ls, stack := .ref sa :: .ref T.heap.size :: .ref T.heap.size :: rest, locked := none }) rfl hsize rfl rfl (rest := rest) rfl
    (by rw [hb]; exact d6) (by rw [hb]; exact d9) (fun x hx => (hout x hx).elim) hRf (by simp only [List.map_cons, List.sum_cons, hcat]; omega) hlocks
  obtain ⟨f1, f2⟩ := os_frame hsame
  rw [hhp] at f1 f2
  have hWs : s.WarmedH U.vm := State.WarmedH.trans hW0 hW
  have hcl : s.vm.findClass cls = some ce.cls := by
    have h9 := hO.cls
    rw [hvm] at h9
    exact h9
  have hall : s.sameButNew ({ U with vm := s.vm } : State) locs rm.cells rm.slots := by
    subst hA
    obtain ⟨e1, e2⟩ := hsame
    rw [State.setFrames_setFrames] at e1
    have h2 : (T.setVm s.vm).sameButNew ({ U with vm := s.vm } : State) [] (0 + 1) (0 + 6) := ⟨e1, e2⟩
    have h3 := X.same.trans h2
    rw [List.append_nil] at h3
    exact h3.mono hc hs
  have hWU : os_W D cA bs σ ad U.heap := by
    obtain ⟨w1, w2, w3, w4⟩ := hV.1
    exact ⟨fun K i hi => (w1 K i hi).to rfl (f2 _ (w1 K i hi).lt (fun z hz => nomatch hz)) rfl (fun _ => rfl), w2, w3, w4⟩
  refine ⟨U, ?_, .threw T.heap.size, hrun, hend, .inr cls, σ, ad, ⟨T.heap.size, ce, rfl, hce, hO.vm, hcl⟩, hp, hWU, hV.2.1, hWs, locs, hall, hV.2.2.2.2⟩
  refine st1 _ ?_
  show Steps p.tables e below (T1.setTop { method := m, pc := pc + 3, locals := ls, stack := .ref T.heap.size :: rest, locked := none }) _
  jvm_step X₁.here [X₁.here.top, hx, d3', Value.category]
  exact X₁.ldcStringW hx (own := own) (text := text) (index := is) (a := sa) hown' hstr'.1 hstr'.2
    (g := { method := m, pc := pc + 4, locals := ls, stack := .ref T.heap.size :: .ref T.heap.size :: rest, locked := none }) rfl d4' _ hsteps
end OSW
end
section
/-! AN EXCEPTION WHOSE TEXT CONSTRUCTOR BEARS OTHER BYTES (NoSuchElementException: its link to the class above stands at another place) -/
def os_nsB : ByteArray := prog_19_method_4_code
def os_nsX : String := "java/util/NoSuchElementException"
def os_nsA : List Cond := Bundle.throwableAtoms ++ Bundle.throwableSAtoms ++ (Bundle.passSAtoms os_nsX "java/lang/RuntimeException" 13 os_nsB ++ Bundle.chainSAtoms "java/lang/RuntimeException" ["java/lang/Exception"]) ++
  [.methodLink "RobotFaults" 306 (Bundle.initS os_nsX), .instantiable os_nsX 6, .castable os_nsX os_nsX, .selects os_nsX Bundle.tFill0 Bundle.tFill0, .selects os_nsX Bundle.tFill Bundle.tFill,
   .lays os_nsX Bundle.tN "cause" "Ljava/lang/Throwable;", .lays os_nsX Bundle.tN "stackTrace" Bundle.steD, .lays os_nsX Bundle.tN "suppressedExceptions" Bundle.listD, .lays os_nsX Bundle.tN "detailMessage" "Ljava/lang/String;",
   .isRef (.static Bundle.tN "UNASSIGNED_STACK" Bundle.steD), .isRef (.static Bundle.tN "SUPPRESSED_SENTINEL" Bundle.listD),
   .fieldLink Bundle.tN 198 Bundle.tN "backtrace" "Ljava/lang/Object;", .lays Bundle.tN Bundle.tN "backtrace" "Ljava/lang/Object;", .lays os_nsX Bundle.tN "backtrace" "Ljava/lang/Object;"]
theorem os_ns0 : decode os_nsB 0 = .ok (.aload_n 0, 1) := by decide +kernel
theorem os_ns1 : decode os_nsB 1 = .ok (.aload_n 1, 1) := by decide +kernel
theorem os_ns2 : decode os_nsB 2 = .ok (.invokespecial 13, 3) := by decide +kernel
theorem os_ns5 : decode os_nsB 5 = .ok (.return_, 1) := by decide +kernel
section OSE
variable {p : Program} {l : Launch} {e : Env} {R : Room} {s : State} {m₀ : MethodId} {args : Array Value} {below : List Frame} {meth : Method} {c : Code} {W0 : State} {locs : List Loc} {cells slots : Nat}
set_option maxHeartbeats 1000000 in
theorem os_nsThrow (X : Stand p l e R s m₀ args below meth c W0 locs cells slots) (hexec : p.tables.exec = Jvm.exec) (htr : e.platform.stackTraces = false) (hown : s.vm.findClass "RobotFaults" = some m₀.cls)
    (h : ∀ a ∈ os_nsA, a.before args s = true) (hlocs : ∀ x ∈ locs, ∀ cell, s.heap[x.base]? = some cell → cell.vm.isStatics = false)
    {a : Addr} {cX : ClassId} {kX : Class} (hfoundX : s.vm.findClass os_nsX = some cX) (hkX : s.vm.classes[cX]? = some kX) (hcell : W0.heap[a]? = some (freshCell cX kX)) (hnew : s.heap.size ≤ a)
    {msg : Value} (hmsg : msg.isRef = true)
    {g : JFrame} (hg : g.method = m₀) (hsize : g.locals.size = c.maxLocals) (hlocked : g.locked = none) (hentered : g.entered = []) {rest : List Value} (hstack : g.stack = msg :: .ref a :: .ref a :: rest)
    (hd6 : decode c.code g.pc = .ok (.invokespecial 306, 3)) (hd9 : decode c.code (g.pc + 3) = .ok (.athrow, 1)) (hout : ∀ x ∈ c.exceptionTable.toList, covers x (g.pc + 3) = false)
    (hRframes : 5 < R.frames) (hRlocals : 2 * g.monitorRoom + ((Value.ref a :: rest).map fun v => v.category).sum + 81 ≤ R.locals) (hlocks : meth.locks = false) :
    ∃ U : State, Steps p.tables e below (W0.setTop g) U ∧ U.status = .running ∧ Ended U below (.threw a) ∧ s.WarmedH U.vm ∧ s.sameButNew ({ U with vm := s.vm } : State) locs cells slots ∧
      ∃ ce, U.heap[a]? = some ce ∧ ce.vm = .none ∧ s.vm.findClass os_nsX = some ce.cls := by
  have howns : e.platform.frameOwnsMonitors = true := by rw [X.admits.platform]
  have hfin : e.platform.finalization = false := by rw [X.admits.platform]
  have hpl : e.platform.magicAccessors = ({} : Platform).magicAccessors := by rw [X.admits.platform]
  have a' : ∀ x, x ∈ os_nsA → x.holds args s none s [] = true := fun x hx => h x hx
  obtain ⟨T, Z0, L, -, Y⟩ := ThrowableC.of_atoms (args := args) howns hfin hpl (fun x hx => h x (by simp only [os_nsA, List.mem_append]; exact Or.inl (Or.inl (Or.inl hx))))
  obtain ⟨Z, M, LZ, LM, hnZ⟩ := Init0T.ofS_atoms (args := args) hpl L Y (fun x hx => h x (by simp only [os_nsA, List.mem_append]; exact Or.inl (Or.inl (Or.inr hx))))
  obtain ⟨P1, L1, hP1m, hP1s⟩ := PassC.ofS_atoms (args := args) (s := s) hpl (X := os_nsX) (Y := "java/lang/RuntimeException") (by decide) (by decide) os_ns0 os_ns1 os_ns2 os_ns5 (fun x hx => h x (by simp only [os_nsA, List.mem_append]; exact Or.inl (Or.inr (Or.inl hx))))
  obtain ⟨P2, Ps, hlen, L2, hL, hP2m, hlink2, hlink⟩ := Bundle.chainS (args := args) hpl hnZ ["java/lang/Exception"] "java/lang/RuntimeException" (by decide) (by decide) (fun x hx => h x (by simp only [os_nsA, List.mem_append]; exact Or.inl (Or.inr (Or.inr hx))))
  have hsup : P1.sup = P2.m := Option.some.inj (hP1s.symm.trans hP2m)
  have hfound : s.vm.findClass os_nsX = some P1.m.cls := findClass_of_methodNamed hP1m
  cases Option.some.inj (hfoundX.symm.trans hfound)
  obtain ⟨c1, kX', hc1, hk, hord, -, -, hn6⟩ := Cond.instantiable_spec (a' (.instantiable os_nsX 6) (by simp [os_nsA]))
  cases Option.some.inj (hc1.symm.trans hfound)
  cases Option.some.inj (hkX.symm.trans hk)
  have hsel0 : selectMethod e.platform s.vm P1.m.cls T.fill0 = .method T.fill0 := by
    obtain ⟨c2, r2, m2, q1, q2, q3, q4, -⟩ := Cond.selects_spec (a' (.selects os_nsX Bundle.tFill0 Bundle.tFill0) (by simp [os_nsA]))
    cases Option.some.inj (q1.symm.trans hfound)
    cases Option.some.inj (q2.symm.trans (State.methodFound?_of_named Y.fill0 (by decide)))
    cases Option.some.inj (q3.symm.trans Y.fill0)
    rw [Launch.admits_selectMethod X.admits]; exact q4
  have hselF : selectMethod e.platform s.vm P1.m.cls T.fill = .method T.fill := by
    obtain ⟨c2, r2, m2, q1, q2, q3, q4, -⟩ := Cond.selects_spec (a' (.selects os_nsX Bundle.tFill Bundle.tFill) (by simp [os_nsA]))
    cases Option.some.inj (q1.symm.trans hfound)
    cases Option.some.inj (q2.symm.trans (State.methodFound?_of_named Y.fill (by decide)))
    cases Option.some.inj (q3.symm.trans Y.fill)
    rw [Launch.admits_selectMethod X.admits]; exact q4
  obtain ⟨cellS0, hcS0, hiss⟩ := Y.statics
  obtain ⟨u0, hu0⟩ := Cond.staticRefV Y.unassigned L.unassignedStatic L.statics hcS0 hiss (a' (.isRef (.static Bundle.tN "UNASSIGNED_STACK" Bundle.steD)) (by simp [os_nsA]))
  obtain ⟨sen, hsen⟩ := Cond.staticRefV Y.sentinel L.sentinelStatic L.statics hcS0 hiss (a' (.isRef (.static Bundle.tN "SUPPRESSED_SENTINEL" Bundle.listD)) (by simp [os_nsA]))
  obtain ⟨ci198, i198, fB, hk198, hg198, ha198, hsB, -, hnB, htB, hffB⟩ := Cond.ownField (t := .object "java/lang/Object") Y.found L.cls (by decide +kernel) (a' (.fieldLink Bundle.tN 198 Bundle.tN "backtrace" "Ljava/lang/Object;") (by simp [os_nsA])) (a' (.lays Bundle.tN Bundle.tN "backtrace" "Ljava/lang/Object;") (by simp [os_nsA])) e.platform hpl
  obtain ⟨cellS, hcS', heS, -, hkeep⟩ := X.same.2.2.2.2.2 T.aS cellS0 hcS0
  have hcellS : W0.heap[T.aS]? = some cellS := hcS'
  have hout' : ∀ i, (⟨T.aS, i⟩ : Loc) ∉ locs := fun i hmem => by
    have := hlocs _ hmem cellS0 hcS0
    rw [hiss] at this; cases this
  have hknownS : cellS.vm ≠ .unknown := by
    rw [heS]; intro hu
    rw [show cellS0.vm = .unknown from hu] at hiss
    cases hiss
  have hneS : T.aS ≠ a := Nat.ne_of_lt (Nat.lt_of_lt_of_le (Array.getElem?_eq_some_iff.mp hcS0).1 hnew)
  obtain ⟨iM, hffM⟩ := Y.msg
  obtain ⟨tyC, dC, hdC, hdnC⟩ := Cond.laysAt hfound hk Y.cause (a' (.lays os_nsX Bundle.tN "cause" "Ljava/lang/Throwable;") (by simp [os_nsA]))
  obtain ⟨tyS, dS, hdS, hdnS⟩ := Cond.laysAt hfound hk Y.stack (a' (.lays os_nsX Bundle.tN "stackTrace" Bundle.steD) (by simp [os_nsA]))
  obtain ⟨tyP, dP, hdP, hdnP⟩ := Cond.laysAt hfound hk Y.supp (a' (.lays os_nsX Bundle.tN "suppressedExceptions" Bundle.listD) (by simp [os_nsA]))
  obtain ⟨tyM, dM, hdM, hdnM⟩ := Cond.laysAt hfound hk hffM (a' (.lays os_nsX Bundle.tN "detailMessage" "Ljava/lang/String;") (by simp [os_nsA]))
  obtain ⟨tyB, dB, hdB, hdnB⟩ := Cond.laysAt hfound hk hffB (a' (.lays os_nsX Bundle.tN "backtrace" "Ljava/lang/Object;") (by simp [os_nsA]))
  have bC := Cond.laysApart hdB hdC hdnB hdnC (by rw [hnB, Y.causeName]; decide)
  have bS := Cond.laysApart hdB hdS hdnB hdnS (by rw [hnB, Y.stackName]; decide)
  have bP := Cond.laysApart hdB hdP hdnB hdnP (by rw [hnB, Y.suppName]; decide)
  have hskip : SkipFacts T e.platform s (fun u => u) u0 ((preparedCellV T.toThrowableT (freshCell P1.m.cls kX) a u0 sen).withEntry W0.cur) :=
    ⟨{ ci198 := ci198, i198 := i198, fBack := fB }, ⟨hk198, hg198, ha198, hsB⟩, by
      have := fresh_default (c := P1.m.cls) tyB
      rw [htB] at this
      simpa [preparedCellV, Cell.setSlot, Cell.withEntry, Array.getElem?_setIfInBounds, bC, bS, bP, bC.symm, bS.symm, bP.symm, defaultValue] using this, fun _ _ => rfl⟩
  obtain ⟨tm, methC, cdC, kC, vm₁, hnC, -, -, -, -, -, -, -, hW₁, st1⟩ := Steps.initColdS (tb := p.tables) (e := e) (below := below) (s := s) (U := W0) X.here hexec X.warmed hpl hown (t := Bundle.initS os_nsX) rfl rfl (by decide)
    (a' (.methodLink "RobotFaults" 306 (Bundle.initS os_nsX)) (by simp [os_nsA])) (h (.instanceMethod (Bundle.initS os_nsX)) (by simp [os_nsA, Bundle.passSAtoms])) (bytes := os_nsB) (maxL := 2) (h (.code (Bundle.initS os_nsX) os_nsB 2 none) (by simp [os_nsA, Bundle.passSAtoms]))
    (f := g) hg (a := a) (msg := msg) (rest := .ref a :: rest) hstack hd6
  cases Option.some.inj (hnC.symm.trans hP1m)
  have X₁ := X.noted hW₁
  have hlen1 : Ps.length = 1 := hlen
  obtain ⟨vm₂, X₂, st2⟩ := X₁.ctorMessageOffV hexec (g := { g with stack := .ref a :: rest }) hg hsize T L Z LZ M LM (P1 :: P2 :: Ps)
    (fun P hP => by
      rcases List.mem_cons.mp hP with rfl | hP
      · exact L1
      · rcases List.mem_cons.mp hP with rfl | hP
        · exact L2
        · exact hL P hP) ⟨hsup, hlink2, hlink⟩ (u0 := u0) (sen := sen) (self := a) hmsg (cell := freshCell P1.m.cls kX) (cellS := cellS)
    hcell (fun _ => by simp) (by simp) rfl rfl hsel0 hselF hcellS hneS hknownS (by rw [hkeep _ (hout' _)]; exact hu0) (by rw [hkeep _ (hout' _)]; exact hsen)
    (Takes.of_laid hk hord tyC (by rw [Y.causeType]; rfl)) (Takes.of_laid hk hord tyS (by rw [Y.stackType]; exact fits_refV_array _ u0)) (Takes.of_laid hk hord tyP (by rw [Y.suppType]; exact fits_refV_object _ sen))
    (Takes.of_laid hk hord tyM (by rw [Y.msgType]; exact fits_refV_object _ ⟨msg, hmsg⟩)) Y.objLocals hskip htr [] hd6
    (by simp only [List.length_cons, hlen1]; omega) (by simp only [List.length_cons, hlen1]; exact hRlocals)
  obtain ⟨hwalk, hrun, hended, hWU, hsame⟩ := X₂.athrowLeaves hexec (g := { g with stack := .ref a :: rest, pc := g.pc + 3 }) hg hlocked hentered hout (a := a) (rest := rest) rfl hd9
  have hlt : a < ((W0.setVm vm₁).setVm vm₂).heap.size := (Array.getElem?_eq_some_iff.mp hcell).1
  have hU := heapAt_setCell_self (s := (W0.setVm vm₁).setVm vm₂) (plainBareV T.toThrowableT (freshCell P1.m.cls kX) a u0 sen msg) hlt
  refine ⟨_, st1 _ (fun acts => ?_), hrun, hended, hWU, hsame.weaken (fun y hy hlt' => ?_) (Nat.le_refl _) (Nat.le_refl _), _, hU, rfl, hfound⟩
  · rw [doInvoke_state]
    exact st2 _ hwalk
  · rcases List.mem_append.mp hy with h1 | h1
    · exact h1
    · exfalso
      have hb : y.base = a := by
        simp only [List.mem_cons, List.not_mem_nil, or_false] at h1
        rcases h1 with rfl | rfl | rfl | rfl | rfl <;> rfl
      rw [hb] at hlt'
      exact Nat.not_lt.mpr hnew hlt'
end OSE
theorem th_ns : ∀ w ∈ os_nsA.filter os_no, w ∈ os_tb := os_sub (by decide +kernel) (by decide +kernel)
section OSX
variable {p : Program} {l : Launch} {e : Env} {R : Room} {s : State} {m : MethodId} {args : Array Value} {below : List Frame} {meth : Method} {c : Code} {H : Heap} {locs : List Loc} {cells slots : Nat} {Q : State → Prop}
variable {cc : ByteArray} {pc : Nat} {ls : Array Slot} {rest st0 : List Value} {D : va_G} {cA : Nat → ClassId} {bs : Nat} {σ σ0 : os_S} {ad ad0 : Nat → Nat → Nat} {tys : List (ClassId × FieldType)}
variable {rm : Room} {Post : os_O → os_S → (Nat → Nat → Nat) → Prop}
/-- 'throw new E("text")': new; dup; ldc; invokespecial; athrow, in a body without handlers; the text by a wide index -/
theorem os_throwNW {text : String} {ik is : Nat} (hx : p.tables.exec = Jvm.exec) (hb : c.code = cc) (hl : l.stackTraces = false) (hown : s.vm.findClass "RobotFaults" = some m.cls)
    (hE : os_EV D cA bs s) (hV : os_V D cA bs σ0 ad0 s σ ad H locs) (hk : Cond.classLink "RobotFaults" ik os_nsX ∈ os_tb) (hini : Cond.initialized os_nsX ∈ os_tb) (hstr : ("RobotFaults", is, text) ∈ os_str)
    (hsize : ls.size = c.maxLocals) (d0 : decode cc pc = .ok (.new ik, 3)) (d3 : decode cc (pc + 3) = .ok (.dup, 1)) (d4 : decode cc (pc + 4) = .ok (.ldc_w is, 3)) (d6 : decode cc (pc + 7) = .ok (.invokespecial 306, 3)) (d9 : decode cc (pc + 10) = .ok (.athrow, 1))
    (hout : ∀ x ∈ c.exceptionTable.toList, False) (hlocks : meth.locks = false) (hRf : 5 < R.frames) (hRl : (rest.map fun v => v.category).sum + 82 ≤ R.locals) (hRc : cells + 1 ≤ R.cells) (hRs : slots + 6 ≤ R.slots) (hc : cells + 1 ≤ rm.cells) (hs : slots + 6 ≤ rm.slots) (hp : Post (.inr os_nsX) σ ad) :
    W p l e R s m args below meth c H locs cells slots (os_End D cA bs below s σ0 ad0 rm Post) (F0 m pc ls rest) := by
  intro T hT X
  have htr : e.platform.stackTraces = false := (show e.platform.stackTraces = l.stackTraces by rw [X.admits.platform]).trans hl
  have Y := os_rebase X (R' := { frames := R.frames, locals := R.locals, cells := 1, slots := 6 }) (Nat.le_refl _) (Nat.le_refl _) hRc hRs
  obtain ⟨s', hA⟩ : ∃ z, z = (T.setVm s.vm).setFrames (.invoking m args :: below) := ⟨_, rfl⟩
  rw [← hA] at Y
  have hvm : s'.vm = s.vm := by rw [hA]; rfl
  have hhp : s'.heap = H := by rw [hA]; exact hT
  have hW0 : s.WarmedH s'.vm := by rw [hvm]; exact State.WarmedH.refl s
  have hE' : os_EV D cA bs s' := hE.moved hW0 (by rw [hhp]; exact hV.2.2.1) (fun q hq => by rw [hhp]; exact hV.low hE.2.2.1 q hq)
  have h : ∀ w ∈ os_nsA, w.before args s' = true := os_own hE' th_ns
  have hown' : s'.vm.findClass "RobotFaults" = some m.cls := by rw [hvm]; exact hown
  have hins : (Cond.instantiable os_nsX 6).before args s' = true := h _ (by simp [os_nsA])
  obtain ⟨vm₁, cX, kX, hfX, hkX, -, -, X₁, st1⟩ := Y.newCold hx (own := "RobotFaults") (C := os_nsX) (index := ik) (n := 6) hown' (hE'.hts _ hk) hins (hE'.hts _ hini)
    (g := F0 m pc ls rest) rfl (by rw [hb]; exact d0) (Nat.le_refl _) (Nat.le_refl _)
  generalize hT1 : (T.setVm vm₁).pushCell { cls := cX, slots := kX.instanceTypes.map defaultValue, vm := .none } = T1 at X₁ st1
  have hcat : (Value.ref T.heap.size).category = 1 := rfl
  have hcellA : T1.heap[T.heap.size]? = some (freshCell cX kX) := by rw [← hT1]; exact State.heap_pushCell_size _ _
  have d3' : decode c.code (pc + 3) = .ok (.dup, 1) := by rw [hb]; exact d3
  have d4' : decode c.code (pc + 4) = .ok (.ldc_w is, 3) := by rw [hb]; exact d4
  obtain ⟨sa, hstr'⟩ := hE'.2.2.2.2.2 _ hstr
  obtain ⟨U, hsteps, hrun, hend, hW, hsame, ce, hce, hcv, hcl9⟩ := os_nsThrow X₁ hx htr hown' h (fun x hx => nomatch hx) hfX hkX hcellA (by rw [hhp, hT]; exact Nat.le_refl _) (msg := .ref sa) rfl
    (g := { method := m, pc := pc + 7, locals := ls, stack := .ref sa :: .ref T.heap.size :: .ref T.heap.size :: rest, locked := none }) rfl hsize rfl rfl (rest := rest) rfl
    (by rw [hb]; exact d6) (by rw [hb]; exact d9) (fun x hx => (hout x hx).elim) hRf (by simp only [List.map_cons, List.sum_cons, hcat]; omega) hlocks
  obtain ⟨f1, f2⟩ := os_frame hsame
  rw [hhp] at f1 f2
  have hWs : s.WarmedH U.vm := State.WarmedH.trans hW0 hW
  have hcl : s.vm.findClass os_nsX = some ce.cls := by
    rw [hvm] at hcl9
    exact hcl9
  have hall : s.sameButNew ({ U with vm := s.vm } : State) locs rm.cells rm.slots := by
    subst hA
    obtain ⟨e1, e2⟩ := hsame
    rw [State.setFrames_setFrames] at e1
    have h2 : (T.setVm s.vm).sameButNew ({ U with vm := s.vm } : State) [] (0 + 1) (0 + 6) := ⟨e1, e2⟩
    have h3 := X.same.trans h2
    rw [List.append_nil] at h3
    exact h3.mono hc hs
  have hWU : os_W D cA bs σ ad U.heap := by
    obtain ⟨w1, w2, w3, w4⟩ := hV.1
    exact ⟨fun K i hi => (w1 K i hi).to rfl (f2 _ (w1 K i hi).lt (fun z hz => nomatch hz)) rfl (fun _ => rfl), w2, w3, w4⟩
  refine ⟨U, ?_, .threw T.heap.size, hrun, hend, .inr os_nsX, σ, ad, ⟨T.heap.size, ce, rfl, hce, hcv, hcl⟩, hp, hWU, hV.2.1, hWs, locs, hall, hV.2.2.2.2⟩
  refine st1 _ ?_
  show Steps p.tables e below (T1.setTop { method := m, pc := pc + 3, locals := ls, stack := .ref T.heap.size :: rest, locked := none }) _
  jvm_step X₁.here [X₁.here.top, hx, d3', Value.category]
  exact X₁.ldcStringW hx (own := "RobotFaults") (text := text) (index := is) (a := sa) hown' hstr'.1 hstr'.2
    (g := { method := m, pc := pc + 4, locals := ls, stack := .ref T.heap.size :: .ref T.heap.size :: rest, locked := none }) rfl d4' _ hsteps
/-- 'throw new E("text")': new; dup; ldc; invokespecial; athrow, in a body without handlers; the text by a wide index -/
theorem os_throwN {text : String} {ik is : Nat} (hx : p.tables.exec = Jvm.exec) (hb : c.code = cc) (hl : l.stackTraces = false) (hown : s.vm.findClass "RobotFaults" = some m.cls)
    (hE : os_EV D cA bs s) (hV : os_V D cA bs σ0 ad0 s σ ad H locs) (hk : Cond.classLink "RobotFaults" ik os_nsX ∈ os_tb) (hini : Cond.initialized os_nsX ∈ os_tb) (hstr : ("RobotFaults", is, text) ∈ os_str)
    (hsize : ls.size = c.maxLocals) (d0 : decode cc pc = .ok (.new ik, 3)) (d3 : decode cc (pc + 3) = .ok (.dup, 1)) (d4 : decode cc (pc + 4) = .ok (.ldc is, 2)) (d6 : decode cc (pc + 6) = .ok (.invokespecial 306, 3)) (d9 : decode cc (pc + 9) = .ok (.athrow, 1))
    (hout : ∀ x ∈ c.exceptionTable.toList, False) (hlocks : meth.locks = false) (hRf : 5 < R.frames) (hRl : (rest.map fun v => v.category).sum + 82 ≤ R.locals) (hRc : cells + 1 ≤ R.cells) (hRs : slots + 6 ≤ R.slots) (hc : cells + 1 ≤ rm.cells) (hs : slots + 6 ≤ rm.slots) (hp : Post (.inr os_nsX) σ ad) :
    W p l e R s m args below meth c H locs cells slots (os_End D cA bs below s σ0 ad0 rm Post) (F0 m pc ls rest) := by
  intro T hT X
  have htr : e.platform.stackTraces = false := (show e.platform.stackTraces = l.stackTraces by rw [X.admits.platform]).trans hl
  have Y := os_rebase X (R' := { frames := R.frames, locals := R.locals, cells := 1, slots := 6 }) (Nat.le_refl _) (Nat.le_refl _) hRc hRs
  obtain ⟨s', hA⟩ : ∃ z, z = (T.setVm s.vm).setFrames (.invoking m args :: below) := ⟨_, rfl⟩
  rw [← hA] at Y
  have hvm : s'.vm = s.vm := by rw [hA]; rfl
  have hhp : s'.heap = H := by rw [hA]; exact hT
  have hW0 : s.WarmedH s'.vm := by rw [hvm]; exact State.WarmedH.refl s
  have hE' : os_EV D cA bs s' := hE.moved hW0 (by rw [hhp]; exact hV.2.2.1) (fun q hq => by rw [hhp]; exact hV.low hE.2.2.1 q hq)
  have h : ∀ w ∈ os_nsA, w.before args s' = true := os_own hE' th_ns
  have hown' : s'.vm.findClass "RobotFaults" = some m.cls := by rw [hvm]; exact hown
  have hins : (Cond.instantiable os_nsX 6).before args s' = true := h _ (by simp [os_nsA])
  obtain ⟨vm₁, cX, kX, hfX, hkX, -, -, X₁, st1⟩ := Y.newCold hx (own := "RobotFaults") (C := os_nsX) (index := ik) (n := 6) hown' (hE'.hts _ hk) hins (hE'.hts _ hini)
    (g := F0 m pc ls rest) rfl (by rw [hb]; exact d0) (Nat.le_refl _) (Nat.le_refl _)
  generalize hT1 : (T.setVm vm₁).pushCell { cls := cX, slots := kX.instanceTypes.map defaultValue, vm := .none } = T1 at X₁ st1
  have hcat : (Value.ref T.heap.size).category = 1 := rfl
  have hcellA : T1.heap[T.heap.size]? = some (freshCell cX kX) := by rw [← hT1]; exact State.heap_pushCell_size _ _
  have d3' : decode c.code (pc + 3) = .ok (.dup, 1) := by rw [hb]; exact d3
  have d4' : decode c.code (pc + 4) = .ok (.ldc is, 2) := by rw [hb]; exact d4
  obtain ⟨sa, hstr'⟩ := hE'.2.2.2.2.2 _ hstr
  obtain ⟨U, hsteps, hrun, hend, hW, hsame, ce, hce, hcv, hcl9⟩ := os_nsThrow X₁ hx htr hown' h (fun x hx => nomatch hx) hfX hkX hcellA (by rw [hhp, hT]; exact Nat.le_refl _) (msg := .ref sa) rfl
    (g := { method := m, pc := pc + 6, locals := ls, stack := .ref sa :: .ref T.heap.size :: .ref T.heap.size :: rest, locked := none }) rfl hsize rfl rfl (rest := rest) rfl
    (by rw [hb]; exact d6) (by rw [hb]; exact d9) (fun x hx => (hout x hx).elim) hRf (by simp only [List.map_cons, List.sum_cons, hcat]; omega) hlocks
  obtain ⟨f1, f2⟩ := os_frame hsame
  rw [hhp] at f1 f2
  have hWs : s.WarmedH U.vm := State.WarmedH.trans hW0 hW
  have hcl : s.vm.findClass os_nsX = some ce.cls := by
    rw [hvm] at hcl9
    exact hcl9
  have hall : s.sameButNew ({ U with vm := s.vm } : State) locs rm.cells rm.slots := by
    subst hA
    obtain ⟨e1, e2⟩ := hsame
    rw [State.setFrames_setFrames] at e1
    have h2 : (T.setVm s.vm).sameButNew ({ U with vm := s.vm } : State) [] (0 + 1) (0 + 6) := ⟨e1, e2⟩
    have h3 := X.same.trans h2
    rw [List.append_nil] at h3
    exact h3.mono hc hs
  have hWU : os_W D cA bs σ ad U.heap := by
    obtain ⟨w1, w2, w3, w4⟩ := hV.1
    exact ⟨fun K i hi => (w1 K i hi).to rfl (f2 _ (w1 K i hi).lt (fun z hz => nomatch hz)) rfl (fun _ => rfl), w2, w3, w4⟩
  refine ⟨U, ?_, .threw T.heap.size, hrun, hend, .inr os_nsX, σ, ad, ⟨T.heap.size, ce, rfl, hce, hcv, hcl⟩, hp, hWU, hV.2.1, hWs, locs, hall, hV.2.2.2.2⟩
  refine st1 _ ?_
  show Steps p.tables e below (T1.setTop { method := m, pc := pc + 3, locals := ls, stack := .ref T.heap.size :: rest, locked := none }) _
  jvm_step X₁.here [X₁.here.top, hx, d3', Value.category]
  exact X₁.ldcString hx (own := "RobotFaults") (text := text) (index := is) (a := sa) hown' hstr'.1 hstr'.2
    (g := { method := m, pc := pc + 4, locals := ls, stack := .ref T.heap.size :: .ref T.heap.size :: rest, locked := none }) rfl d4' _ hsteps
end OSX
end
section
/-! THE CLASS'S SMALL METHODS -/
def bz (b : Bool) : Int32 := if b = true then 1 else 0
theorem bz_nar (b : Bool) : narrow .boolean (.int (bz b)) = .int (bz b) := by cases b <;> rfl
theorem bz_1 {b : Bool} (h : ¬ bz b = 0) : b = true := by cases b with
  | true => rfl
  | false => exact absurd rfl h
theorem bz_0 {b : Bool} (h : bz b = 0) : b = false := by cases b with
  | true => cases h
  | false => rfl
/-- it changes nothing and returns v -/
def pv (σ : os_S) (ad : Nat → Nat → Nat) (v : Option Value) : os_O → os_S → (Nat → Nat → Nat) → Prop := fun r σ' ad' => σ = σ' ∧ ad = ad' ∧ r = .inl v
/-- it changes nothing, returns v where c holds, else throws E -/
def pt (σ : os_S) (ad : Nat → Nat → Nat) (c : Prop) (v : Option Value) (E : String) : os_O → os_S → (Nat → Nat → Nat) → Prop := fun r σ' ad' => σ = σ' ∧ ad = ad' ∧ ((c ∧ r = .inl v) ∨ (¬ c ∧ r = .inr E))
def rf_holds (x k : Int32) : Bool := decide ((x >>> (k &&& 31)) &&& 1 = 1)
set_option maxHeartbeats 4000000 in
set_option maxRecDepth 100000 in
theorem c_RF_holds (l : Launch) (hlt : l.stackTraces = false) (D : va_G) (cA : Nat → ClassId) (bs : Nat) (σ : os_S) (ad : Nat → Nat → Nat) (x k : Int32) : os_Met l y_RF_holds prog_1_method_30_code 2 (some .boolean) { frames := 0, cells := 0, slots := 0, locals := 0 } D cA bs [.int x, .int k] σ ad (pv σ ad (some (.int (bz (rf_holds x k))))) := by
  refine os_ofW (by decide) ?_
  intro p e s m below meth c hx hb hr hml hown hlocks hmn hout hE hV
  have hts := hE.hts (args := ([.int x, .int k] : List Value).toArray)
  have hK := hE.2.1
  have hbs := hE.2.2.1
  have hown : s.vm.findClass "RobotFaults" = some m.cls := hown
  have hl := lv_entry ([.int x, .int k]) (n := 2) (Nat.le_of_ble_eq_true rfl)
  rw [lg_entry_eq]
  generalize (lg_sl ([.int x, .int k]) ++ List.replicate (2 - (lg_sl ([.int x, .int k])).length) Slot.unset).toArray = ls at hl ⊢
  have hl : lv_has ls 2 [(0, .int x), (1, .int k)] := hl
  refine lv_iload_n hx hb d_RF_holds_0 rfl (lv_at hl 0 rfl) ?_
  refine lv_iload_n hx hb d_RF_holds_1 rfl (lv_at hl 1 rfl) ?_
  refine lv_ishr hx hb d_RF_holds_2 ?_
  refine lv_iconst (v := 1) hx hb d_RF_holds_3 (by decide) ?_
  refine lv_iand hx hb d_RF_holds_4 ?_
  refine lv_iconst (v := 1) hx hb d_RF_holds_5 (by decide) ?_
  refine lv_icmp_ne (tgt := 13) hx hb d_RF_holds_6 (by decide) (fun c_1 => ?_) (fun c_1 => ?_)
  · skip
    refine lv_iconst (v := 0) hx hb d_RF_holds_13 (by decide) ?_
    refine os_zret hx hb hr rfl hlocks hV (Nat.le_of_ble_eq_true rfl) (Nat.le_of_ble_eq_true rfl) d_RF_holds_14 ?_
    exact ⟨rfl, rfl, by simp [bz, rf_holds, c_1]⟩
  · skip
    refine lv_iconst (v := 1) hx hb d_RF_holds_9 (by decide) ?_
    refine lv_goto (tgt := 14) hx hb d_RF_holds_10 (by decide) ?_
    refine os_zret hx hb hr rfl hlocks hV (Nat.le_of_ble_eq_true rfl) (Nat.le_of_ble_eq_true rfl) d_RF_holds_14 ?_
    exact ⟨rfl, rfl, by simp [bz, rf_holds, c_1]⟩
set_option maxHeartbeats 4000000 in
set_option maxRecDepth 100000 in
theorem c_RF_needKind (l : Launch) (hlt : l.stackTraces = false) (D : va_G) (cA : Nat → ClassId) (bs : Nat) (σ : os_S) (ad : Nat → Nat → Nat) (k : Int32) : os_Met l y_RF_needKind prog_1_method_27_code 1 none { frames := 6, cells := 1, slots := 6, locals := 96 } D cA bs [.int k] σ ad (pt σ ad (¬ k < 0 ∧ k < 8) none "java/lang/IllegalArgumentException") := by
  refine os_ofW (by decide) ?_
  intro p e s m below meth c hx hb hr hml hown hlocks hmn hout hE hV
  have hts := hE.hts (args := ([.int k] : List Value).toArray)
  have hK := hE.2.1
  have hbs := hE.2.2.1
  have hown : s.vm.findClass "RobotFaults" = some m.cls := hown
  have hl := lv_entry ([.int k]) (n := 1) (Nat.le_of_ble_eq_true rfl)
  rw [lg_entry_eq]
  generalize (lg_sl ([.int k]) ++ List.replicate (1 - (lg_sl ([.int k])).length) Slot.unset).toArray = ls at hl ⊢
  have hl : lv_has ls 1 [(0, .int k)] := hl
  refine lv_iload_n hx hb d_RF_needKind_0 rfl (lv_at hl 0 rfl) ?_
  refine lv_if_lt (tgt := 10) hx hb d_RF_needKind_1 (by decide) (fun c_1 => ?_) (fun c_1 => ?_)
  · skip
    refine os_throwW (own := "RobotFaults") (cls := "java/lang/IllegalArgumentException") (text := "a kind is 0 to 7") (names := ["java/lang/RuntimeException", "java/lang/Exception"]) hx hb hlt hown (by decide) (by decide) hE hV k_261 k_10 (by decide +kernel) th_IllegalArgumentException (hl.1.trans hml.symm) d_RF_needKind_10 d_RF_needKind_13 d_RF_needKind_14 d_RF_needKind_17 d_RF_needKind_20 hout hlocks (Nat.le_of_ble_eq_true rfl) (Nat.le_of_ble_eq_true rfl) (Nat.le_of_ble_eq_true rfl) (Nat.le_of_ble_eq_true rfl) (Nat.le_of_ble_eq_true rfl) (Nat.le_of_ble_eq_true rfl) ?_
    exact ⟨rfl, rfl, Or.inr ⟨(fun h => by simp_all), rfl⟩⟩
  · skip
    refine lv_iload_n hx hb d_RF_needKind_4 rfl (lv_at hl 0 rfl) ?_
    refine lv_bipush (v := 8) hx hb d_RF_needKind_5 (by decide) ?_
    refine lv_icmp_lt (tgt := 21) hx hb d_RF_needKind_7 (by decide) (fun c_2 => ?_) (fun c_2 => ?_)
    · skip
      refine os_vret hx hb hr hlocks hV (Nat.le_of_ble_eq_true rfl) (Nat.le_of_ble_eq_true rfl) d_RF_needKind_21 ?_
      exact ⟨rfl, rfl, Or.inl ⟨⟨by simpa using c_1, by simpa using c_2⟩, rfl⟩⟩
    · skip
      refine os_throwW (own := "RobotFaults") (cls := "java/lang/IllegalArgumentException") (text := "a kind is 0 to 7") (names := ["java/lang/RuntimeException", "java/lang/Exception"]) hx hb hlt hown (by decide) (by decide) hE hV k_261 k_10 (by decide +kernel) th_IllegalArgumentException (hl.1.trans hml.symm) d_RF_needKind_10 d_RF_needKind_13 d_RF_needKind_14 d_RF_needKind_17 d_RF_needKind_20 hout hlocks (Nat.le_of_ble_eq_true rfl) (Nat.le_of_ble_eq_true rfl) (Nat.le_of_ble_eq_true rfl) (Nat.le_of_ble_eq_true rfl) (Nat.le_of_ble_eq_true rfl) (Nat.le_of_ble_eq_true rfl) ?_
      exact ⟨rfl, rfl, Or.inr ⟨(fun h => by simp_all), rfl⟩⟩
set_option maxHeartbeats 4000000 in
set_option maxRecDepth 100000 in
theorem c_RF_needPerson (l : Launch) (hlt : l.stackTraces = false) (D : va_G) (cA : Nat → ClassId) (bs : Nat) (σ : os_S) (ad : Nat → Nat → Nat) (k : Int32) : os_Met l y_RF_needPerson prog_1_method_28_code 1 none { frames := 6, cells := 1, slots := 6, locals := 96 } D cA bs [.int k] σ ad (pt σ ad (¬ k < 0 ∧ k < 8) none "java/lang/IllegalArgumentException") := by
  refine os_ofW (by decide) ?_
  intro p e s m below meth c hx hb hr hml hown hlocks hmn hout hE hV
  have hts := hE.hts (args := ([.int k] : List Value).toArray)
  have hK := hE.2.1
  have hbs := hE.2.2.1
  have hown : s.vm.findClass "RobotFaults" = some m.cls := hown
  have hl := lv_entry ([.int k]) (n := 1) (Nat.le_of_ble_eq_true rfl)
  rw [lg_entry_eq]
  generalize (lg_sl ([.int k]) ++ List.replicate (1 - (lg_sl ([.int k])).length) Slot.unset).toArray = ls at hl ⊢
  have hl : lv_has ls 1 [(0, .int k)] := hl
  refine lv_iload_n hx hb d_RF_needPerson_0 rfl (lv_at hl 0 rfl) ?_
  refine lv_if_lt (tgt := 10) hx hb d_RF_needPerson_1 (by decide) (fun c_1 => ?_) (fun c_1 => ?_)
  · skip
    refine os_throwW (own := "RobotFaults") (cls := "java/lang/IllegalArgumentException") (text := "a person is 0 to 7") (names := ["java/lang/RuntimeException", "java/lang/Exception"]) hx hb hlt hown (by decide) (by decide) hE hV k_261 k_10 (by decide +kernel) th_IllegalArgumentException (hl.1.trans hml.symm) d_RF_needPerson_10 d_RF_needPerson_13 d_RF_needPerson_14 d_RF_needPerson_17 d_RF_needPerson_20 hout hlocks (Nat.le_of_ble_eq_true rfl) (Nat.le_of_ble_eq_true rfl) (Nat.le_of_ble_eq_true rfl) (Nat.le_of_ble_eq_true rfl) (Nat.le_of_ble_eq_true rfl) (Nat.le_of_ble_eq_true rfl) ?_
    exact ⟨rfl, rfl, Or.inr ⟨(fun h => by simp_all), rfl⟩⟩
  · skip
    refine lv_iload_n hx hb d_RF_needPerson_4 rfl (lv_at hl 0 rfl) ?_
    refine lv_bipush (v := 8) hx hb d_RF_needPerson_5 (by decide) ?_
    refine lv_icmp_lt (tgt := 21) hx hb d_RF_needPerson_7 (by decide) (fun c_2 => ?_) (fun c_2 => ?_)
    · skip
      refine os_vret hx hb hr hlocks hV (Nat.le_of_ble_eq_true rfl) (Nat.le_of_ble_eq_true rfl) d_RF_needPerson_21 ?_
      exact ⟨rfl, rfl, Or.inl ⟨⟨by simpa using c_1, by simpa using c_2⟩, rfl⟩⟩
    · skip
      refine os_throwW (own := "RobotFaults") (cls := "java/lang/IllegalArgumentException") (text := "a person is 0 to 7") (names := ["java/lang/RuntimeException", "java/lang/Exception"]) hx hb hlt hown (by decide) (by decide) hE hV k_261 k_10 (by decide +kernel) th_IllegalArgumentException (hl.1.trans hml.symm) d_RF_needPerson_10 d_RF_needPerson_13 d_RF_needPerson_14 d_RF_needPerson_17 d_RF_needPerson_20 hout hlocks (Nat.le_of_ble_eq_true rfl) (Nat.le_of_ble_eq_true rfl) (Nat.le_of_ble_eq_true rfl) (Nat.le_of_ble_eq_true rfl) (Nat.le_of_ble_eq_true rfl) (Nat.le_of_ble_eq_true rfl) ?_
      exact ⟨rfl, rfl, Or.inr ⟨(fun h => by simp_all), rfl⟩⟩
set_option maxHeartbeats 4000000 in
set_option maxRecDepth 100000 in
theorem c_Fault_isOpen (l : Launch) (hlt : l.stackTraces = false) (D : va_G) (cA : Nat → ClassId) (bs : Nat) (σ : os_S) (ad : Nat → Nat → Nat) (i : Nat) (hi : i < os_n σ 10) : os_Met l y_Fault_isOpen prog_3_method_2_code 1 (some .boolean) { frames := 0, cells := 0, slots := 0, locals := 0 } D cA bs [.ref (ad 10 i)] σ ad (pv σ ad (some (.int (bz (decide (os_g σ 10 10 i = -1)))))) := by
  refine os_ofW (by decide) ?_
  intro p e s m below meth c hx hb hr hml hown hlocks hmn hout hE hV
  have hts := hE.hts (args := ([.ref (ad 10 i)] : List Value).toArray)
  have hK := hE.2.1
  have hbs := hE.2.2.1
  have hown : s.vm.findClass "RobotFaults$Fault" = some m.cls := hown
  have hl := lv_entry ([.ref (ad 10 i)]) (n := 1) (Nat.le_of_ble_eq_true rfl)
  rw [lg_entry_eq]
  generalize (lg_sl ([.ref (ad 10 i)]) ++ List.replicate (1 - (lg_sl ([.ref (ad 10 i)])).length) Slot.unset).toArray = ls at hl ⊢
  have hl : lv_has ls 1 [(0, .ref (ad 10 i))] := hl
  refine lv_aload_n hx hb d_Fault_isOpen_0 rfl (lv_at hl 0 rfl) ?_
  refine os_get (C := "RobotFaults$Fault") (T := F_Fault) (N := 11) (ci := 4) (K := 10) (j := 10) (i := i) (v := .int (os_g σ 10 10 i)) hx hb hts i_Fault hown hK hV rfl rfl (by decide) hi (hts _ k_439) rfl d_Fault_isOpen_1 ?_
  refine lv_iconst (v := (-1)) hx hb d_Fault_isOpen_4 (by decide) ?_
  refine lv_icmp_ne (tgt := 12) hx hb d_Fault_isOpen_5 (by decide) (fun c_1 => ?_) (fun c_1 => ?_)
  · skip
    refine lv_iconst (v := 0) hx hb d_Fault_isOpen_12 (by decide) ?_
    refine os_zret hx hb hr rfl hlocks hV (Nat.le_of_ble_eq_true rfl) (Nat.le_of_ble_eq_true rfl) d_Fault_isOpen_13 ?_
    exact ⟨rfl, rfl, by simp [bz, c_1]⟩
  · skip
    refine lv_iconst (v := 1) hx hb d_Fault_isOpen_8 (by decide) ?_
    refine lv_goto (tgt := 13) hx hb d_Fault_isOpen_9 (by decide) ?_
    refine os_zret hx hb hr rfl hlocks hV (Nat.le_of_ble_eq_true rfl) (Nat.le_of_ble_eq_true rfl) d_Fault_isOpen_13 ?_
    exact ⟨rfl, rfl, by simp [bz, c_1]⟩
set_option maxHeartbeats 4000000 in
set_option maxRecDepth 100000 in
theorem c_Alarm_isAcknowledged (l : Launch) (hlt : l.stackTraces = false) (D : va_G) (cA : Nat → ClassId) (bs : Nat) (σ : os_S) (ad : Nat → Nat → Nat) (i : Nat) (hi : i < os_n σ 11) : os_Met l y_Alarm_isAcknowledged prog_2_method_2_code 1 (some .boolean) { frames := 0, cells := 0, slots := 0, locals := 0 } D cA bs [.ref (ad 11 i)] σ ad (pv σ ad (some (.int (bz (decide (¬ os_g σ 11 6 i = -1)))))) := by
  refine os_ofW (by decide) ?_
  intro p e s m below meth c hx hb hr hml hown hlocks hmn hout hE hV
  have hts := hE.hts (args := ([.ref (ad 11 i)] : List Value).toArray)
  have hK := hE.2.1
  have hbs := hE.2.2.1
  have hown : s.vm.findClass "RobotFaults$Alarm" = some m.cls := hown
  have hl := lv_entry ([.ref (ad 11 i)]) (n := 1) (Nat.le_of_ble_eq_true rfl)
  rw [lg_entry_eq]
  generalize (lg_sl ([.ref (ad 11 i)]) ++ List.replicate (1 - (lg_sl ([.ref (ad 11 i)])).length) Slot.unset).toArray = ls at hl ⊢
  have hl : lv_has ls 1 [(0, .ref (ad 11 i))] := hl
  refine lv_aload_n hx hb d_Alarm_isAcknowledged_0 rfl (lv_at hl 0 rfl) ?_
  refine os_get (C := "RobotFaults$Alarm") (T := F_Alarm) (N := 8) (ci := 5) (K := 11) (j := 6) (i := i) (v := .int (os_g σ 11 6 i)) hx hb hts i_Alarm hown hK hV rfl rfl (by decide) hi (hts _ k_493) rfl d_Alarm_isAcknowledged_1 ?_
  refine lv_iconst (v := (-1)) hx hb d_Alarm_isAcknowledged_4 (by decide) ?_
  refine lv_icmp_eq (tgt := 12) hx hb d_Alarm_isAcknowledged_5 (by decide) (fun c_1 => ?_) (fun c_1 => ?_)
  · skip
    refine lv_iconst (v := 0) hx hb d_Alarm_isAcknowledged_12 (by decide) ?_
    refine os_zret hx hb hr rfl hlocks hV (Nat.le_of_ble_eq_true rfl) (Nat.le_of_ble_eq_true rfl) d_Alarm_isAcknowledged_13 ?_
    exact ⟨rfl, rfl, by simp [bz, c_1]⟩
  · skip
    refine lv_iconst (v := 1) hx hb d_Alarm_isAcknowledged_8 (by decide) ?_
    refine lv_goto (tgt := 13) hx hb d_Alarm_isAcknowledged_9 (by decide) ?_
    refine os_zret hx hb hr rfl hlocks hV (Nat.le_of_ble_eq_true rfl) (Nat.le_of_ble_eq_true rfl) d_Alarm_isAcknowledged_13 ?_
    exact ⟨rfl, rfl, by simp [bz, c_1]⟩
set_option maxHeartbeats 4000000 in
set_option maxRecDepth 100000 in
theorem c_RF_needLost (l : Launch) (hlt : l.stackTraces = false) (D : va_G) (cA : Nat → ClassId) (bs : Nat) (σ : os_S) (ad : Nat → Nat → Nat) (i : Nat) (hi : i < os_n σ 9) : os_Met l y_RF_needLost prog_1_method_29_code 1 none { frames := 6, cells := 1, slots := 6, locals := 96 } D cA bs [.ref (ad 9 i)] σ ad (pt σ ad (os_g σ 9 2 i = 2) none "java/lang/IllegalStateException") := by
  refine os_ofW (by decide) ?_
  intro p e s m below meth c hx hb hr hml hown hlocks hmn hout hE hV
  have hts := hE.hts (args := ([.ref (ad 9 i)] : List Value).toArray)
  have hK := hE.2.1
  have hbs := hE.2.2.1
  have hown : s.vm.findClass "RobotFaults" = some m.cls := hown
  have hl := lv_entry ([.ref (ad 9 i)]) (n := 1) (Nat.le_of_ble_eq_true rfl)
  rw [lg_entry_eq]
  generalize (lg_sl ([.ref (ad 9 i)]) ++ List.replicate (1 - (lg_sl ([.ref (ad 9 i)])).length) Slot.unset).toArray = ls at hl ⊢
  have hl : lv_has ls 1 [(0, .ref (ad 9 i))] := hl
  refine lv_aload_n hx hb d_RF_needLost_0 rfl (lv_at hl 0 rfl) ?_
  refine os_getN (C := "RobotFaults$Robot") (T := F_Robot) (N := 6) (ci := 3) (K := 9) (j := 2) (i := i) (v := .int (os_g σ 9 2 i)) hx hb hts i_Robot hown hK hV rfl rfl (by decide) hi (hts _ k_300) rfl d_RF_needLost_1 ?_
  refine lv_iconst (v := 2) hx hb d_RF_needLost_4 (by decide) ?_
  refine lv_icmp_eq (tgt := 19) hx hb d_RF_needLost_5 (by decide) (fun c_1 => ?_) (fun c_1 => ?_)
  · skip
    refine os_vret hx hb hr hlocks hV (Nat.le_of_ble_eq_true rfl) (Nat.le_of_ble_eq_true rfl) d_RF_needLost_19 ?_
    exact ⟨rfl, rfl, Or.inl ⟨c_1, rfl⟩⟩
  · skip
    refine os_throwW (own := "RobotFaults") (cls := "java/lang/IllegalStateException") (text := "the robot is not lost") (names := ["java/lang/RuntimeException", "java/lang/Exception"]) hx hb hlt hown (by decide) (by decide) hE hV k_351 k_12 (by decide +kernel) th_IllegalStateException (hl.1.trans hml.symm) d_RF_needLost_8 d_RF_needLost_11 d_RF_needLost_12 d_RF_needLost_15 d_RF_needLost_18 hout hlocks (Nat.le_of_ble_eq_true rfl) (Nat.le_of_ble_eq_true rfl) (Nat.le_of_ble_eq_true rfl) (Nat.le_of_ble_eq_true rfl) (Nat.le_of_ble_eq_true rfl) (Nat.le_of_ble_eq_true rfl) ?_
    exact ⟨rfl, rfl, Or.inr ⟨c_1, rfl⟩⟩
set_option maxHeartbeats 4000000 in
set_option maxRecDepth 100000 in
theorem c_RF_hasNoLoadToLose (l : Launch) (hlt : l.stackTraces = false) (D : va_G) (cA : Nat → ClassId) (bs : Nat) (σ : os_S) (ad : Nat → Nat → Nat) (i : Nat) (k : Int32) (hi : i < os_n σ 9) : os_Met l y_RF_hasNoLoadToLose prog_1_method_31_code 2 (some .boolean) { frames := 0, cells := 0, slots := 0, locals := 0 } D cA bs [.ref (ad 9 i), .int k] σ ad (pv σ ad (some (.int (bz (decide (k = 2) && decide (os_g σ 9 3 i = -1)))))) := by
  refine os_ofW (by decide) ?_
  intro p e s m below meth c hx hb hr hml hown hlocks hmn hout hE hV
  have hts := hE.hts (args := ([.ref (ad 9 i), .int k] : List Value).toArray)
  have hK := hE.2.1
  have hbs := hE.2.2.1
  have hown : s.vm.findClass "RobotFaults" = some m.cls := hown
  have hl := lv_entry ([.ref (ad 9 i), .int k]) (n := 2) (Nat.le_of_ble_eq_true rfl)
  rw [lg_entry_eq]
  generalize (lg_sl ([.ref (ad 9 i), .int k]) ++ List.replicate (2 - (lg_sl ([.ref (ad 9 i), .int k])).length) Slot.unset).toArray = ls at hl ⊢
  have hl : lv_has ls 2 [(0, .ref (ad 9 i)), (1, .int k)] := hl
  refine lv_iload_n hx hb d_RF_hasNoLoadToLose_0 rfl (lv_at hl 1 rfl) ?_
  refine lv_iconst (v := 2) hx hb d_RF_hasNoLoadToLose_1 (by decide) ?_
  refine lv_icmp_ne (tgt := 17) hx hb d_RF_hasNoLoadToLose_2 (by decide) (fun c_1 => ?_) (fun c_1 => ?_)
  · skip
    refine lv_iconst (v := 0) hx hb d_RF_hasNoLoadToLose_17 (by decide) ?_
    refine os_zret hx hb hr rfl hlocks hV (Nat.le_of_ble_eq_true rfl) (Nat.le_of_ble_eq_true rfl) d_RF_hasNoLoadToLose_18 ?_
    exact ⟨rfl, rfl, by simp [bz, c_1]⟩
  · skip
    refine lv_aload_n hx hb d_RF_hasNoLoadToLose_5 rfl (lv_at hl 0 rfl) ?_
    refine os_getN (C := "RobotFaults$Robot") (T := F_Robot) (N := 6) (ci := 3) (K := 9) (j := 3) (i := i) (v := .int (os_g σ 9 3 i)) hx hb hts i_Robot hown hK hV rfl rfl (by decide) hi (hts _ k_303) rfl d_RF_hasNoLoadToLose_6 ?_
    refine lv_iconst (v := (-1)) hx hb d_RF_hasNoLoadToLose_9 (by decide) ?_
    refine lv_icmp_ne (tgt := 17) hx hb d_RF_hasNoLoadToLose_10 (by decide) (fun c_2 => ?_) (fun c_2 => ?_)
    · skip
      refine lv_iconst (v := 0) hx hb d_RF_hasNoLoadToLose_17 (by decide) ?_
      refine os_zret hx hb hr rfl hlocks hV (Nat.le_of_ble_eq_true rfl) (Nat.le_of_ble_eq_true rfl) d_RF_hasNoLoadToLose_18 ?_
      exact ⟨rfl, rfl, by simp [bz, c_1, c_2]⟩
    · skip
      refine lv_iconst (v := 1) hx hb d_RF_hasNoLoadToLose_13 (by decide) ?_
      refine lv_goto (tgt := 18) hx hb d_RF_hasNoLoadToLose_14 (by decide) ?_
      refine os_zret hx hb hr rfl hlocks hV (Nat.le_of_ble_eq_true rfl) (Nat.le_of_ble_eq_true rfl) d_RF_hasNoLoadToLose_18 ?_
      exact ⟨rfl, rfl, by simp [bz, c_1, c_2]⟩
end
section
/-! THE CLASS'S SHAPE; ITS TRACK -/
/-- the roots, the arrays' lengths, the rules -/
def rfA (σ : os_S) : Prop := (∀ K, K < 8 → os_n σ K = 1) ∧ os_n σ 8 = 8 ∧ (∀ j, j < 6 → os_r σ 0 j 0 = some 0) ∧ os_r σ 1 0 0 = some 0 ∧ (os_l σ 2 0 = 20 ∧ os_l σ 3 0 = 8 ∧ os_l σ 4 0 = 8 ∧ os_l σ 5 0 = 40 ∧ os_l σ 6 0 = 40 ∧ os_l σ 7 0 = 10) ∧ ∀ k, k < 8 → os_r σ 3 k 0 = some k
theorem rfA.n {σ : os_S} (h : rfA σ) (K : Nat) (hK : K < 8) : 0 < os_n σ K := by rw [h.1 K hK]; decide
theorem rfA.r {σ : os_S} (h : rfA σ) (j : Nat) (hj : j < 6) : os_r σ 0 j 0 = some 0 := h.2.2.1 j hj
theorem rfA.t {σ : os_S} (h : rfA σ) : os_r σ 1 0 0 = some 0 := h.2.2.2.1
theorem rfA.l2 {σ : os_S} (h : rfA σ) : os_l σ 2 0 = 20 := h.2.2.2.2.1.1
theorem rfA.l3 {σ : os_S} (h : rfA σ) : os_l σ 3 0 = 8 := h.2.2.2.2.1.2.1
theorem rfA.l4 {σ : os_S} (h : rfA σ) : os_l σ 4 0 = 8 := h.2.2.2.2.1.2.2.1
theorem rfA.l5 {σ : os_S} (h : rfA σ) : os_l σ 5 0 = 40 := h.2.2.2.2.1.2.2.2.1
theorem rfA.l6 {σ : os_S} (h : rfA σ) : os_l σ 6 0 = 40 := h.2.2.2.2.1.2.2.2.2.1
theorem rfA.l7 {σ : os_S} (h : rfA σ) : os_l σ 7 0 = 10 := h.2.2.2.2.1.2.2.2.2.2
theorem rfA.ru {σ : os_S} (h : rfA σ) (k : Nat) (hk : k < 8) : os_r σ 3 k 0 = some k := h.2.2.2.2.2 k hk
theorem rng {x M : Int32} {N : Nat} (hM : M = nI N) (hN : N < 2 ^ 31) (h0 : ¬ x < 0) (h1 : ¬ M ≤ x) : ∃ n, n < N ∧ x = nI n := by
  subst hM
  rcases pk_ix x hN with h | h | h
  · exact absurd h h0
  · exact absurd h h1
  · exact h
theorem nI_inj {a b : Nat} (h : nI a = nI b) (ha : a < 2 ^ 31) (hb : b < 2 ^ 31) : a = b := (nI_eq ha hb).mp h
set_option maxHeartbeats 4000000 in
set_option maxRecDepth 100000 in
theorem c_Track_size (l : Launch) (hlt : l.stackTraces = false) (D : va_G) (cA : Nat → ClassId) (bs : Nat) (σ : os_S) (ad : Nat → Nat → Nat) (hA : rfA σ) : os_Met l y_Track_size prog_7_method_2_code 1 (some .int) { frames := 0, cells := 0, slots := 0, locals := 0 } D cA bs [.ref (ad 1 0)] σ ad (pv σ ad (some (.int (os_g σ 1 1 0)))) := by
  refine os_ofW (by decide) ?_
  intro p e s m below meth c hx hb hr hml hown hlocks hmn hout hE hV
  have hts := hE.hts (args := ([.ref (ad 1 0)] : List Value).toArray)
  have hK := hE.2.1
  have hbs := hE.2.2.1
  have hown : s.vm.findClass "RobotFaults$Track" = some m.cls := hown
  have hl := lv_entry ([.ref (ad 1 0)]) (n := 1) (Nat.le_of_ble_eq_true rfl)
  rw [lg_entry_eq]
  generalize (lg_sl ([.ref (ad 1 0)]) ++ List.replicate (1 - (lg_sl ([.ref (ad 1 0)])).length) Slot.unset).toArray = ls at hl ⊢
  have hl : lv_has ls 1 [(0, .ref (ad 1 0))] := hl
  refine lv_aload_n hx hb d_Track_size_0 rfl (lv_at hl 0 rfl) ?_
  refine os_get (C := "RobotFaults$Track") (T := F_Track) (N := 2) (ci := 1) (K := 1) (j := 1) (i := 0) (v := .int (os_g σ 1 1 0)) hx hb hts i_Track hown hK hV rfl rfl (by decide) (hA.n 1 (by decide)) (hts _ k_33) rfl d_Track_size_1 ?_
  refine os_iret hx hb hr hlocks hV (Nat.le_of_ble_eq_true rfl) (Nat.le_of_ble_eq_true rfl) d_Track_size_4 ?_
  exact ⟨rfl, rfl, rfl⟩
set_option maxHeartbeats 4000000 in
set_option maxRecDepth 100000 in
theorem c_Track_isFull (l : Launch) (hlt : l.stackTraces = false) (D : va_G) (cA : Nat → ClassId) (bs : Nat) (σ : os_S) (ad : Nat → Nat → Nat) (hA : rfA σ) : os_Met l y_Track_isFull prog_7_method_3_code 1 (some .boolean) { frames := 0, cells := 0, slots := 0, locals := 0 } D cA bs [.ref (ad 1 0)] σ ad (pv σ ad (some (.int (bz (decide (20 ≤ os_g σ 1 1 0)))))) := by
  refine os_ofW (by decide) ?_
  intro p e s m below meth c hx hb hr hml hown hlocks hmn hout hE hV
  have hts := hE.hts (args := ([.ref (ad 1 0)] : List Value).toArray)
  have hK := hE.2.1
  have hbs := hE.2.2.1
  have hown : s.vm.findClass "RobotFaults$Track" = some m.cls := hown
  have hl := lv_entry ([.ref (ad 1 0)]) (n := 1) (Nat.le_of_ble_eq_true rfl)
  rw [lg_entry_eq]
  generalize (lg_sl ([.ref (ad 1 0)]) ++ List.replicate (1 - (lg_sl ([.ref (ad 1 0)])).length) Slot.unset).toArray = ls at hl ⊢
  have hl : lv_has ls 1 [(0, .ref (ad 1 0))] := hl
  refine lv_aload_n hx hb d_Track_isFull_0 rfl (lv_at hl 0 rfl) ?_
  refine os_get (C := "RobotFaults$Track") (T := F_Track) (N := 2) (ci := 1) (K := 1) (j := 1) (i := 0) (v := .int (os_g σ 1 1 0)) hx hb hts i_Track hown hK hV rfl rfl (by decide) (hA.n 1 (by decide)) (hts _ k_33) rfl d_Track_isFull_1 ?_
  refine lv_aload_n hx hb d_Track_isFull_4 rfl (lv_at hl 0 rfl) ?_
  refine os_get (C := "RobotFaults$Track") (T := F_Track) (N := 2) (ci := 1) (K := 1) (j := 0) (i := 0) (v := .ref (ad 2 0)) hx hb hts i_Track hown hK hV rfl rfl (by decide) (hA.n 1 (by decide)) (hts _ k_32) (congrArg (fun z => va_rf (Option.map (ad 2) z)) hA.t) d_Track_isFull_5 ?_
  refine os_alen (K := 2) (i := 0) (t0 := 0) (v := 20) hx hb hK hV rfl rfl (hA.n 2 (by decide)) (congrArg Int32.ofNat hA.l2) d_Track_isFull_8 ?_
  refine lv_icmp_lt (tgt := 16) hx hb d_Track_isFull_9 (by decide) (fun c_1 => ?_) (fun c_1 => ?_)
  · skip
    refine lv_iconst (v := 0) hx hb d_Track_isFull_16 (by decide) ?_
    refine os_zret hx hb hr rfl hlocks hV (Nat.le_of_ble_eq_true rfl) (Nat.le_of_ble_eq_true rfl) d_Track_isFull_17 ?_
    exact ⟨rfl, rfl, by simp [bz, c_1]⟩
  · skip
    refine lv_iconst (v := 1) hx hb d_Track_isFull_12 (by decide) ?_
    refine lv_goto (tgt := 17) hx hb d_Track_isFull_13 (by decide) ?_
    refine os_zret hx hb hr rfl hlocks hV (Nat.le_of_ble_eq_true rfl) (Nat.le_of_ble_eq_true rfl) d_Track_isFull_17 ?_
    exact ⟨rfl, rfl, by simp [bz, c_1]⟩
set_option maxHeartbeats 4000000 in
set_option maxRecDepth 100000 in
theorem c_Track_has (l : Launch) (hlt : l.stackTraces = false) (D : va_G) (cA : Nat → ClassId) (bs : Nat) (σ : os_S) (ad : Nat → Nat → Nat) (x : Int32) (hA : rfA σ) : os_Met l y_Track_has prog_7_method_4_code 2 (some .boolean) { frames := 0, cells := 0, slots := 0, locals := 0 } D cA bs [.ref (ad 1 0), .int x] σ ad (pv σ ad (some (.int (bz (decide (¬ x < 0 ∧ ¬ os_g σ 1 1 0 ≤ x)))))) := by
  refine os_ofW (by decide) ?_
  intro p e s m below meth c hx hb hr hml hown hlocks hmn hout hE hV
  have hts := hE.hts (args := ([.ref (ad 1 0), .int x] : List Value).toArray)
  have hK := hE.2.1
  have hbs := hE.2.2.1
  have hown : s.vm.findClass "RobotFaults$Track" = some m.cls := hown
  have hl := lv_entry ([.ref (ad 1 0), .int x]) (n := 2) (Nat.le_of_ble_eq_true rfl)
  rw [lg_entry_eq]
  generalize (lg_sl ([.ref (ad 1 0), .int x]) ++ List.replicate (2 - (lg_sl ([.ref (ad 1 0), .int x])).length) Slot.unset).toArray = ls at hl ⊢
  have hl : lv_has ls 2 [(0, .ref (ad 1 0)), (1, .int x)] := hl
  refine lv_iload_n hx hb d_Track_has_0 rfl (lv_at hl 1 rfl) ?_
  refine lv_if_lt (tgt := 16) hx hb d_Track_has_1 (by decide) (fun c_1 => ?_) (fun c_1 => ?_)
  · skip
    refine lv_iconst (v := 0) hx hb d_Track_has_16 (by decide) ?_
    refine os_zret hx hb hr rfl hlocks hV (Nat.le_of_ble_eq_true rfl) (Nat.le_of_ble_eq_true rfl) d_Track_has_17 ?_
    exact ⟨rfl, rfl, by simp [bz, c_1]⟩
  · skip
    refine lv_iload_n hx hb d_Track_has_4 rfl (lv_at hl 1 rfl) ?_
    refine lv_aload_n hx hb d_Track_has_5 rfl (lv_at hl 0 rfl) ?_
    refine os_get (C := "RobotFaults$Track") (T := F_Track) (N := 2) (ci := 1) (K := 1) (j := 1) (i := 0) (v := .int (os_g σ 1 1 0)) hx hb hts i_Track hown hK hV rfl rfl (by decide) (hA.n 1 (by decide)) (hts _ k_33) rfl d_Track_has_6 ?_
    refine lv_icmp_ge (tgt := 16) hx hb d_Track_has_9 (by decide) (fun c_2 => ?_) (fun c_2 => ?_)
    · skip
      refine lv_iconst (v := 0) hx hb d_Track_has_16 (by decide) ?_
      refine os_zret hx hb hr rfl hlocks hV (Nat.le_of_ble_eq_true rfl) (Nat.le_of_ble_eq_true rfl) d_Track_has_17 ?_
      exact ⟨rfl, rfl, by simp [bz, c_1, c_2]⟩
    · skip
      refine lv_iconst (v := 1) hx hb d_Track_has_12 (by decide) ?_
      refine lv_goto (tgt := 17) hx hb d_Track_has_13 (by decide) ?_
      refine os_zret hx hb hr rfl hlocks hV (Nat.le_of_ble_eq_true rfl) (Nat.le_of_ble_eq_true rfl) d_Track_has_17 ?_
      exact ⟨rfl, rfl, by simp [bz, c_1, c_2]⟩
set_option maxHeartbeats 4000000 in
set_option maxRecDepth 100000 in
theorem c_Track_add (l : Launch) (hlt : l.stackTraces = false) (D : va_G) (cA : Nat → ClassId) (bs : Nat) (σ : os_S) (ad : Nat → Nat → Nat) (hA : rfA σ) : os_Met l y_Track_add prog_7_method_5_code 2 (some .int) { frames := 0, cells := 0, slots := 0, locals := 0 } D cA bs [.ref (ad 1 0)] σ ad (fun r σ' ad' => os_sg σ 1 1 0 (os_g σ 1 1 0 + 1) = σ' ∧ ad = ad' ∧ r = .inl (some (.int (os_g σ 1 1 0)))) := by
  refine os_ofW (by decide) ?_
  intro p e s m below meth c hx hb hr hml hown hlocks hmn hout hE hV
  have hts := hE.hts (args := ([.ref (ad 1 0)] : List Value).toArray)
  have hK := hE.2.1
  have hbs := hE.2.2.1
  have hown : s.vm.findClass "RobotFaults$Track" = some m.cls := hown
  have hl := lv_entry ([.ref (ad 1 0)]) (n := 2) (Nat.le_of_ble_eq_true rfl)
  rw [lg_entry_eq]
  generalize (lg_sl ([.ref (ad 1 0)]) ++ List.replicate (2 - (lg_sl ([.ref (ad 1 0)])).length) Slot.unset).toArray = ls at hl ⊢
  have hl : lv_has ls 2 [(0, .ref (ad 1 0))] := hl
  refine lv_aload_n hx hb d_Track_add_0 rfl (lv_at hl 0 rfl) ?_
  refine os_get (C := "RobotFaults$Track") (T := F_Track) (N := 2) (ci := 1) (K := 1) (j := 1) (i := 0) (v := .int (os_g σ 1 1 0)) hx hb hts i_Track hown hK hV rfl rfl (by decide) (hA.n 1 (by decide)) (hts _ k_33) rfl d_Track_add_1 ?_
  refine lv_istore_n (lv' := [(1, .int (os_g σ 1 1 0)), (0, .ref (ad 1 0))]) hx hb d_Track_add_4 rfl hl (by decide) rfl (fun ls hl => ?_)
  refine lv_aload_n hx hb d_Track_add_5 rfl (lv_at hl 1 rfl) ?_
  refine lv_dup hx hb d_Track_add_6 rfl ?_
  refine os_get (C := "RobotFaults$Track") (T := F_Track) (N := 2) (ci := 1) (K := 1) (j := 1) (i := 0) (v := .int (os_g σ 1 1 0)) hx hb hts i_Track hown hK hV rfl rfl (by decide) (hA.n 1 (by decide)) (hts _ k_33) rfl d_Track_add_7 ?_
  refine lv_iconst (v := 1) hx hb d_Track_add_10 (by decide) ?_
  refine lv_iadd hx hb d_Track_add_11 ?_
  refine os_putI (C := "RobotFaults$Track") (T := F_Track) (N := 2) (ci := 1) (K := 1) (j := 1) (i := 0) (v := (os_g σ 1 1 0) + 1) (ty := .int) hx hb hts i_Track t_Track t_Track_ok n_Track hown hK hV rfl rfl (by decide) (hA.n 1 (by decide)) (hts _ k_33) rfl rfl rfl (by decide +kernel) rfl rfl d_Track_add_12 (fun H locs hV => ?_)
  refine lv_iload_n hx hb d_Track_add_15 rfl (lv_at hl 0 rfl) ?_
  refine os_iret hx hb hr hlocks hV (Nat.le_of_ble_eq_true rfl) (Nat.le_of_ble_eq_true rfl) d_Track_add_16 ?_
  exact ⟨rfl, rfl, rfl⟩
set_option maxHeartbeats 4000000 in
set_option maxRecDepth 100000 in
theorem c_Track_connect (l : Launch) (hlt : l.stackTraces = false) (D : va_G) (cA : Nat → ClassId) (bs : Nat) (σ : os_S) (ad : Nat → Nat → Nat) (a b : Nat) (hA : rfA σ) (ha : a < 20) (hb2 : b < 20) : os_Met l y_Track_connect prog_7_method_6_code 3 none { frames := 0, cells := 0, slots := 0, locals := 0 } D cA bs [.ref (ad 1 0), .int (nI a), .int (nI b)] σ ad (fun r σ' ad' => os_sg (os_sg σ 2 a 0 (os_g σ 2 a 0 ||| (1 : Int32) <<< (nI b &&& 31))) 2 b 0 (os_g (os_sg σ 2 a 0 (os_g σ 2 a 0 ||| (1 : Int32) <<< (nI b &&& 31))) 2 b 0 ||| (1 : Int32) <<< (nI a &&& 31)) = σ' ∧ ad = ad' ∧ r = .inl none) := by
  refine os_ofW (by decide) ?_
  intro p e s m below meth c hx hb hr hml hown hlocks hmn hout hE hV
  have hts := hE.hts (args := ([.ref (ad 1 0), .int (nI a), .int (nI b)] : List Value).toArray)
  have hK := hE.2.1
  have hbs := hE.2.2.1
  have hown : s.vm.findClass "RobotFaults$Track" = some m.cls := hown
  have hl := lv_entry ([.ref (ad 1 0), .int (nI a), .int (nI b)]) (n := 3) (Nat.le_of_ble_eq_true rfl)
  rw [lg_entry_eq]
  generalize (lg_sl ([.ref (ad 1 0), .int (nI a), .int (nI b)]) ++ List.replicate (3 - (lg_sl ([.ref (ad 1 0), .int (nI a), .int (nI b)])).length) Slot.unset).toArray = ls at hl ⊢
  have hl : lv_has ls 3 [(0, .ref (ad 1 0)), (1, .int (nI a)), (2, .int (nI b))] := hl
  refine lv_aload_n hx hb d_Track_connect_0 rfl (lv_at hl 0 rfl) ?_
  refine os_get (C := "RobotFaults$Track") (T := F_Track) (N := 2) (ci := 1) (K := 1) (j := 0) (i := 0) (v := .ref (ad 2 0)) hx hb hts i_Track hown hK hV rfl rfl (by decide) (hA.n 1 (by decide)) (hts _ k_32) (congrArg (fun z => va_rf (Option.map (ad 2) z)) hA.t) d_Track_connect_1 ?_
  refine lv_iload_n hx hb d_Track_connect_4 rfl (lv_at hl 1 rfl) ?_
  refine lv_dup2_11 hx hb d_Track_connect_5 rfl rfl ?_
  refine os_ialdN (K := 2) (i := 0) (t0 := 0) (n := a) hx hb hK hV rfl rfl rfl (hA.n 2 (by decide)) rfl (by rw [show os_l σ 2 0 = 20 from hA.l2]; exact ha) (by rw [show os_l σ 2 0 = 20 from hA.l2]; decide) d_Track_connect_6 ?_
  refine lv_iconst (v := 1) hx hb d_Track_connect_7 (by decide) ?_
  refine lv_iload_n hx hb d_Track_connect_8 rfl (lv_at hl 2 rfl) ?_
  refine lv_ishl hx hb d_Track_connect_9 ?_
  refine lv_ior hx hb d_Track_connect_10 ?_
  refine os_iastN (K := 2) (i := 0) (t0 := 0) (n := a) hx hb hK hV rfl rfl rfl (hA.n 2 (by decide)) rfl (by rw [show os_l σ 2 0 = 20 from hA.l2]; exact ha) (by rw [show os_l σ 2 0 = 20 from hA.l2]; decide) d_Track_connect_11 (fun H locs hV => ?_)
  refine lv_aload_n hx hb d_Track_connect_12 rfl (lv_at hl 0 rfl) ?_
  refine os_get (C := "RobotFaults$Track") (T := F_Track) (N := 2) (ci := 1) (K := 1) (j := 0) (i := 0) (v := .ref (ad 2 0)) hx hb hts i_Track hown hK hV rfl rfl (by decide) (hA.n 1 (by decide)) (hts _ k_32) (congrArg (fun z => va_rf (Option.map (ad 2) z)) hA.t) d_Track_connect_13 ?_
  refine lv_iload_n hx hb d_Track_connect_16 rfl (lv_at hl 2 rfl) ?_
  refine lv_dup2_11 hx hb d_Track_connect_17 rfl rfl ?_
  refine os_ialdN (K := 2) (i := 0) (t0 := 0) (n := b) hx hb hK hV rfl rfl rfl (hA.n 2 (by decide)) rfl (by rw [show os_l (os_sg σ 2 a 0 ((os_g σ 2 a 0) ||| (1 <<< ((nI b) &&& 31)))) 2 0 = 20 from hA.l2]; exact hb2) (by rw [show os_l (os_sg σ 2 a 0 ((os_g σ 2 a 0) ||| (1 <<< ((nI b) &&& 31)))) 2 0 = 20 from hA.l2]; decide) d_Track_connect_18 ?_
  refine lv_iconst (v := 1) hx hb d_Track_connect_19 (by decide) ?_
  refine lv_iload_n hx hb d_Track_connect_20 rfl (lv_at hl 1 rfl) ?_
  refine lv_ishl hx hb d_Track_connect_21 ?_
  refine lv_ior hx hb d_Track_connect_22 ?_
  refine os_iastN (K := 2) (i := 0) (t0 := 0) (n := b) hx hb hK hV rfl rfl rfl (hA.n 2 (by decide)) rfl (by rw [show os_l (os_sg σ 2 a 0 ((os_g σ 2 a 0) ||| (1 <<< ((nI b) &&& 31)))) 2 0 = 20 from hA.l2]; exact hb2) (by rw [show os_l (os_sg σ 2 a 0 ((os_g σ 2 a 0) ||| (1 <<< ((nI b) &&& 31)))) 2 0 = 20 from hA.l2]; decide) d_Track_connect_23 (fun H locs hV => ?_)
  refine os_vret hx hb hr hlocks hV (Nat.le_of_ble_eq_true rfl) (Nat.le_of_ble_eq_true rfl) d_Track_connect_24 ?_
  exact ⟨rfl, rfl, rfl⟩
set_option maxHeartbeats 4000000 in
set_option maxRecDepth 100000 in
theorem c_Track_areConnected (l : Launch) (hlt : l.stackTraces = false) (D : va_G) (cA : Nat → ClassId) (bs : Nat) (σ : os_S) (ad : Nat → Nat → Nat) (a : Nat) (x : Int32) (hA : rfA σ) (ha : a < 20) : os_Met l y_Track_areConnected prog_7_method_7_code 3 (some .boolean) { frames := 1, cells := 0, slots := 0, locals := 21 } D cA bs [.ref (ad 1 0), .int (nI a), .int x] σ ad (pv σ ad (some (.int (bz (rf_holds (os_g σ 2 a 0) x))))) := by
  refine os_ofW (by decide) ?_
  intro p e s m below meth c hx hb hr hml hown hlocks hmn hout hE hV
  have hts := hE.hts (args := ([.ref (ad 1 0), .int (nI a), .int x] : List Value).toArray)
  have hK := hE.2.1
  have hbs := hE.2.2.1
  have hown : s.vm.findClass "RobotFaults$Track" = some m.cls := hown
  have hl := lv_entry ([.ref (ad 1 0), .int (nI a), .int x]) (n := 3) (Nat.le_of_ble_eq_true rfl)
  rw [lg_entry_eq]
  generalize (lg_sl ([.ref (ad 1 0), .int (nI a), .int x]) ++ List.replicate (3 - (lg_sl ([.ref (ad 1 0), .int (nI a), .int x])).length) Slot.unset).toArray = ls at hl ⊢
  have hl : lv_has ls 3 [(0, .ref (ad 1 0)), (1, .int (nI a)), (2, .int x)] := hl
  refine lv_aload_n hx hb d_Track_areConnected_0 rfl (lv_at hl 0 rfl) ?_
  refine os_get (C := "RobotFaults$Track") (T := F_Track) (N := 2) (ci := 1) (K := 1) (j := 0) (i := 0) (v := .ref (ad 2 0)) hx hb hts i_Track hown hK hV rfl rfl (by decide) (hA.n 1 (by decide)) (hts _ k_32) (congrArg (fun z => va_rf (Option.map (ad 2) z)) hA.t) d_Track_areConnected_1 ?_
  refine lv_iload_n hx hb d_Track_areConnected_4 rfl (lv_at hl 1 rfl) ?_
  refine os_ialdN (K := 2) (i := 0) (t0 := 0) (n := a) hx hb hK hV rfl rfl rfl (hA.n 2 (by decide)) rfl (by rw [show os_l σ 2 0 = 20 from hA.l2]; exact ha) (by rw [show os_l σ 2 0 = 20 from hA.l2]; decide) d_Track_areConnected_5 ?_
  refine lv_iload_n hx hb d_Track_areConnected_6 rfl (lv_at hl 2 rfl) ?_
  refine os_call (c_RF_holds l hlt D cA bs σ ad (os_g σ 2 a 0) x) hE hV k_373 k_1 (os_inSN (n := 2) (bytes := prog_1_method_30_code) (maxL := 2) (ret := (some .boolean)) hx hb hown (hts _ k_371) (hts _ k_372) (hts _ k_1) (hts _ k_373) (by decide +kernel) rfl rfl d_Track_areConnected_7) (hl.1.trans hml.symm) (Nat.le_of_ble_eq_true rfl) (Nat.le_of_ble_eq_true rfl) (Nat.le_of_ble_eq_true rfl) (Nat.le_of_ble_eq_true rfl) (Nat.le_of_ble_eq_true rfl) (fun v σ1 ad1 H locs hp hext hV => ?_) (fun E q ce σ1 ad1 H locs hp hext hV hce hcv hcl => ?_)
  · obtain ⟨rfl, rfl, hp⟩ := hp
    cases hp
    refine W.eq (g2 := F0 m 10 ls [.int (bz (rf_holds (os_g σ 2 a 0) x))]) rfl ?_
    refine os_zret hx hb hr (bz_nar _) hlocks hV (Nat.le_of_ble_eq_true rfl) (Nat.le_of_ble_eq_true rfl) d_Track_areConnected_10 ?_
    exact ⟨rfl, rfl, rfl⟩
  · exact absurd hp.2.2 (fun h => by cases h)
set_option maxHeartbeats 4000000 in
set_option maxRecDepth 100000 in
theorem c_RF_needPiece (l : Launch) (hlt : l.stackTraces = false) (D : va_G) (cA : Nat → ClassId) (bs : Nat) (σ : os_S) (ad : Nat → Nat → Nat) (x : Int32) (hA : rfA σ) : os_Met l y_RF_needPiece prog_1_method_23_code 2 none { frames := 6, cells := 1, slots := 6, locals := 96 } D cA bs [.ref (ad 0 0), .int x] σ ad (pt σ ad (¬ x < 0 ∧ ¬ os_g σ 1 1 0 ≤ x) none "java/util/NoSuchElementException") := by
  refine os_ofW (by decide) ?_
  intro p e s m below meth c hx hb hr hml hown hlocks hmn hout hE hV
  have hts := hE.hts (args := ([.ref (ad 0 0), .int x] : List Value).toArray)
  have hK := hE.2.1
  have hbs := hE.2.2.1
  have hown : s.vm.findClass "RobotFaults" = some m.cls := hown
  have hl := lv_entry ([.ref (ad 0 0), .int x]) (n := 2) (Nat.le_of_ble_eq_true rfl)
  rw [lg_entry_eq]
  generalize (lg_sl ([.ref (ad 0 0), .int x]) ++ List.replicate (2 - (lg_sl ([.ref (ad 0 0), .int x])).length) Slot.unset).toArray = ls at hl ⊢
  have hl : lv_has ls 2 [(0, .ref (ad 0 0)), (1, .int x)] := hl
  refine lv_aload_n hx hb d_RF_needPiece_0 rfl (lv_at hl 0 rfl) ?_
  refine os_get (C := "RobotFaults") (T := F_RF) (N := 11) (ci := 0) (K := 0) (j := 0) (i := 0) (v := .ref (ad 1 0)) hx hb hts i_RF hown hK hV rfl rfl (by decide) (hA.n 0 (by decide)) (hts _ k_68) (congrArg (fun z => va_rf (Option.map (ad 1) z)) (hA.r 0 (by decide))) d_RF_needPiece_1 ?_
  refine lv_iload_n hx hb d_RF_needPiece_4 rfl (lv_at hl 1 rfl) ?_
  refine os_call (c_Track_has l hlt D cA bs σ ad x hA) hE hV k_244 k_2 (os_inV (C := "RobotFaults$Track") (n := 1) (bytes := prog_7_method_4_code) (maxL := 2) (ret := (some .boolean)) hx hb hown (hts _ k_241) (hts _ k_242) (hts _ k_243) (hts _ k_244) (by decide +kernel) rfl (os_recv hK hV rfl rfl (hA.n 1 (by decide))) rfl d_RF_needPiece_5) (hl.1.trans hml.symm) (Nat.le_of_ble_eq_true rfl) (Nat.le_of_ble_eq_true rfl) (Nat.le_of_ble_eq_true rfl) (Nat.le_of_ble_eq_true rfl) (Nat.le_of_ble_eq_true rfl) (fun v σ1 ad1 H locs hp hext hV => ?_) (fun E q ce σ1 ad1 H locs hp hext hV hce hcv hcl => ?_)
  · obtain ⟨rfl, rfl, hp⟩ := hp
    cases hp
    refine W.eq (g2 := F0 m 8 ls [.int (bz (decide (¬ x < 0 ∧ ¬ os_g σ 1 1 0 ≤ x)))]) rfl ?_
    refine lv_if_ne (tgt := 22) hx hb d_RF_needPiece_8 (by decide) (fun c_1 => ?_) (fun c_1 => ?_)
    · skip
      refine os_vret hx hb hr hlocks hV (Nat.le_of_ble_eq_true rfl) (Nat.le_of_ble_eq_true rfl) d_RF_needPiece_22 ?_
      exact ⟨rfl, rfl, Or.inl ⟨(of_decide_eq_true (bz_1 c_1)), rfl⟩⟩
    · skip
      refine os_throwNW (text := "there is no such piece") hx hb hlt hown hE hV k_245 k_9 (by decide +kernel) (hl.1.trans hml.symm) d_RF_needPiece_11 d_RF_needPiece_14 d_RF_needPiece_15 d_RF_needPiece_18 d_RF_needPiece_21 hout hlocks (Nat.le_of_ble_eq_true rfl) (Nat.le_of_ble_eq_true rfl) (Nat.le_of_ble_eq_true rfl) (Nat.le_of_ble_eq_true rfl) (Nat.le_of_ble_eq_true rfl) (Nat.le_of_ble_eq_true rfl) ?_
      exact ⟨rfl, rfl, Or.inr ⟨(of_decide_eq_false (bz_0 (by simpa using c_1))), rfl⟩⟩
  · exact absurd hp.2.2 (fun h => by cases h)
end
section
/-! WHO IS THERE: robots, faults, alarms by their numbers -/
/-- the objects of a kind stand in an array in the order of their making -/
def rfS (σ : os_S) (Ka K N cf : Nat) : Prop := os_n σ K ≤ N ∧ os_g σ 0 cf 0 = nI (os_n σ K) ∧ ∀ j, j < N → os_r σ Ka j 0 = if j < os_n σ K then some j else none
/-- it changes nothing; it answers the object that has this number, else throws -/
def pr (σ : os_S) (ad : Nat → Nat → Nat) (K : Nat) (x : Int32) (o : Nat) (E : String) : os_O → os_S → (Nat → Nat → Nat) → Prop := fun r σ' ad' => σ = σ' ∧ ad = ad' ∧ ((∃ i, i < os_n σ K ∧ x = nI (i + o) ∧ r = .inl (some (.ref (ad K i)))) ∨ ((∀ i, i < os_n σ K → ¬ x = nI (i + o)) ∧ r = .inr E))
theorem rfS.yes {σ : os_S} {Ka K N cf j t : Nat} (h : rfS σ Ka K N cf) (hj : j < N) (q : os_r σ Ka j 0 = some t) : t = j ∧ j < os_n σ K := by
  rw [h.2.2 j hj] at q
  split at q
  · cases q; exact ⟨rfl, ‹_›⟩
  · cases q
theorem rfS.no {σ : os_S} {Ka K N cf j : Nat} (h : rfS σ Ka K N cf) (hj : j < N) (q : os_r σ Ka j 0 = none) : os_n σ K ≤ j := by
  rw [h.2.2 j hj] at q
  split at q
  · cases q
  · omega
theorem rng1 {x M : Int32} {N : Nat} (hM : M = nI N) (hN : N < 2 ^ 31) (h0 : ¬ x < 1) (h1 : ¬ M < x) : ∃ n, n < N ∧ x = nI (n + 1) := by
  subst hM
  have h2 : ¬ x < 0 := fun h => h0 (Int32.lt_of_lt_of_le h (by decide))
  obtain ⟨j, hj, rfl⟩ := nI_of h2
  have h3 : ¬ j < 1 := fun h => h0 (nI_lt (b := 1) h (by decide))
  have h4 : ¬ N < j := fun h => h1 (nI_lt h hj)
  exact ⟨j - 1, by omega, by rw [show j - 1 + 1 = j by omega]⟩
set_option maxHeartbeats 4000000 in
set_option maxRecDepth 100000 in
theorem c_RF_robotAt (l : Launch) (hlt : l.stackTraces = false) (D : va_G) (cA : Nat → ClassId) (bs : Nat) (σ : os_S) (ad : Nat → Nat → Nat) (x : Int32) (hA : rfA σ) (hR : rfS σ 4 9 8 6) : os_Met l y_RF_robotAt prog_1_method_24_code 3 (some (.object "RobotFaults$Robot")) { frames := 6, cells := 1, slots := 6, locals := 96 } D cA bs [.ref (ad 0 0), .int x] σ ad (pr σ ad 9 x 0 "java/util/NoSuchElementException") := by
  refine os_ofW (by decide) ?_
  intro p e s m below meth c hx hb hr hml hown hlocks hmn hout hE hV
  have hts := hE.hts (args := ([.ref (ad 0 0), .int x] : List Value).toArray)
  have hK := hE.2.1
  have hbs := hE.2.2.1
  have hown : s.vm.findClass "RobotFaults" = some m.cls := hown
  have hl := lv_entry ([.ref (ad 0 0), .int x]) (n := 3) (Nat.le_of_ble_eq_true rfl)
  rw [lg_entry_eq]
  generalize (lg_sl ([.ref (ad 0 0), .int x]) ++ List.replicate (3 - (lg_sl ([.ref (ad 0 0), .int x])).length) Slot.unset).toArray = ls at hl ⊢
  have hl : lv_has ls 3 [(0, .ref (ad 0 0)), (1, .int x)] := hl
  refine lv_iload_n hx hb d_RF_robotAt_0 rfl (lv_at hl 1 rfl) ?_
  refine lv_if_lt (tgt := 22) hx hb d_RF_robotAt_1 (by decide) (fun c_1 => ?_) (fun c_1 => ?_)
  · skip
    refine lv_null hx hb d_RF_robotAt_22 ?_
    refine lv_astore_nN (lv' := [(2, .null), (0, .ref (ad 0 0)), (1, .int x)]) hx hb d_RF_robotAt_23 rfl hl (by decide) rfl (fun ls hl => ?_)
    refine lv_aload_nN hx hb d_RF_robotAt_24 rfl (lv_at hl 0 rfl) ?_
    refine lv_ifnonnullN hx hb d_RF_robotAt_25 ?_
    refine os_throwNW (text := "there is no such robot") hx hb hlt hown hE hV k_245 k_9 (by decide +kernel) (hl.1.trans hml.symm) d_RF_robotAt_28 d_RF_robotAt_31 d_RF_robotAt_32 d_RF_robotAt_35 d_RF_robotAt_38 hout hlocks (Nat.le_of_ble_eq_true rfl) (Nat.le_of_ble_eq_true rfl) (Nat.le_of_ble_eq_true rfl) (Nat.le_of_ble_eq_true rfl) (Nat.le_of_ble_eq_true rfl) (Nat.le_of_ble_eq_true rfl) ?_
    exact ⟨rfl, rfl, Or.inr ⟨fun i hi h => by have h9 := hR.1; subst h; first | exact absurd c_1 (nI_pos (by omega)) | exact absurd c_1 (nI_nlt (b := 1) (by omega) (by omega)) | exact absurd c_1 (nI_ge (b := 8) (by omega) (by decide)) | exact absurd c_1 (nI_nlt (a := 8) (by omega) (by decide)), rfl⟩⟩
  · skip
    refine lv_iload_n hx hb d_RF_robotAt_4 rfl (lv_at hl 1 rfl) ?_
    refine lv_aload_n hx hb d_RF_robotAt_5 rfl (lv_at hl 0 rfl) ?_
    refine os_get (C := "RobotFaults") (T := F_RF) (N := 11) (ci := 0) (K := 0) (j := 2) (i := 0) (v := .ref (ad 4 0)) hx hb hts i_RF hown hK hV rfl rfl (by decide) (hA.n 0 (by decide)) (hts _ k_70) (congrArg (fun z => va_rf (Option.map (ad 4) z)) (hA.r 2 (by decide))) d_RF_robotAt_6 ?_
    refine os_alen (K := 4) (i := 0) (t0 := 4) (v := 8) hx hb hK hV rfl rfl (hA.n 4 (by decide)) (congrArg Int32.ofNat hA.l4) d_RF_robotAt_9 ?_
    refine lv_icmp_ge (tgt := 22) hx hb d_RF_robotAt_10 (by decide) (fun c_2 => ?_) (fun c_2 => ?_)
    · skip
      refine lv_null hx hb d_RF_robotAt_22 ?_
      refine lv_astore_nN (lv' := [(2, .null), (0, .ref (ad 0 0)), (1, .int x)]) hx hb d_RF_robotAt_23 rfl hl (by decide) rfl (fun ls hl => ?_)
      refine lv_aload_nN hx hb d_RF_robotAt_24 rfl (lv_at hl 0 rfl) ?_
      refine lv_ifnonnullN hx hb d_RF_robotAt_25 ?_
      refine os_throwNW (text := "there is no such robot") hx hb hlt hown hE hV k_245 k_9 (by decide +kernel) (hl.1.trans hml.symm) d_RF_robotAt_28 d_RF_robotAt_31 d_RF_robotAt_32 d_RF_robotAt_35 d_RF_robotAt_38 hout hlocks (Nat.le_of_ble_eq_true rfl) (Nat.le_of_ble_eq_true rfl) (Nat.le_of_ble_eq_true rfl) (Nat.le_of_ble_eq_true rfl) (Nat.le_of_ble_eq_true rfl) (Nat.le_of_ble_eq_true rfl) ?_
      exact ⟨rfl, rfl, Or.inr ⟨fun i hi h => by have h9 := hR.1; subst h; first | exact absurd c_2 (nI_pos (by omega)) | exact absurd c_2 (nI_nlt (b := 1) (by omega) (by omega)) | exact absurd c_2 (nI_ge (b := 8) (by omega) (by decide)) | exact absurd c_2 (nI_nlt (a := 8) (by omega) (by decide)), rfl⟩⟩
    · skip
      refine lv_aload_n hx hb d_RF_robotAt_13 rfl (lv_at hl 0 rfl) ?_
      refine os_get (C := "RobotFaults") (T := F_RF) (N := 11) (ci := 0) (K := 0) (j := 2) (i := 0) (v := .ref (ad 4 0)) hx hb hts i_RF hown hK hV rfl rfl (by decide) (hA.n 0 (by decide)) (hts _ k_70) (congrArg (fun z => va_rf (Option.map (ad 4) z)) (hA.r 2 (by decide))) d_RF_robotAt_14 ?_
      refine lv_iload_n hx hb d_RF_robotAt_17 rfl (lv_at hl 1 rfl) ?_
      obtain ⟨n, hn, hxn⟩ := rng (N := 8) rfl (by decide) c_1 c_2
      refine os_aaldN (K := 4) (i := 0) (t0 := 4) (n := n) hx hb hK hV rfl rfl (hA.n 4 (by decide)) hxn (by rw [show os_l σ 4 0 = 8 from hA.l4]; exact hn) (by rw [show os_l σ 4 0 = 8 from hA.l4]; decide) d_RF_robotAt_18 ?_
      refine lv_goto (tgt := 23) hx hb d_RF_robotAt_19 (by decide) ?_
      cases q_3 : os_r σ 4 n 0 with
      | none =>
        refine lv_astore_nN (lv' := [(2, .null), (0, .ref (ad 0 0)), (1, .int x)]) hx hb d_RF_robotAt_23 rfl hl (by decide) rfl (fun ls hl => ?_)
        refine lv_aload_nN hx hb d_RF_robotAt_24 rfl (lv_at hl 0 rfl) ?_
        refine lv_ifnonnullN hx hb d_RF_robotAt_25 ?_
        refine os_throwNW (text := "there is no such robot") hx hb hlt hown hE hV k_245 k_9 (by decide +kernel) (hl.1.trans hml.symm) d_RF_robotAt_28 d_RF_robotAt_31 d_RF_robotAt_32 d_RF_robotAt_35 d_RF_robotAt_38 hout hlocks (Nat.le_of_ble_eq_true rfl) (Nat.le_of_ble_eq_true rfl) (Nat.le_of_ble_eq_true rfl) (Nat.le_of_ble_eq_true rfl) (Nat.le_of_ble_eq_true rfl) (Nat.le_of_ble_eq_true rfl) ?_
        have h1 := hR.no hn q_3
        exact ⟨rfl, rfl, Or.inr ⟨fun i hi h => by have h2 := nI_inj (h.symm.trans hxn) (by have := hR.1; omega) (by omega); omega, rfl⟩⟩
      | some t_4 =>
        refine lv_astore_n (lv' := [(2, .ref (ad 9 t_4)), (0, .ref (ad 0 0)), (1, .int x)]) hx hb d_RF_robotAt_23 rfl hl (by decide) rfl (fun ls hl => ?_)
        refine lv_aload_n hx hb d_RF_robotAt_24 rfl (lv_at hl 0 rfl) ?_
        refine lv_ifnonnull (tgt := 39) hx hb d_RF_robotAt_25 (by decide) ?_
        refine lv_aload_n hx hb d_RF_robotAt_39 rfl (lv_at hl 0 rfl) ?_
        refine os_aret hx hb hr (Or.inl ⟨_, rfl⟩) (Or.inr ⟨_, rfl⟩) hlocks hV (Nat.le_of_ble_eq_true rfl) (Nat.le_of_ble_eq_true rfl) d_RF_robotAt_40 ?_
        obtain ⟨h1, h2⟩ := hR.yes hn q_3
        subst h1
        exact ⟨rfl, rfl, Or.inl ⟨_, h2, hxn, rfl⟩⟩
set_option maxHeartbeats 4000000 in
set_option maxRecDepth 100000 in
theorem c_RF_alarmAt (l : Launch) (hlt : l.stackTraces = false) (D : va_G) (cA : Nat → ClassId) (bs : Nat) (σ : os_S) (ad : Nat → Nat → Nat) (x : Int32) (hA : rfA σ) (hR : rfS σ 6 11 40 8) : os_Met l y_RF_alarmAt prog_1_method_26_code 3 (some (.object "RobotFaults$Alarm")) { frames := 6, cells := 1, slots := 6, locals := 96 } D cA bs [.ref (ad 0 0), .int x] σ ad (pr σ ad 11 x 0 "java/util/NoSuchElementException") := by
  refine os_ofW (by decide) ?_
  intro p e s m below meth c hx hb hr hml hown hlocks hmn hout hE hV
  have hts := hE.hts (args := ([.ref (ad 0 0), .int x] : List Value).toArray)
  have hK := hE.2.1
  have hbs := hE.2.2.1
  have hown : s.vm.findClass "RobotFaults" = some m.cls := hown
  have hl := lv_entry ([.ref (ad 0 0), .int x]) (n := 3) (Nat.le_of_ble_eq_true rfl)
  rw [lg_entry_eq]
  generalize (lg_sl ([.ref (ad 0 0), .int x]) ++ List.replicate (3 - (lg_sl ([.ref (ad 0 0), .int x])).length) Slot.unset).toArray = ls at hl ⊢
  have hl : lv_has ls 3 [(0, .ref (ad 0 0)), (1, .int x)] := hl
  refine lv_iload_n hx hb d_RF_alarmAt_0 rfl (lv_at hl 1 rfl) ?_
  refine lv_if_lt (tgt := 22) hx hb d_RF_alarmAt_1 (by decide) (fun c_1 => ?_) (fun c_1 => ?_)
  · skip
    refine lv_null hx hb d_RF_alarmAt_22 ?_
    refine lv_astore_nN (lv' := [(2, .null), (0, .ref (ad 0 0)), (1, .int x)]) hx hb d_RF_alarmAt_23 rfl hl (by decide) rfl (fun ls hl => ?_)
    refine lv_aload_nN hx hb d_RF_alarmAt_24 rfl (lv_at hl 0 rfl) ?_
    refine lv_ifnonnullN hx hb d_RF_alarmAt_25 ?_
    refine os_throwNW (text := "there is no such alarm") hx hb hlt hown hE hV k_245 k_9 (by decide +kernel) (hl.1.trans hml.symm) d_RF_alarmAt_28 d_RF_alarmAt_31 d_RF_alarmAt_32 d_RF_alarmAt_35 d_RF_alarmAt_38 hout hlocks (Nat.le_of_ble_eq_true rfl) (Nat.le_of_ble_eq_true rfl) (Nat.le_of_ble_eq_true rfl) (Nat.le_of_ble_eq_true rfl) (Nat.le_of_ble_eq_true rfl) (Nat.le_of_ble_eq_true rfl) ?_
    exact ⟨rfl, rfl, Or.inr ⟨fun i hi h => by have h9 := hR.1; subst h; first | exact absurd c_1 (nI_pos (by omega)) | exact absurd c_1 (nI_nlt (b := 1) (by omega) (by omega)) | exact absurd c_1 (nI_ge (b := 40) (by omega) (by decide)) | exact absurd c_1 (nI_nlt (a := 40) (by omega) (by decide)), rfl⟩⟩
  · skip
    refine lv_iload_n hx hb d_RF_alarmAt_4 rfl (lv_at hl 1 rfl) ?_
    refine lv_aload_n hx hb d_RF_alarmAt_5 rfl (lv_at hl 0 rfl) ?_
    refine os_get (C := "RobotFaults") (T := F_RF) (N := 11) (ci := 0) (K := 0) (j := 4) (i := 0) (v := .ref (ad 6 0)) hx hb hts i_RF hown hK hV rfl rfl (by decide) (hA.n 0 (by decide)) (hts _ k_72) (congrArg (fun z => va_rf (Option.map (ad 6) z)) (hA.r 4 (by decide))) d_RF_alarmAt_6 ?_
    refine os_alen (K := 6) (i := 0) (t0 := 6) (v := 40) hx hb hK hV rfl rfl (hA.n 6 (by decide)) (congrArg Int32.ofNat hA.l6) d_RF_alarmAt_9 ?_
    refine lv_icmp_ge (tgt := 22) hx hb d_RF_alarmAt_10 (by decide) (fun c_2 => ?_) (fun c_2 => ?_)
    · skip
      refine lv_null hx hb d_RF_alarmAt_22 ?_
      refine lv_astore_nN (lv' := [(2, .null), (0, .ref (ad 0 0)), (1, .int x)]) hx hb d_RF_alarmAt_23 rfl hl (by decide) rfl (fun ls hl => ?_)
      refine lv_aload_nN hx hb d_RF_alarmAt_24 rfl (lv_at hl 0 rfl) ?_
      refine lv_ifnonnullN hx hb d_RF_alarmAt_25 ?_
      refine os_throwNW (text := "there is no such alarm") hx hb hlt hown hE hV k_245 k_9 (by decide +kernel) (hl.1.trans hml.symm) d_RF_alarmAt_28 d_RF_alarmAt_31 d_RF_alarmAt_32 d_RF_alarmAt_35 d_RF_alarmAt_38 hout hlocks (Nat.le_of_ble_eq_true rfl) (Nat.le_of_ble_eq_true rfl) (Nat.le_of_ble_eq_true rfl) (Nat.le_of_ble_eq_true rfl) (Nat.le_of_ble_eq_true rfl) (Nat.le_of_ble_eq_true rfl) ?_
      exact ⟨rfl, rfl, Or.inr ⟨fun i hi h => by have h9 := hR.1; subst h; first | exact absurd c_2 (nI_pos (by omega)) | exact absurd c_2 (nI_nlt (b := 1) (by omega) (by omega)) | exact absurd c_2 (nI_ge (b := 40) (by omega) (by decide)) | exact absurd c_2 (nI_nlt (a := 40) (by omega) (by decide)), rfl⟩⟩
    · skip
      refine lv_aload_n hx hb d_RF_alarmAt_13 rfl (lv_at hl 0 rfl) ?_
      refine os_get (C := "RobotFaults") (T := F_RF) (N := 11) (ci := 0) (K := 0) (j := 4) (i := 0) (v := .ref (ad 6 0)) hx hb hts i_RF hown hK hV rfl rfl (by decide) (hA.n 0 (by decide)) (hts _ k_72) (congrArg (fun z => va_rf (Option.map (ad 6) z)) (hA.r 4 (by decide))) d_RF_alarmAt_14 ?_
      refine lv_iload_n hx hb d_RF_alarmAt_17 rfl (lv_at hl 1 rfl) ?_
      obtain ⟨n, hn, hxn⟩ := rng (N := 40) rfl (by decide) c_1 c_2
      refine os_aaldN (K := 6) (i := 0) (t0 := 6) (n := n) hx hb hK hV rfl rfl (hA.n 6 (by decide)) hxn (by rw [show os_l σ 6 0 = 40 from hA.l6]; exact hn) (by rw [show os_l σ 6 0 = 40 from hA.l6]; decide) d_RF_alarmAt_18 ?_
      refine lv_goto (tgt := 23) hx hb d_RF_alarmAt_19 (by decide) ?_
      cases q_3 : os_r σ 6 n 0 with
      | none =>
        refine lv_astore_nN (lv' := [(2, .null), (0, .ref (ad 0 0)), (1, .int x)]) hx hb d_RF_alarmAt_23 rfl hl (by decide) rfl (fun ls hl => ?_)
        refine lv_aload_nN hx hb d_RF_alarmAt_24 rfl (lv_at hl 0 rfl) ?_
        refine lv_ifnonnullN hx hb d_RF_alarmAt_25 ?_
        refine os_throwNW (text := "there is no such alarm") hx hb hlt hown hE hV k_245 k_9 (by decide +kernel) (hl.1.trans hml.symm) d_RF_alarmAt_28 d_RF_alarmAt_31 d_RF_alarmAt_32 d_RF_alarmAt_35 d_RF_alarmAt_38 hout hlocks (Nat.le_of_ble_eq_true rfl) (Nat.le_of_ble_eq_true rfl) (Nat.le_of_ble_eq_true rfl) (Nat.le_of_ble_eq_true rfl) (Nat.le_of_ble_eq_true rfl) (Nat.le_of_ble_eq_true rfl) ?_
        have h1 := hR.no hn q_3
        exact ⟨rfl, rfl, Or.inr ⟨fun i hi h => by have h2 := nI_inj (h.symm.trans hxn) (by have := hR.1; omega) (by omega); omega, rfl⟩⟩
      | some t_4 =>
        refine lv_astore_n (lv' := [(2, .ref (ad 11 t_4)), (0, .ref (ad 0 0)), (1, .int x)]) hx hb d_RF_alarmAt_23 rfl hl (by decide) rfl (fun ls hl => ?_)
        refine lv_aload_n hx hb d_RF_alarmAt_24 rfl (lv_at hl 0 rfl) ?_
        refine lv_ifnonnull (tgt := 39) hx hb d_RF_alarmAt_25 (by decide) ?_
        refine lv_aload_n hx hb d_RF_alarmAt_39 rfl (lv_at hl 0 rfl) ?_
        refine os_aret hx hb hr (Or.inl ⟨_, rfl⟩) (Or.inr ⟨_, rfl⟩) hlocks hV (Nat.le_of_ble_eq_true rfl) (Nat.le_of_ble_eq_true rfl) d_RF_alarmAt_40 ?_
        obtain ⟨h1, h2⟩ := hR.yes hn q_3
        subst h1
        exact ⟨rfl, rfl, Or.inl ⟨_, h2, hxn, rfl⟩⟩
set_option maxHeartbeats 4000000 in
set_option maxRecDepth 100000 in
theorem c_RF_faultAt (l : Launch) (hlt : l.stackTraces = false) (D : va_G) (cA : Nat → ClassId) (bs : Nat) (σ : os_S) (ad : Nat → Nat → Nat) (x : Int32) (hA : rfA σ) (hR : rfS σ 5 10 40 7) : os_Met l y_RF_faultAt prog_1_method_25_code 3 (some (.object "RobotFaults$Fault")) { frames := 6, cells := 1, slots := 6, locals := 96 } D cA bs [.ref (ad 0 0), .int x] σ ad (pr σ ad 10 x 1 "java/util/NoSuchElementException") := by
  refine os_ofW (by decide) ?_
  intro p e s m below meth c hx hb hr hml hown hlocks hmn hout hE hV
  have hts := hE.hts (args := ([.ref (ad 0 0), .int x] : List Value).toArray)
  have hK := hE.2.1
  have hbs := hE.2.2.1
  have hown : s.vm.findClass "RobotFaults" = some m.cls := hown
  have hl := lv_entry ([.ref (ad 0 0), .int x]) (n := 3) (Nat.le_of_ble_eq_true rfl)
  rw [lg_entry_eq]
  generalize (lg_sl ([.ref (ad 0 0), .int x]) ++ List.replicate (3 - (lg_sl ([.ref (ad 0 0), .int x])).length) Slot.unset).toArray = ls at hl ⊢
  have hl : lv_has ls 3 [(0, .ref (ad 0 0)), (1, .int x)] := hl
  refine lv_iload_n hx hb d_RF_faultAt_0 rfl (lv_at hl 1 rfl) ?_
  refine lv_iconst (v := 1) hx hb d_RF_faultAt_1 (by decide) ?_
  refine lv_icmp_lt (tgt := 25) hx hb d_RF_faultAt_2 (by decide) (fun c_1 => ?_) (fun c_1 => ?_)
  · skip
    refine lv_null hx hb d_RF_faultAt_25 ?_
    refine lv_astore_nN (lv' := [(2, .null), (0, .ref (ad 0 0)), (1, .int x)]) hx hb d_RF_faultAt_26 rfl hl (by decide) rfl (fun ls hl => ?_)
    refine lv_aload_nN hx hb d_RF_faultAt_27 rfl (lv_at hl 0 rfl) ?_
    refine lv_ifnonnullN hx hb d_RF_faultAt_28 ?_
    refine os_throwNW (text := "there is no such fault") hx hb hlt hown hE hV k_245 k_9 (by decide +kernel) (hl.1.trans hml.symm) d_RF_faultAt_31 d_RF_faultAt_34 d_RF_faultAt_35 d_RF_faultAt_38 d_RF_faultAt_41 hout hlocks (Nat.le_of_ble_eq_true rfl) (Nat.le_of_ble_eq_true rfl) (Nat.le_of_ble_eq_true rfl) (Nat.le_of_ble_eq_true rfl) (Nat.le_of_ble_eq_true rfl) (Nat.le_of_ble_eq_true rfl) ?_
    exact ⟨rfl, rfl, Or.inr ⟨fun i hi h => by have h9 := hR.1; subst h; first | exact absurd c_1 (nI_pos (by omega)) | exact absurd c_1 (nI_nlt (b := 1) (by omega) (by omega)) | exact absurd c_1 (nI_ge (b := 40) (by omega) (by decide)) | exact absurd c_1 (nI_nlt (a := 40) (by omega) (by decide)), rfl⟩⟩
  · skip
    refine lv_iload_n hx hb d_RF_faultAt_5 rfl (lv_at hl 1 rfl) ?_
    refine lv_aload_n hx hb d_RF_faultAt_6 rfl (lv_at hl 0 rfl) ?_
    refine os_get (C := "RobotFaults") (T := F_RF) (N := 11) (ci := 0) (K := 0) (j := 3) (i := 0) (v := .ref (ad 5 0)) hx hb hts i_RF hown hK hV rfl rfl (by decide) (hA.n 0 (by decide)) (hts _ k_71) (congrArg (fun z => va_rf (Option.map (ad 5) z)) (hA.r 3 (by decide))) d_RF_faultAt_7 ?_
    refine os_alen (K := 5) (i := 0) (t0 := 5) (v := 40) hx hb hK hV rfl rfl (hA.n 5 (by decide)) (congrArg Int32.ofNat hA.l5) d_RF_faultAt_10 ?_
    refine lv_icmp_gt (tgt := 25) hx hb d_RF_faultAt_11 (by decide) (fun c_2 => ?_) (fun c_2 => ?_)
    · skip
      refine lv_null hx hb d_RF_faultAt_25 ?_
      refine lv_astore_nN (lv' := [(2, .null), (0, .ref (ad 0 0)), (1, .int x)]) hx hb d_RF_faultAt_26 rfl hl (by decide) rfl (fun ls hl => ?_)
      refine lv_aload_nN hx hb d_RF_faultAt_27 rfl (lv_at hl 0 rfl) ?_
      refine lv_ifnonnullN hx hb d_RF_faultAt_28 ?_
      refine os_throwNW (text := "there is no such fault") hx hb hlt hown hE hV k_245 k_9 (by decide +kernel) (hl.1.trans hml.symm) d_RF_faultAt_31 d_RF_faultAt_34 d_RF_faultAt_35 d_RF_faultAt_38 d_RF_faultAt_41 hout hlocks (Nat.le_of_ble_eq_true rfl) (Nat.le_of_ble_eq_true rfl) (Nat.le_of_ble_eq_true rfl) (Nat.le_of_ble_eq_true rfl) (Nat.le_of_ble_eq_true rfl) (Nat.le_of_ble_eq_true rfl) ?_
      exact ⟨rfl, rfl, Or.inr ⟨fun i hi h => by have h9 := hR.1; subst h; first | exact absurd c_2 (nI_pos (by omega)) | exact absurd c_2 (nI_nlt (b := 1) (by omega) (by omega)) | exact absurd c_2 (nI_ge (b := 40) (by omega) (by decide)) | exact absurd c_2 (nI_nlt (a := 40) (by omega) (by decide)), rfl⟩⟩
    · skip
      refine lv_aload_n hx hb d_RF_faultAt_14 rfl (lv_at hl 0 rfl) ?_
      refine os_get (C := "RobotFaults") (T := F_RF) (N := 11) (ci := 0) (K := 0) (j := 3) (i := 0) (v := .ref (ad 5 0)) hx hb hts i_RF hown hK hV rfl rfl (by decide) (hA.n 0 (by decide)) (hts _ k_71) (congrArg (fun z => va_rf (Option.map (ad 5) z)) (hA.r 3 (by decide))) d_RF_faultAt_15 ?_
      refine lv_iload_n hx hb d_RF_faultAt_18 rfl (lv_at hl 1 rfl) ?_
      refine lv_iconst (v := 1) hx hb d_RF_faultAt_19 (by decide) ?_
      refine lv_isub hx hb d_RF_faultAt_20 ?_
      obtain ⟨n, hn, hxn⟩ := rng1 (N := 40) rfl (by decide) c_1 c_2
      refine os_aaldN (K := 5) (i := 0) (t0 := 5) (n := n) hx hb hK hV rfl rfl (hA.n 5 (by decide)) (by rw [hxn]; exact nI_pred n) (by rw [show os_l σ 5 0 = 40 from hA.l5]; exact hn) (by rw [show os_l σ 5 0 = 40 from hA.l5]; decide) d_RF_faultAt_21 ?_
      refine lv_goto (tgt := 26) hx hb d_RF_faultAt_22 (by decide) ?_
      cases q_3 : os_r σ 5 n 0 with
      | none =>
        refine lv_astore_nN (lv' := [(2, .null), (0, .ref (ad 0 0)), (1, .int x)]) hx hb d_RF_faultAt_26 rfl hl (by decide) rfl (fun ls hl => ?_)
        refine lv_aload_nN hx hb d_RF_faultAt_27 rfl (lv_at hl 0 rfl) ?_
        refine lv_ifnonnullN hx hb d_RF_faultAt_28 ?_
        refine os_throwNW (text := "there is no such fault") hx hb hlt hown hE hV k_245 k_9 (by decide +kernel) (hl.1.trans hml.symm) d_RF_faultAt_31 d_RF_faultAt_34 d_RF_faultAt_35 d_RF_faultAt_38 d_RF_faultAt_41 hout hlocks (Nat.le_of_ble_eq_true rfl) (Nat.le_of_ble_eq_true rfl) (Nat.le_of_ble_eq_true rfl) (Nat.le_of_ble_eq_true rfl) (Nat.le_of_ble_eq_true rfl) (Nat.le_of_ble_eq_true rfl) ?_
        have h1 := hR.no hn q_3
        exact ⟨rfl, rfl, Or.inr ⟨fun i hi h => by have h2 := nI_inj (h.symm.trans hxn) (by have := hR.1; omega) (by omega); omega, rfl⟩⟩
      | some t_4 =>
        refine lv_astore_n (lv' := [(2, .ref (ad 10 t_4)), (0, .ref (ad 0 0)), (1, .int x)]) hx hb d_RF_faultAt_26 rfl hl (by decide) rfl (fun ls hl => ?_)
        refine lv_aload_n hx hb d_RF_faultAt_27 rfl (lv_at hl 0 rfl) ?_
        refine lv_ifnonnull (tgt := 42) hx hb d_RF_faultAt_28 (by decide) ?_
        refine lv_aload_n hx hb d_RF_faultAt_42 rfl (lv_at hl 0 rfl) ?_
        refine os_aret hx hb hr (Or.inl ⟨_, rfl⟩) (Or.inr ⟨_, rfl⟩) hlocks hV (Nat.le_of_ble_eq_true rfl) (Nat.le_of_ble_eq_true rfl) d_RF_faultAt_43 ?_
        obtain ⟨h1, h2⟩ := hR.yes hn q_3
        subst h1
        exact ⟨rfl, rfl, Or.inl ⟨_, h2, hxn, rfl⟩⟩
end
section
/-! LOOPS THAT READ: faults and alarms -/
def fR (σ : os_S) (i : Nat) : Nat := (os_r σ 10 1 i).getD 0
def aR (σ : os_S) (i : Nat) : Nat := (os_r σ 11 1 i).getD 0
def aL (σ : os_S) (i : Nat) : Nat := (os_r σ 11 7 i).getD 0
def pR (σ : os_S) (i : Nat) : Nat := (os_r σ 12 0 i).getD 0
/-- faults, alarms: in their arrays; their references -/
def rfF (σ : os_S) : Prop := rfS σ 5 10 40 7 ∧ ∀ i, i < os_n σ 10 → os_r σ 10 1 i = some (fR σ i)
def rfL (σ : os_S) : Prop := rfS σ 6 11 40 8 ∧ (∀ i, i < os_n σ 11 → os_r σ 11 1 i = some (aR σ i)) ∧ ∀ i, i < os_n σ 11 → os_r σ 11 7 i = some (aL σ i)
theorem rfS.at {σ : os_S} {Ka K N cf j : Nat} (h : rfS σ Ka K N cf) (hj : j < N) (hn : j < os_n σ K) : os_r σ Ka j 0 = some j := by rw [h.2.2 j hj, if_pos hn]
theorem rfS.an {σ : os_S} {Ka K N cf j : Nat} (h : rfS σ Ka K N cf) (hj : j < N) (hn : ¬ j < os_n σ K) : os_r σ Ka j 0 = none := by rw [h.2.2 j hj, if_neg hn]
/-- a fault is open -/
def fop (σ : os_S) (i : Nat) : Bool := decide (os_g σ 10 10 i = -1)
/-- the kinds of the open faults of a robot, among the first -/
def okF (σ : os_S) (r : Nat) : Nat → Int32
  | 0 => 0
  | j + 1 => if j < os_n σ 10 ∧ fop σ j = true ∧ fR σ j = r then okF σ r j ||| ((1 : Int32) <<< (os_g σ 10 2 j &&& 31)) else okF σ r j
/-- how many faults are open, among the first -/
def ocF (σ : os_S) : Nat → Int32
  | 0 => 0
  | j + 1 => if j < os_n σ 10 ∧ fop σ j = true then ocF σ j + 1 else ocF σ j
/-- how many alarms nobody acknowledged, among the first -/
def ucF (σ : os_S) : Nat → Int32
  | 0 => 0
  | j + 1 => if j < os_n σ 11 ∧ os_g σ 11 6 j = -1 then ucF σ j + 1 else ucF σ j
/-- seconds that faults were open, among the first -/
def osF (σ : os_S) (t : Int32) : Nat → Int32
  | 0 => 0
  | j + 1 => if j < os_n σ 10 then osF σ t j + ((if fop σ j = true then t else os_g σ 10 10 j) - os_g σ 10 3 j) else osF σ t j
theorem lt_of_nle {j N : Nat} {M : Int32} (h : ¬ M ≤ nI j) (hj : j ≤ N) (hM : M = nI N := by rfl) (hN : N < 2 ^ 31 := by decide) : j < N := by
  subst hM
  rcases Nat.lt_or_ge j N with q | q
  · exact q
  · exact absurd (nI_le q (by omega)) h
theorem eq_of_le {j N : Nat} {M : Int32} (h : M ≤ nI j) (hj : j ≤ N) (hM : M = nI N := by rfl) (hN : N < 2 ^ 31 := by decide) : j = N := by
  subst hM
  have := (nI_leI hN (by omega)).mp h
  omega
theorem bz_t {b : Bool} (h : bz b = 0) (g : b = true) : False := by rw [g] at h; cases h
set_option maxHeartbeats 4000000 in
set_option maxRecDepth 100000 in
theorem c_RF_openKinds (l : Launch) (hlt : l.stackTraces = false) (D : va_G) (cA : Nat → ClassId) (bs : Nat) (σ : os_S) (ad : Nat → Nat → Nat) (i : Nat) (hA : rfA σ) (hF : rfF σ) (hi : i < os_n σ 9) : os_Met l y_RF_openKinds prog_1_method_38_code 7 (some .int) { frames := 1, cells := 0, slots := 0, locals := 20 } D cA bs [.ref (ad 0 0), .ref (ad 9 i)] σ ad (pv σ ad (some (.int (okF σ i 40)))) := by
  refine os_ofW (by decide) ?_
  intro p e s m below meth c hx hb hr hml hown hlocks hmn hout hE hV
  have hts := hE.hts (args := ([.ref (ad 0 0), .ref (ad 9 i)] : List Value).toArray)
  have hK := hE.2.1
  have hbs := hE.2.2.1
  have hown : s.vm.findClass "RobotFaults" = some m.cls := hown
  have hl := lv_entry ([.ref (ad 0 0), .ref (ad 9 i)]) (n := 7) (Nat.le_of_ble_eq_true rfl)
  rw [lg_entry_eq]
  generalize (lg_sl ([.ref (ad 0 0), .ref (ad 9 i)]) ++ List.replicate (7 - (lg_sl ([.ref (ad 0 0), .ref (ad 9 i)])).length) Slot.unset).toArray = ls at hl ⊢
  have hl : lv_has ls 7 [(0, .ref (ad 0 0)), (1, .ref (ad 9 i))] := hl
  refine lv_iconst (v := 0) hx hb d_RF_openKinds_0 (by decide) ?_
  refine lv_istore_n (lv' := [(2, .int 0), (0, .ref (ad 0 0)), (1, .ref (ad 9 i))]) hx hb d_RF_openKinds_1 rfl hl (by decide) rfl (fun ls hl => ?_)
  refine lv_aload_n hx hb d_RF_openKinds_2 rfl (lv_at hl 1 rfl) ?_
  refine os_get (C := "RobotFaults") (T := F_RF) (N := 11) (ci := 0) (K := 0) (j := 3) (i := 0) (v := .ref (ad 5 0)) hx hb hts i_RF hown hK hV rfl rfl (by decide) (hA.n 0 (by decide)) (hts _ k_71) (congrArg (fun z => va_rf (Option.map (ad 5) z)) (hA.r 3 (by decide))) d_RF_openKinds_3 ?_
  refine lv_astore_n (lv' := [(3, .ref (ad 5 0)), (2, .int 0), (0, .ref (ad 0 0)), (1, .ref (ad 9 i))]) hx hb d_RF_openKinds_6 rfl hl (by decide) rfl (fun ls hl => ?_)
  refine lv_aload_n hx hb d_RF_openKinds_7 rfl (lv_at hl 0 rfl) ?_
  refine os_alen (K := 5) (i := 0) (t0 := 5) (v := 40) hx hb hK hV rfl rfl (hA.n 5 (by decide)) (congrArg Int32.ofNat hA.l5) d_RF_openKinds_8 ?_
  refine lv_istore (lv' := [(4, .int 40), (3, .ref (ad 5 0)), (2, .int 0), (0, .ref (ad 0 0)), (1, .ref (ad 9 i))]) hx hb d_RF_openKinds_9 hl (by decide) rfl (fun ls hl => ?_)
  refine lv_iconst (v := 0) hx hb d_RF_openKinds_11 (by decide) ?_
  refine lv_istore (lv' := [(5, .int 0), (4, .int 40), (3, .ref (ad 5 0)), (2, .int 0), (0, .ref (ad 0 0)), (1, .ref (ad 9 i))]) hx hb d_RF_openKinds_12 hl (by decide) rfl (fun ls hl => ?_)
  have loop : ∀ (n j : Nat) (a : Int32) (ls : Array Slot) (H : Heap) (locs : List Loc), j ≤ 40 → 40 < j + n → a = okF σ i j → os_V D cA bs σ ad s σ ad H locs → lv_has ls 7 [(0, .ref (ad 0 0)), (1, .ref (ad 9 i)), (2, .int a), (3, .ref (ad 5 0)), (4, .int 40), (5, .int (nI j))] → W p l e { frames := 1, cells := 0, slots := 0, locals := 20 } s m ([.ref (ad 0 0), .ref (ad 9 i)] : List Value).toArray below meth c H locs (0) (0) (os_End D cA bs below s σ ad { frames := 1, cells := 0, slots := 0, locals := 20 } (pv σ ad (some (.int (okF σ i 40))))) (F0 m 14 ls []) := by
    intro n
    induction n with
    | zero => intro j a ls H locs h1 h2; exact absurd h2 (by omega)
    | succ n loop_ih =>
      intro j a ls H locs loop_j loop_n loop_i hV hl
      refine lv_iload hx hb d_RF_openKinds_14 (lv_at hl 5 rfl) ?_
      refine lv_iload hx hb d_RF_openKinds_16 (lv_at hl 4 rfl) ?_
      refine lv_icmp_ge (tgt := 65) hx hb d_RF_openKinds_18 (by decide) (fun c_1 => ?_) (fun c_1 => ?_)
      · skip
        refine lv_iload_n hx hb d_RF_openKinds_65 rfl (lv_at hl 2 rfl) ?_
        refine os_iret hx hb hr hlocks hV (Nat.le_of_ble_eq_true rfl) (Nat.le_of_ble_eq_true rfl) d_RF_openKinds_66 ?_
        have hj := eq_of_le c_1 loop_j
        subst hj
        exact ⟨rfl, rfl, by rw [loop_i]⟩
      · skip
        refine lv_aload_n hx hb d_RF_openKinds_21 rfl (lv_at hl 3 rfl) ?_
        refine lv_iload hx hb d_RF_openKinds_22 (lv_at hl 5 rfl) ?_
        refine os_aaldN (K := 5) (i := 0) (t0 := 5) (n := j) hx hb hK hV rfl rfl (hA.n 5 (by decide)) rfl (by rw [show os_l σ 5 0 = 40 from hA.l5]; exact (lt_of_nle c_1 loop_j)) (by rw [show os_l σ 5 0 = 40 from hA.l5]; decide) d_RF_openKinds_24 ?_
        by_cases u_2 : j < os_n σ 10
        · skip
          refine W.eq (g2 := F0 m 25 ls [.ref (ad 10 j)]) (by rw [hF.1.at (lt_of_nle c_1 loop_j) u_2]; rfl) ?_
          refine lv_astore (lv' := [(6, .ref (ad 10 j)), (0, .ref (ad 0 0)), (1, .ref (ad 9 i)), (2, .int a), (3, .ref (ad 5 0)), (4, .int 40), (5, .int (nI j))]) hx hb d_RF_openKinds_25 hl (by decide) rfl (fun ls hl => ?_)
          refine lv_aload hx hb d_RF_openKinds_27 (lv_at hl 0 rfl) ?_
          refine lv_ifnull hx hb d_RF_openKinds_29 ?_
          refine lv_aload hx hb d_RF_openKinds_32 (lv_at hl 0 rfl) ?_
          refine os_call (c_Fault_isOpen l hlt D cA bs σ ad j u_2) hE hV k_129 k_13 (os_inV (C := "RobotFaults$Fault") (n := 0) (bytes := prog_3_method_2_code) (maxL := 1) (ret := (some .boolean)) hx hb hown (hts _ k_126) (hts _ k_127) (hts _ k_128) (hts _ k_129) (by decide +kernel) rfl (os_recv hK hV rfl rfl u_2) rfl d_RF_openKinds_34) (hl.1.trans hml.symm) (Nat.le_of_ble_eq_true rfl) (Nat.le_of_ble_eq_true rfl) (Nat.le_of_ble_eq_true rfl) (Nat.le_of_ble_eq_true rfl) (Nat.le_of_ble_eq_true rfl) (fun v σ1 ad1 H locs hp hext hV => ?_) (fun E q ce σ1 ad1 H locs hp hext hV hce hcv hcl => ?_)
          · obtain ⟨rfl, rfl, hp⟩ := hp
            cases hp
            refine W.eq (g2 := F0 m 37 ls [.int (bz (decide (os_g σ 10 10 j = -1)))]) rfl ?_
            refine lv_if_eq (tgt := 59) hx hb d_RF_openKinds_37 (by decide) (fun c_3 => ?_) (fun c_3 => ?_)
            · skip
              refine lv_iinc (v := nI (j + 1)) (lv' := [(5, .int (nI (j + 1))), (6, .ref (ad 10 j)), (0, .ref (ad 0 0)), (1, .ref (ad 9 i)), (2, .int a), (3, .ref (ad 5 0)), (4, .int 40)]) hx hb d_RF_openKinds_59 hl (k := 6) rfl (nI_1 j) (by decide) rfl (fun ls hl => ?_)
              refine lv_goto (tgt := 14) hx hb d_RF_openKinds_62 (by decide) ?_
              exact loop_ih (j + 1) a ls H locs (Nat.succ_le_of_lt (lt_of_nle c_1 loop_j)) (by omega) (by rw [okF, if_neg (fun h => bz_t c_3 h.2.1), loop_i]) hV (lv_sub hl [2, 3, 4, 5, 6, 0] rfl)
            · skip
              refine lv_aload hx hb d_RF_openKinds_40 (lv_at hl 0 rfl) ?_
              refine os_getN (C := "RobotFaults$Fault") (T := F_Fault) (N := 11) (ci := 4) (K := 10) (j := 1) (i := j) (v := .ref (ad 9 (fR σ j))) hx hb hts i_Fault hown hK hV rfl rfl (by decide) u_2 (hts _ k_421) (congrArg (fun z => va_rf (Option.map (ad 9) z)) (hF.2 j u_2)) d_RF_openKinds_42 ?_
              refine lv_aload_n hx hb d_RF_openKinds_45 rfl (lv_at hl 2 rfl) ?_
              refine lv_acmp_ne (rx := some (ad 9 (fR σ j))) (ry := some (ad 9 i)) (tgt := 59) hx hb d_RF_openKinds_46 (by decide) (fun c_4 => ?_) (fun c_4 => ?_)
              · skip
                have e_5 : ¬ fR σ j = i := fun h => c_4 (by rw [h])
                refine lv_iinc (v := nI (j + 1)) (lv' := [(5, .int (nI (j + 1))), (6, .ref (ad 10 j)), (0, .ref (ad 0 0)), (1, .ref (ad 9 i)), (2, .int a), (3, .ref (ad 5 0)), (4, .int 40)]) hx hb d_RF_openKinds_59 hl (k := 6) rfl (nI_1 j) (by decide) rfl (fun ls hl => ?_)
                refine lv_goto (tgt := 14) hx hb d_RF_openKinds_62 (by decide) ?_
                exact loop_ih (j + 1) a ls H locs (Nat.succ_le_of_lt (lt_of_nle c_1 loop_j)) (by omega) (by rw [okF, if_neg (fun h => e_5 h.2.2), loop_i]) hV (lv_sub hl [2, 3, 4, 5, 6, 0] rfl)
              · skip
                have e_6 : fR σ j = i := (hV.1.2.1 9 (fR σ j) 9 i (hV.1.2.2.1 10 j u_2 1 9 _ rfl (hF.2 j u_2)) hi (Option.some.inj c_4)).2
                refine lv_iload_n hx hb d_RF_openKinds_49 rfl (lv_at hl 3 rfl) ?_
                refine lv_iconst (v := 1) hx hb d_RF_openKinds_50 (by decide) ?_
                refine lv_aload hx hb d_RF_openKinds_51 (lv_at hl 0 rfl) ?_
                refine os_getN (C := "RobotFaults$Fault") (T := F_Fault) (N := 11) (ci := 4) (K := 10) (j := 2) (i := j) (v := .int (os_g σ 10 2 j)) hx hb hts i_Fault hown hK hV rfl rfl (by decide) u_2 (hts _ k_424) rfl d_RF_openKinds_53 ?_
                refine lv_ishl hx hb d_RF_openKinds_56 ?_
                refine lv_ior hx hb d_RF_openKinds_57 ?_
                refine lv_istore_n (lv' := [(2, .int (a ||| (1 <<< ((os_g σ 10 2 j) &&& 31)))), (6, .ref (ad 10 j)), (0, .ref (ad 0 0)), (1, .ref (ad 9 i)), (3, .ref (ad 5 0)), (4, .int 40), (5, .int (nI j))]) hx hb d_RF_openKinds_58 rfl hl (by decide) rfl (fun ls hl => ?_)
                refine lv_iinc (v := nI (j + 1)) (lv' := [(5, .int (nI (j + 1))), (2, .int (a ||| (1 <<< ((os_g σ 10 2 j) &&& 31)))), (6, .ref (ad 10 j)), (0, .ref (ad 0 0)), (1, .ref (ad 9 i)), (3, .ref (ad 5 0)), (4, .int 40)]) hx hb d_RF_openKinds_59 hl (k := 6) rfl (nI_1 j) (by decide) rfl (fun ls hl => ?_)
                refine lv_goto (tgt := 14) hx hb d_RF_openKinds_62 (by decide) ?_
                exact loop_ih (j + 1) (a ||| (1 <<< ((os_g σ 10 2 j) &&& 31))) ls H locs (Nat.succ_le_of_lt (lt_of_nle c_1 loop_j)) (by omega) (by rw [okF, if_pos ⟨u_2, bz_1 c_3, e_6⟩, loop_i]) hV (lv_sub hl [3, 4, 1, 5, 6, 0] rfl)
          · exact absurd hp.2.2 (fun h => by cases h)
        · skip
          refine W.eq (g2 := F0 m 25 ls [.null]) (by rw [hF.1.an (lt_of_nle c_1 loop_j) u_2]; rfl) ?_
          refine lv_astoreN (lv' := [(6, .null), (0, .ref (ad 0 0)), (1, .ref (ad 9 i)), (2, .int a), (3, .ref (ad 5 0)), (4, .int 40), (5, .int (nI j))]) hx hb d_RF_openKinds_25 hl (by decide) rfl (fun ls hl => ?_)
          refine lv_aloadN hx hb d_RF_openKinds_27 (lv_at hl 0 rfl) ?_
          refine lv_ifnullN (tgt := 59) hx hb d_RF_openKinds_29 (by decide) ?_
          refine lv_iinc (v := nI (j + 1)) (lv' := [(5, .int (nI (j + 1))), (6, .null), (0, .ref (ad 0 0)), (1, .ref (ad 9 i)), (2, .int a), (3, .ref (ad 5 0)), (4, .int 40)]) hx hb d_RF_openKinds_59 hl (k := 6) rfl (nI_1 j) (by decide) rfl (fun ls hl => ?_)
          refine lv_goto (tgt := 14) hx hb d_RF_openKinds_62 (by decide) ?_
          exact loop_ih (j + 1) a ls H locs (Nat.succ_le_of_lt (lt_of_nle c_1 loop_j)) (by omega) (by rw [okF, if_neg (fun h => u_2 h.1), loop_i]) hV (lv_sub hl [2, 3, 4, 5, 6, 0] rfl)
  exact loop 41 0 0 ls _ _ (by omega) (by omega) rfl hV (lv_sub hl [4, 5, 3, 2, 1, 0] rfl)
set_option maxHeartbeats 4000000 in
set_option maxRecDepth 100000 in
theorem c_RF_openFaultCount (l : Launch) (hlt : l.stackTraces = false) (D : va_G) (cA : Nat → ClassId) (bs : Nat) (σ : os_S) (ad : Nat → Nat → Nat) (hA : rfA σ) (hF : rfF σ) : os_Met l y_RF_openFaultCount prog_1_method_44_code 6 (some .int) { frames := 1, cells := 0, slots := 0, locals := 20 } D cA bs [.ref (ad 0 0)] σ ad (pv σ ad (some (.int (ocF σ 40)))) := by
  refine os_ofW (by decide) ?_
  intro p e s m below meth c hx hb hr hml hown hlocks hmn hout hE hV
  have hts := hE.hts (args := ([.ref (ad 0 0)] : List Value).toArray)
  have hK := hE.2.1
  have hbs := hE.2.2.1
  have hown : s.vm.findClass "RobotFaults" = some m.cls := hown
  have hl := lv_entry ([.ref (ad 0 0)]) (n := 6) (Nat.le_of_ble_eq_true rfl)
  rw [lg_entry_eq]
  generalize (lg_sl ([.ref (ad 0 0)]) ++ List.replicate (6 - (lg_sl ([.ref (ad 0 0)])).length) Slot.unset).toArray = ls at hl ⊢
  have hl : lv_has ls 6 [(0, .ref (ad 0 0))] := hl
  refine lv_iconst (v := 0) hx hb d_RF_openFaultCount_0 (by decide) ?_
  refine lv_istore_n (lv' := [(1, .int 0), (0, .ref (ad 0 0))]) hx hb d_RF_openFaultCount_1 rfl hl (by decide) rfl (fun ls hl => ?_)
  refine lv_aload_n hx hb d_RF_openFaultCount_2 rfl (lv_at hl 1 rfl) ?_
  refine os_get (C := "RobotFaults") (T := F_RF) (N := 11) (ci := 0) (K := 0) (j := 3) (i := 0) (v := .ref (ad 5 0)) hx hb hts i_RF hown hK hV rfl rfl (by decide) (hA.n 0 (by decide)) (hts _ k_71) (congrArg (fun z => va_rf (Option.map (ad 5) z)) (hA.r 3 (by decide))) d_RF_openFaultCount_3 ?_
  refine lv_astore_n (lv' := [(2, .ref (ad 5 0)), (1, .int 0), (0, .ref (ad 0 0))]) hx hb d_RF_openFaultCount_6 rfl hl (by decide) rfl (fun ls hl => ?_)
  refine lv_aload_n hx hb d_RF_openFaultCount_7 rfl (lv_at hl 0 rfl) ?_
  refine os_alen (K := 5) (i := 0) (t0 := 5) (v := 40) hx hb hK hV rfl rfl (hA.n 5 (by decide)) (congrArg Int32.ofNat hA.l5) d_RF_openFaultCount_8 ?_
  refine lv_istore_n (lv' := [(3, .int 40), (2, .ref (ad 5 0)), (1, .int 0), (0, .ref (ad 0 0))]) hx hb d_RF_openFaultCount_9 rfl hl (by decide) rfl (fun ls hl => ?_)
  refine lv_iconst (v := 0) hx hb d_RF_openFaultCount_10 (by decide) ?_
  refine lv_istore (lv' := [(4, .int 0), (3, .int 40), (2, .ref (ad 5 0)), (1, .int 0), (0, .ref (ad 0 0))]) hx hb d_RF_openFaultCount_11 hl (by decide) rfl (fun ls hl => ?_)
  have loop : ∀ (n j : Nat) (a : Int32) (ls : Array Slot) (H : Heap) (locs : List Loc), j ≤ 40 → 40 < j + n → a = ocF σ j → os_V D cA bs σ ad s σ ad H locs → lv_has ls 6 [(0, .ref (ad 0 0)), (1, .int a), (2, .ref (ad 5 0)), (3, .int 40), (4, .int (nI j))] → W p l e { frames := 1, cells := 0, slots := 0, locals := 20 } s m ([.ref (ad 0 0)] : List Value).toArray below meth c H locs (0) (0) (os_End D cA bs below s σ ad { frames := 1, cells := 0, slots := 0, locals := 20 } (pv σ ad (some (.int (ocF σ 40))))) (F0 m 13 ls []) := by
    intro n
    induction n with
    | zero => intro j a ls H locs h1 h2; exact absurd h2 (by omega)
    | succ n loop_ih =>
      intro j a ls H locs loop_j loop_n loop_i hV hl
      refine lv_iload hx hb d_RF_openFaultCount_13 (lv_at hl 4 rfl) ?_
      refine lv_iload_n hx hb d_RF_openFaultCount_15 rfl (lv_at hl 3 rfl) ?_
      refine lv_icmp_ge (tgt := 47) hx hb d_RF_openFaultCount_16 (by decide) (fun c_1 => ?_) (fun c_1 => ?_)
      · skip
        refine lv_iload_n hx hb d_RF_openFaultCount_47 rfl (lv_at hl 1 rfl) ?_
        refine os_iret hx hb hr hlocks hV (Nat.le_of_ble_eq_true rfl) (Nat.le_of_ble_eq_true rfl) d_RF_openFaultCount_48 ?_
        have hj := eq_of_le c_1 loop_j
        subst hj
        exact ⟨rfl, rfl, by rw [loop_i]⟩
      · skip
        refine lv_aload_n hx hb d_RF_openFaultCount_19 rfl (lv_at hl 2 rfl) ?_
        refine lv_iload hx hb d_RF_openFaultCount_20 (lv_at hl 4 rfl) ?_
        refine os_aaldN (K := 5) (i := 0) (t0 := 5) (n := j) hx hb hK hV rfl rfl (hA.n 5 (by decide)) rfl (by rw [show os_l σ 5 0 = 40 from hA.l5]; exact (lt_of_nle c_1 loop_j)) (by rw [show os_l σ 5 0 = 40 from hA.l5]; decide) d_RF_openFaultCount_22 ?_
        by_cases u_2 : j < os_n σ 10
        · skip
          refine W.eq (g2 := F0 m 23 ls [.ref (ad 10 j)]) (by rw [hF.1.at (lt_of_nle c_1 loop_j) u_2]; rfl) ?_
          refine lv_astore (lv' := [(5, .ref (ad 10 j)), (0, .ref (ad 0 0)), (1, .int a), (2, .ref (ad 5 0)), (3, .int 40), (4, .int (nI j))]) hx hb d_RF_openFaultCount_23 hl (by decide) rfl (fun ls hl => ?_)
          refine lv_aload hx hb d_RF_openFaultCount_25 (lv_at hl 0 rfl) ?_
          refine lv_ifnull hx hb d_RF_openFaultCount_27 ?_
          refine lv_aload hx hb d_RF_openFaultCount_30 (lv_at hl 0 rfl) ?_
          refine os_call (c_Fault_isOpen l hlt D cA bs σ ad j u_2) hE hV k_129 k_13 (os_inV (C := "RobotFaults$Fault") (n := 0) (bytes := prog_3_method_2_code) (maxL := 1) (ret := (some .boolean)) hx hb hown (hts _ k_126) (hts _ k_127) (hts _ k_128) (hts _ k_129) (by decide +kernel) rfl (os_recv hK hV rfl rfl u_2) rfl d_RF_openFaultCount_32) (hl.1.trans hml.symm) (Nat.le_of_ble_eq_true rfl) (Nat.le_of_ble_eq_true rfl) (Nat.le_of_ble_eq_true rfl) (Nat.le_of_ble_eq_true rfl) (Nat.le_of_ble_eq_true rfl) (fun v σ1 ad1 H locs hp hext hV => ?_) (fun E q ce σ1 ad1 H locs hp hext hV hce hcv hcl => ?_)
          · obtain ⟨rfl, rfl, hp⟩ := hp
            cases hp
            refine W.eq (g2 := F0 m 35 ls [.int (bz (decide (os_g σ 10 10 j = -1)))]) rfl ?_
            refine lv_if_eq (tgt := 41) hx hb d_RF_openFaultCount_35 (by decide) (fun c_3 => ?_) (fun c_3 => ?_)
            · skip
              refine lv_iinc (v := nI (j + 1)) (lv' := [(4, .int (nI (j + 1))), (5, .ref (ad 10 j)), (0, .ref (ad 0 0)), (1, .int a), (2, .ref (ad 5 0)), (3, .int 40)]) hx hb d_RF_openFaultCount_41 hl (k := 5) rfl (nI_1 j) (by decide) rfl (fun ls hl => ?_)
              refine lv_goto (tgt := 13) hx hb d_RF_openFaultCount_44 (by decide) ?_
              exact loop_ih (j + 1) a ls H locs (Nat.succ_le_of_lt (lt_of_nle c_1 loop_j)) (by omega) (by rw [ocF, if_neg (fun h => bz_t c_3 h.2), loop_i]) hV (lv_sub hl [2, 3, 4, 5, 0] rfl)
            · skip
              refine lv_iinc (v := a + 1) (lv' := [(1, .int (a + 1)), (5, .ref (ad 10 j)), (0, .ref (ad 0 0)), (2, .ref (ad 5 0)), (3, .int 40), (4, .int (nI j))]) hx hb d_RF_openFaultCount_38 hl (k := 2) rfl rfl (by decide) rfl (fun ls hl => ?_)
              refine lv_iinc (v := nI (j + 1)) (lv' := [(4, .int (nI (j + 1))), (1, .int (a + 1)), (5, .ref (ad 10 j)), (0, .ref (ad 0 0)), (2, .ref (ad 5 0)), (3, .int 40)]) hx hb d_RF_openFaultCount_41 hl (k := 5) rfl (nI_1 j) (by decide) rfl (fun ls hl => ?_)
              refine lv_goto (tgt := 13) hx hb d_RF_openFaultCount_44 (by decide) ?_
              exact loop_ih (j + 1) (a + 1) ls H locs (Nat.succ_le_of_lt (lt_of_nle c_1 loop_j)) (by omega) (by rw [ocF, if_pos ⟨u_2, bz_1 c_3⟩, loop_i]) hV (lv_sub hl [3, 1, 4, 5, 0] rfl)
          · exact absurd hp.2.2 (fun h => by cases h)
        · skip
          refine W.eq (g2 := F0 m 23 ls [.null]) (by rw [hF.1.an (lt_of_nle c_1 loop_j) u_2]; rfl) ?_
          refine lv_astoreN (lv' := [(5, .null), (0, .ref (ad 0 0)), (1, .int a), (2, .ref (ad 5 0)), (3, .int 40), (4, .int (nI j))]) hx hb d_RF_openFaultCount_23 hl (by decide) rfl (fun ls hl => ?_)
          refine lv_aloadN hx hb d_RF_openFaultCount_25 (lv_at hl 0 rfl) ?_
          refine lv_ifnullN (tgt := 41) hx hb d_RF_openFaultCount_27 (by decide) ?_
          refine lv_iinc (v := nI (j + 1)) (lv' := [(4, .int (nI (j + 1))), (5, .null), (0, .ref (ad 0 0)), (1, .int a), (2, .ref (ad 5 0)), (3, .int 40)]) hx hb d_RF_openFaultCount_41 hl (k := 5) rfl (nI_1 j) (by decide) rfl (fun ls hl => ?_)
          refine lv_goto (tgt := 13) hx hb d_RF_openFaultCount_44 (by decide) ?_
          exact loop_ih (j + 1) a ls H locs (Nat.succ_le_of_lt (lt_of_nle c_1 loop_j)) (by omega) (by rw [ocF, if_neg (fun h => u_2 h.1), loop_i]) hV (lv_sub hl [2, 3, 4, 5, 0] rfl)
  exact loop 41 0 0 ls _ _ (by omega) (by omega) rfl hV (lv_sub hl [4, 3, 2, 1, 0] rfl)
set_option maxHeartbeats 4000000 in
set_option maxRecDepth 100000 in
theorem c_RF_unheardAlarmCount (l : Launch) (hlt : l.stackTraces = false) (D : va_G) (cA : Nat → ClassId) (bs : Nat) (σ : os_S) (ad : Nat → Nat → Nat) (hA : rfA σ) (hL : rfL σ) : os_Met l y_RF_unheardAlarmCount prog_1_method_45_code 6 (some .int) { frames := 1, cells := 0, slots := 0, locals := 20 } D cA bs [.ref (ad 0 0)] σ ad (pv σ ad (some (.int (ucF σ 40)))) := by
  refine os_ofW (by decide) ?_
  intro p e s m below meth c hx hb hr hml hown hlocks hmn hout hE hV
  have hts := hE.hts (args := ([.ref (ad 0 0)] : List Value).toArray)
  have hK := hE.2.1
  have hbs := hE.2.2.1
  have hown : s.vm.findClass "RobotFaults" = some m.cls := hown
  have hl := lv_entry ([.ref (ad 0 0)]) (n := 6) (Nat.le_of_ble_eq_true rfl)
  rw [lg_entry_eq]
  generalize (lg_sl ([.ref (ad 0 0)]) ++ List.replicate (6 - (lg_sl ([.ref (ad 0 0)])).length) Slot.unset).toArray = ls at hl ⊢
  have hl : lv_has ls 6 [(0, .ref (ad 0 0))] := hl
  refine lv_iconst (v := 0) hx hb d_RF_unheardAlarmCount_0 (by decide) ?_
  refine lv_istore_n (lv' := [(1, .int 0), (0, .ref (ad 0 0))]) hx hb d_RF_unheardAlarmCount_1 rfl hl (by decide) rfl (fun ls hl => ?_)
  refine lv_aload_n hx hb d_RF_unheardAlarmCount_2 rfl (lv_at hl 1 rfl) ?_
  refine os_get (C := "RobotFaults") (T := F_RF) (N := 11) (ci := 0) (K := 0) (j := 4) (i := 0) (v := .ref (ad 6 0)) hx hb hts i_RF hown hK hV rfl rfl (by decide) (hA.n 0 (by decide)) (hts _ k_72) (congrArg (fun z => va_rf (Option.map (ad 6) z)) (hA.r 4 (by decide))) d_RF_unheardAlarmCount_3 ?_
  refine lv_astore_n (lv' := [(2, .ref (ad 6 0)), (1, .int 0), (0, .ref (ad 0 0))]) hx hb d_RF_unheardAlarmCount_6 rfl hl (by decide) rfl (fun ls hl => ?_)
  refine lv_aload_n hx hb d_RF_unheardAlarmCount_7 rfl (lv_at hl 0 rfl) ?_
  refine os_alen (K := 6) (i := 0) (t0 := 6) (v := 40) hx hb hK hV rfl rfl (hA.n 6 (by decide)) (congrArg Int32.ofNat hA.l6) d_RF_unheardAlarmCount_8 ?_
  refine lv_istore_n (lv' := [(3, .int 40), (2, .ref (ad 6 0)), (1, .int 0), (0, .ref (ad 0 0))]) hx hb d_RF_unheardAlarmCount_9 rfl hl (by decide) rfl (fun ls hl => ?_)
  refine lv_iconst (v := 0) hx hb d_RF_unheardAlarmCount_10 (by decide) ?_
  refine lv_istore (lv' := [(4, .int 0), (3, .int 40), (2, .ref (ad 6 0)), (1, .int 0), (0, .ref (ad 0 0))]) hx hb d_RF_unheardAlarmCount_11 hl (by decide) rfl (fun ls hl => ?_)
  have loop : ∀ (n j : Nat) (a : Int32) (ls : Array Slot) (H : Heap) (locs : List Loc), j ≤ 40 → 40 < j + n → a = ucF σ j → os_V D cA bs σ ad s σ ad H locs → lv_has ls 6 [(0, .ref (ad 0 0)), (1, .int a), (2, .ref (ad 6 0)), (3, .int 40), (4, .int (nI j))] → W p l e { frames := 1, cells := 0, slots := 0, locals := 20 } s m ([.ref (ad 0 0)] : List Value).toArray below meth c H locs (0) (0) (os_End D cA bs below s σ ad { frames := 1, cells := 0, slots := 0, locals := 20 } (pv σ ad (some (.int (ucF σ 40))))) (F0 m 13 ls []) := by
    intro n
    induction n with
    | zero => intro j a ls H locs h1 h2; exact absurd h2 (by omega)
    | succ n loop_ih =>
      intro j a ls H locs loop_j loop_n loop_i hV hl
      refine lv_iload hx hb d_RF_unheardAlarmCount_13 (lv_at hl 4 rfl) ?_
      refine lv_iload_n hx hb d_RF_unheardAlarmCount_15 rfl (lv_at hl 3 rfl) ?_
      refine lv_icmp_ge (tgt := 47) hx hb d_RF_unheardAlarmCount_16 (by decide) (fun c_1 => ?_) (fun c_1 => ?_)
      · skip
        refine lv_iload_n hx hb d_RF_unheardAlarmCount_47 rfl (lv_at hl 1 rfl) ?_
        refine os_iret hx hb hr hlocks hV (Nat.le_of_ble_eq_true rfl) (Nat.le_of_ble_eq_true rfl) d_RF_unheardAlarmCount_48 ?_
        have hj := eq_of_le c_1 loop_j
        subst hj
        exact ⟨rfl, rfl, by rw [loop_i]⟩
      · skip
        refine lv_aload_n hx hb d_RF_unheardAlarmCount_19 rfl (lv_at hl 2 rfl) ?_
        refine lv_iload hx hb d_RF_unheardAlarmCount_20 (lv_at hl 4 rfl) ?_
        refine os_aaldN (K := 6) (i := 0) (t0 := 6) (n := j) hx hb hK hV rfl rfl (hA.n 6 (by decide)) rfl (by rw [show os_l σ 6 0 = 40 from hA.l6]; exact (lt_of_nle c_1 loop_j)) (by rw [show os_l σ 6 0 = 40 from hA.l6]; decide) d_RF_unheardAlarmCount_22 ?_
        by_cases u_2 : j < os_n σ 11
        · skip
          refine W.eq (g2 := F0 m 23 ls [.ref (ad 11 j)]) (by rw [hL.1.at (lt_of_nle c_1 loop_j) u_2]; rfl) ?_
          refine lv_astore (lv' := [(5, .ref (ad 11 j)), (0, .ref (ad 0 0)), (1, .int a), (2, .ref (ad 6 0)), (3, .int 40), (4, .int (nI j))]) hx hb d_RF_unheardAlarmCount_23 hl (by decide) rfl (fun ls hl => ?_)
          refine lv_aload hx hb d_RF_unheardAlarmCount_25 (lv_at hl 0 rfl) ?_
          refine lv_ifnull hx hb d_RF_unheardAlarmCount_27 ?_
          refine lv_aload hx hb d_RF_unheardAlarmCount_30 (lv_at hl 0 rfl) ?_
          refine os_call (c_Alarm_isAcknowledged l hlt D cA bs σ ad j u_2) hE hV k_109 k_14 (os_inV (C := "RobotFaults$Alarm") (n := 0) (bytes := prog_2_method_2_code) (maxL := 1) (ret := (some .boolean)) hx hb hown (hts _ k_106) (hts _ k_107) (hts _ k_108) (hts _ k_109) (by decide +kernel) rfl (os_recv hK hV rfl rfl u_2) rfl d_RF_unheardAlarmCount_32) (hl.1.trans hml.symm) (Nat.le_of_ble_eq_true rfl) (Nat.le_of_ble_eq_true rfl) (Nat.le_of_ble_eq_true rfl) (Nat.le_of_ble_eq_true rfl) (Nat.le_of_ble_eq_true rfl) (fun v σ1 ad1 H locs hp hext hV => ?_) (fun E q ce σ1 ad1 H locs hp hext hV hce hcv hcl => ?_)
          · obtain ⟨rfl, rfl, hp⟩ := hp
            cases hp
            refine W.eq (g2 := F0 m 35 ls [.int (bz (decide (¬ os_g σ 11 6 j = -1)))]) rfl ?_
            refine lv_if_ne (tgt := 41) hx hb d_RF_unheardAlarmCount_35 (by decide) (fun c_3 => ?_) (fun c_3 => ?_)
            · skip
              refine lv_iinc (v := nI (j + 1)) (lv' := [(4, .int (nI (j + 1))), (5, .ref (ad 11 j)), (0, .ref (ad 0 0)), (1, .int a), (2, .ref (ad 6 0)), (3, .int 40)]) hx hb d_RF_unheardAlarmCount_41 hl (k := 5) rfl (nI_1 j) (by decide) rfl (fun ls hl => ?_)
              refine lv_goto (tgt := 13) hx hb d_RF_unheardAlarmCount_44 (by decide) ?_
              exact loop_ih (j + 1) a ls H locs (Nat.succ_le_of_lt (lt_of_nle c_1 loop_j)) (by omega) (by rw [ucF, if_neg (fun h => (of_decide_eq_true (bz_1 c_3)) h.2), loop_i]) hV (lv_sub hl [2, 3, 4, 5, 0] rfl)
            · skip
              refine lv_iinc (v := a + 1) (lv' := [(1, .int (a + 1)), (5, .ref (ad 11 j)), (0, .ref (ad 0 0)), (2, .ref (ad 6 0)), (3, .int 40), (4, .int (nI j))]) hx hb d_RF_unheardAlarmCount_38 hl (k := 2) rfl rfl (by decide) rfl (fun ls hl => ?_)
              refine lv_iinc (v := nI (j + 1)) (lv' := [(4, .int (nI (j + 1))), (1, .int (a + 1)), (5, .ref (ad 11 j)), (0, .ref (ad 0 0)), (2, .ref (ad 6 0)), (3, .int 40)]) hx hb d_RF_unheardAlarmCount_41 hl (k := 5) rfl (nI_1 j) (by decide) rfl (fun ls hl => ?_)
              refine lv_goto (tgt := 13) hx hb d_RF_unheardAlarmCount_44 (by decide) ?_
              exact loop_ih (j + 1) (a + 1) ls H locs (Nat.succ_le_of_lt (lt_of_nle c_1 loop_j)) (by omega) (by rw [ucF, if_pos ⟨u_2, (Decidable.not_not.mp (of_decide_eq_false (bz_0 c_3)))⟩, loop_i]) hV (lv_sub hl [3, 1, 4, 5, 0] rfl)
          · exact absurd hp.2.2 (fun h => by cases h)
        · skip
          refine W.eq (g2 := F0 m 23 ls [.null]) (by rw [hL.1.an (lt_of_nle c_1 loop_j) u_2]; rfl) ?_
          refine lv_astoreN (lv' := [(5, .null), (0, .ref (ad 0 0)), (1, .int a), (2, .ref (ad 6 0)), (3, .int 40), (4, .int (nI j))]) hx hb d_RF_unheardAlarmCount_23 hl (by decide) rfl (fun ls hl => ?_)
          refine lv_aloadN hx hb d_RF_unheardAlarmCount_25 (lv_at hl 0 rfl) ?_
          refine lv_ifnullN (tgt := 41) hx hb d_RF_unheardAlarmCount_27 (by decide) ?_
          refine lv_iinc (v := nI (j + 1)) (lv' := [(4, .int (nI (j + 1))), (5, .null), (0, .ref (ad 0 0)), (1, .int a), (2, .ref (ad 6 0)), (3, .int 40)]) hx hb d_RF_unheardAlarmCount_41 hl (k := 5) rfl (nI_1 j) (by decide) rfl (fun ls hl => ?_)
          refine lv_goto (tgt := 13) hx hb d_RF_unheardAlarmCount_44 (by decide) ?_
          exact loop_ih (j + 1) a ls H locs (Nat.succ_le_of_lt (lt_of_nle c_1 loop_j)) (by omega) (by rw [ucF, if_neg (fun h => u_2 h.1), loop_i]) hV (lv_sub hl [2, 3, 4, 5, 0] rfl)
  exact loop 41 0 0 ls _ _ (by omega) (by omega) rfl hV (lv_sub hl [4, 3, 2, 1, 0] rfl)
set_option maxHeartbeats 4000000 in
set_option maxRecDepth 100000 in
theorem c_Fault_openSecondsUntil (l : Launch) (hlt : l.stackTraces = false) (D : va_G) (cA : Nat → ClassId) (bs : Nat) (σ : os_S) (ad : Nat → Nat → Nat) (i : Nat) (t : Int32) (hi : i < os_n σ 10) : os_Met l y_Fault_openSecondsUntil prog_3_method_4_code 2 (some .int) { frames := 1, cells := 0, slots := 0, locals := 20 } D cA bs [.ref (ad 10 i), .int t] σ ad (pv σ ad (some (.int ((if fop σ i = true then t else os_g σ 10 10 i) - os_g σ 10 3 i)))) := by
  refine os_ofW (by decide) ?_
  intro p e s m below meth c hx hb hr hml hown hlocks hmn hout hE hV
  have hts := hE.hts (args := ([.ref (ad 10 i), .int t] : List Value).toArray)
  have hK := hE.2.1
  have hbs := hE.2.2.1
  have hown : s.vm.findClass "RobotFaults$Fault" = some m.cls := hown
  have hl := lv_entry ([.ref (ad 10 i), .int t]) (n := 2) (Nat.le_of_ble_eq_true rfl)
  rw [lg_entry_eq]
  generalize (lg_sl ([.ref (ad 10 i), .int t]) ++ List.replicate (2 - (lg_sl ([.ref (ad 10 i), .int t])).length) Slot.unset).toArray = ls at hl ⊢
  have hl : lv_has ls 2 [(0, .ref (ad 10 i)), (1, .int t)] := hl
  refine lv_aload_n hx hb d_Fault_openSecondsUntil_0 rfl (lv_at hl 0 rfl) ?_
  refine os_call (c_Fault_isOpen l hlt D cA bs σ ad i hi) hE hV k_129 k_13 (os_inV (C := "RobotFaults$Fault") (n := 0) (bytes := prog_3_method_2_code) (maxL := 1) (ret := (some .boolean)) hx hb hown (hts _ k_142) (hts _ k_127) (hts _ k_128) (hts _ k_129) (by decide +kernel) rfl (os_recv hK hV rfl rfl hi) rfl d_Fault_openSecondsUntil_1) (hl.1.trans hml.symm) (Nat.le_of_ble_eq_true rfl) (Nat.le_of_ble_eq_true rfl) (Nat.le_of_ble_eq_true rfl) (Nat.le_of_ble_eq_true rfl) (Nat.le_of_ble_eq_true rfl) (fun v σ1 ad1 H locs hp hext hV => ?_) (fun E q ce σ1 ad1 H locs hp hext hV hce hcv hcl => ?_)
  · obtain ⟨rfl, rfl, hp⟩ := hp
    cases hp
    refine W.eq (g2 := F0 m 4 ls [.int (bz (decide (os_g σ 10 10 i = -1)))]) rfl ?_
    refine lv_if_eq (tgt := 11) hx hb d_Fault_openSecondsUntil_4 (by decide) (fun c_1 => ?_) (fun c_1 => ?_)
    · skip
      refine lv_aload_n hx hb d_Fault_openSecondsUntil_11 rfl (lv_at hl 0 rfl) ?_
      refine os_get (C := "RobotFaults$Fault") (T := F_Fault) (N := 11) (ci := 4) (K := 10) (j := 10) (i := i) (v := .int (os_g σ 10 10 i)) hx hb hts i_Fault hown hK hV rfl rfl (by decide) hi (hts _ k_439) rfl d_Fault_openSecondsUntil_12 ?_
      refine lv_aload_n hx hb d_Fault_openSecondsUntil_15 rfl (lv_at hl 0 rfl) ?_
      refine os_get (C := "RobotFaults$Fault") (T := F_Fault) (N := 11) (ci := 4) (K := 10) (j := 3) (i := i) (v := .int (os_g σ 10 3 i)) hx hb hts i_Fault hown hK hV rfl rfl (by decide) hi (hts _ k_425) rfl d_Fault_openSecondsUntil_16 ?_
      refine lv_isub hx hb d_Fault_openSecondsUntil_19 ?_
      refine os_iret hx hb hr hlocks hV (Nat.le_of_ble_eq_true rfl) (Nat.le_of_ble_eq_true rfl) d_Fault_openSecondsUntil_20 ?_
      exact ⟨rfl, rfl, by rw [if_neg (show ¬ fop σ i = true from bz_t c_1)]⟩
    · skip
      refine lv_iload_n hx hb d_Fault_openSecondsUntil_7 rfl (lv_at hl 1 rfl) ?_
      refine lv_goto (tgt := 15) hx hb d_Fault_openSecondsUntil_8 (by decide) ?_
      refine lv_aload_n hx hb d_Fault_openSecondsUntil_15 rfl (lv_at hl 0 rfl) ?_
      refine os_get (C := "RobotFaults$Fault") (T := F_Fault) (N := 11) (ci := 4) (K := 10) (j := 3) (i := i) (v := .int (os_g σ 10 3 i)) hx hb hts i_Fault hown hK hV rfl rfl (by decide) hi (hts _ k_425) rfl d_Fault_openSecondsUntil_16 ?_
      refine lv_isub hx hb d_Fault_openSecondsUntil_19 ?_
      refine os_iret hx hb hr hlocks hV (Nat.le_of_ble_eq_true rfl) (Nat.le_of_ble_eq_true rfl) d_Fault_openSecondsUntil_20 ?_
      exact ⟨rfl, rfl, by rw [if_pos (show fop σ i = true from bz_1 c_1)]⟩
  · exact absurd hp.2.2 (fun h => by cases h)
set_option maxHeartbeats 4000000 in
set_option maxRecDepth 100000 in
theorem c_RF_openSeconds (l : Launch) (hlt : l.stackTraces = false) (D : va_G) (cA : Nat → ClassId) (bs : Nat) (σ : os_S) (ad : Nat → Nat → Nat) (hA : rfA σ) (hF : rfF σ) : os_Met l y_RF_openSeconds prog_1_method_46_code 6 (some .int) { frames := 2, cells := 0, slots := 0, locals := 41 } D cA bs [.ref (ad 0 0)] σ ad (pv σ ad (some (.int (osF σ (os_g σ 0 10 0) 40)))) := by
  refine os_ofW (by decide) ?_
  intro p e s m below meth c hx hb hr hml hown hlocks hmn hout hE hV
  have hts := hE.hts (args := ([.ref (ad 0 0)] : List Value).toArray)
  have hK := hE.2.1
  have hbs := hE.2.2.1
  have hown : s.vm.findClass "RobotFaults" = some m.cls := hown
  have hl := lv_entry ([.ref (ad 0 0)]) (n := 6) (Nat.le_of_ble_eq_true rfl)
  rw [lg_entry_eq]
  generalize (lg_sl ([.ref (ad 0 0)]) ++ List.replicate (6 - (lg_sl ([.ref (ad 0 0)])).length) Slot.unset).toArray = ls at hl ⊢
  have hl : lv_has ls 6 [(0, .ref (ad 0 0))] := hl
  refine lv_iconst (v := 0) hx hb d_RF_openSeconds_0 (by decide) ?_
  refine lv_istore_n (lv' := [(1, .int 0), (0, .ref (ad 0 0))]) hx hb d_RF_openSeconds_1 rfl hl (by decide) rfl (fun ls hl => ?_)
  refine lv_aload_n hx hb d_RF_openSeconds_2 rfl (lv_at hl 1 rfl) ?_
  refine os_get (C := "RobotFaults") (T := F_RF) (N := 11) (ci := 0) (K := 0) (j := 3) (i := 0) (v := .ref (ad 5 0)) hx hb hts i_RF hown hK hV rfl rfl (by decide) (hA.n 0 (by decide)) (hts _ k_71) (congrArg (fun z => va_rf (Option.map (ad 5) z)) (hA.r 3 (by decide))) d_RF_openSeconds_3 ?_
  refine lv_astore_n (lv' := [(2, .ref (ad 5 0)), (1, .int 0), (0, .ref (ad 0 0))]) hx hb d_RF_openSeconds_6 rfl hl (by decide) rfl (fun ls hl => ?_)
  refine lv_aload_n hx hb d_RF_openSeconds_7 rfl (lv_at hl 0 rfl) ?_
  refine os_alen (K := 5) (i := 0) (t0 := 5) (v := 40) hx hb hK hV rfl rfl (hA.n 5 (by decide)) (congrArg Int32.ofNat hA.l5) d_RF_openSeconds_8 ?_
  refine lv_istore_n (lv' := [(3, .int 40), (2, .ref (ad 5 0)), (1, .int 0), (0, .ref (ad 0 0))]) hx hb d_RF_openSeconds_9 rfl hl (by decide) rfl (fun ls hl => ?_)
  refine lv_iconst (v := 0) hx hb d_RF_openSeconds_10 (by decide) ?_
  refine lv_istore (lv' := [(4, .int 0), (3, .int 40), (2, .ref (ad 5 0)), (1, .int 0), (0, .ref (ad 0 0))]) hx hb d_RF_openSeconds_11 hl (by decide) rfl (fun ls hl => ?_)
  have loop : ∀ (n j : Nat) (a : Int32) (ls : Array Slot) (H : Heap) (locs : List Loc), j ≤ 40 → 40 < j + n → a = osF σ (os_g σ 0 10 0) j → os_V D cA bs σ ad s σ ad H locs → lv_has ls 6 [(0, .ref (ad 0 0)), (1, .int a), (2, .ref (ad 5 0)), (3, .int 40), (4, .int (nI j))] → W p l e { frames := 2, cells := 0, slots := 0, locals := 41 } s m ([.ref (ad 0 0)] : List Value).toArray below meth c H locs (0) (0) (os_End D cA bs below s σ ad { frames := 2, cells := 0, slots := 0, locals := 41 } (pv σ ad (some (.int (osF σ (os_g σ 0 10 0) 40))))) (F0 m 13 ls []) := by
    intro n
    induction n with
    | zero => intro j a ls H locs h1 h2; exact absurd h2 (by omega)
    | succ n loop_ih =>
      intro j a ls H locs loop_j loop_n loop_i hV hl
      refine lv_iload hx hb d_RF_openSeconds_13 (lv_at hl 4 rfl) ?_
      refine lv_iload_n hx hb d_RF_openSeconds_15 rfl (lv_at hl 3 rfl) ?_
      refine lv_icmp_ge (tgt := 48) hx hb d_RF_openSeconds_16 (by decide) (fun c_1 => ?_) (fun c_1 => ?_)
      · skip
        refine lv_iload_n hx hb d_RF_openSeconds_48 rfl (lv_at hl 1 rfl) ?_
        refine os_iret hx hb hr hlocks hV (Nat.le_of_ble_eq_true rfl) (Nat.le_of_ble_eq_true rfl) d_RF_openSeconds_49 ?_
        have hj := eq_of_le c_1 loop_j
        subst hj
        exact ⟨rfl, rfl, by rw [loop_i]⟩
      · skip
        refine lv_aload_n hx hb d_RF_openSeconds_19 rfl (lv_at hl 2 rfl) ?_
        refine lv_iload hx hb d_RF_openSeconds_20 (lv_at hl 4 rfl) ?_
        refine os_aaldN (K := 5) (i := 0) (t0 := 5) (n := j) hx hb hK hV rfl rfl (hA.n 5 (by decide)) rfl (by rw [show os_l σ 5 0 = 40 from hA.l5]; exact (lt_of_nle c_1 loop_j)) (by rw [show os_l σ 5 0 = 40 from hA.l5]; decide) d_RF_openSeconds_22 ?_
        by_cases u_2 : j < os_n σ 10
        · skip
          refine W.eq (g2 := F0 m 23 ls [.ref (ad 10 j)]) (by rw [hF.1.at (lt_of_nle c_1 loop_j) u_2]; rfl) ?_
          refine lv_astore (lv' := [(5, .ref (ad 10 j)), (0, .ref (ad 0 0)), (1, .int a), (2, .ref (ad 5 0)), (3, .int 40), (4, .int (nI j))]) hx hb d_RF_openSeconds_23 hl (by decide) rfl (fun ls hl => ?_)
          refine lv_aload hx hb d_RF_openSeconds_25 (lv_at hl 0 rfl) ?_
          refine lv_ifnull hx hb d_RF_openSeconds_27 ?_
          refine lv_iload_n hx hb d_RF_openSeconds_30 rfl (lv_at hl 2 rfl) ?_
          refine lv_aload hx hb d_RF_openSeconds_31 (lv_at hl 0 rfl) ?_
          refine lv_aload_n hx hb d_RF_openSeconds_33 rfl (lv_at hl 1 rfl) ?_
          refine os_get (C := "RobotFaults") (T := F_RF) (N := 11) (ci := 0) (K := 0) (j := 10) (i := 0) (v := .int (os_g σ 0 10 0)) hx hb hts i_RF hown hK hV rfl rfl (by decide) (hA.n 0 (by decide)) (hts _ k_78) rfl d_RF_openSeconds_34 ?_
          refine os_call (c_Fault_openSecondsUntil l hlt D cA bs σ ad j (os_g σ 0 10 0) u_2) hE hV k_141 k_13 (os_inV (C := "RobotFaults$Fault") (n := 1) (bytes := prog_3_method_4_code) (maxL := 2) (ret := (some .int)) hx hb hown (hts _ k_138) (hts _ k_139) (hts _ k_140) (hts _ k_141) (by decide +kernel) rfl (os_recv hK hV rfl rfl u_2) rfl d_RF_openSeconds_37) (hl.1.trans hml.symm) (Nat.le_of_ble_eq_true rfl) (Nat.le_of_ble_eq_true rfl) (Nat.le_of_ble_eq_true rfl) (Nat.le_of_ble_eq_true rfl) (Nat.le_of_ble_eq_true rfl) (fun v σ1 ad1 H locs hp hext hV => ?_) (fun E q ce σ1 ad1 H locs hp hext hV hce hcv hcl => ?_)
          · obtain ⟨rfl, rfl, hp⟩ := hp
            cases hp
            refine W.eq (g2 := F0 m 40 ls [.int ((if fop σ j = true then os_g σ 0 10 0 else os_g σ 10 10 j) - os_g σ 10 3 j), .int a]) rfl ?_
            refine lv_iadd hx hb d_RF_openSeconds_40 ?_
            refine lv_istore_n (lv' := [(1, .int (a + ((if fop σ j = true then os_g σ 0 10 0 else os_g σ 10 10 j) - os_g σ 10 3 j))), (5, .ref (ad 10 j)), (0, .ref (ad 0 0)), (2, .ref (ad 5 0)), (3, .int 40), (4, .int (nI j))]) hx hb d_RF_openSeconds_41 rfl hl (by decide) rfl (fun ls hl => ?_)
            refine lv_iinc (v := nI (j + 1)) (lv' := [(4, .int (nI (j + 1))), (1, .int (a + ((if fop σ j = true then os_g σ 0 10 0 else os_g σ 10 10 j) - os_g σ 10 3 j))), (5, .ref (ad 10 j)), (0, .ref (ad 0 0)), (2, .ref (ad 5 0)), (3, .int 40)]) hx hb d_RF_openSeconds_42 hl (k := 5) rfl (nI_1 j) (by decide) rfl (fun ls hl => ?_)
            refine lv_goto (tgt := 13) hx hb d_RF_openSeconds_45 (by decide) ?_
            exact loop_ih (j + 1) (a + ((if fop σ j = true then os_g σ 0 10 0 else os_g σ 10 10 j) - os_g σ 10 3 j)) ls H locs (Nat.succ_le_of_lt (lt_of_nle c_1 loop_j)) (by omega) (by rw [osF, if_pos u_2, loop_i]) hV (lv_sub hl [3, 1, 4, 5, 0] rfl)
          · exact absurd hp.2.2 (fun h => by cases h)
        · skip
          refine W.eq (g2 := F0 m 23 ls [.null]) (by rw [hF.1.an (lt_of_nle c_1 loop_j) u_2]; rfl) ?_
          refine lv_astoreN (lv' := [(5, .null), (0, .ref (ad 0 0)), (1, .int a), (2, .ref (ad 5 0)), (3, .int 40), (4, .int (nI j))]) hx hb d_RF_openSeconds_23 hl (by decide) rfl (fun ls hl => ?_)
          refine lv_aloadN hx hb d_RF_openSeconds_25 (lv_at hl 0 rfl) ?_
          refine lv_ifnullN (tgt := 42) hx hb d_RF_openSeconds_27 (by decide) ?_
          refine lv_iinc (v := nI (j + 1)) (lv' := [(4, .int (nI (j + 1))), (5, .null), (0, .ref (ad 0 0)), (1, .int a), (2, .ref (ad 5 0)), (3, .int 40)]) hx hb d_RF_openSeconds_42 hl (k := 5) rfl (nI_1 j) (by decide) rfl (fun ls hl => ?_)
          refine lv_goto (tgt := 13) hx hb d_RF_openSeconds_45 (by decide) ?_
          exact loop_ih (j + 1) a ls H locs (Nat.succ_le_of_lt (lt_of_nle c_1 loop_j)) (by omega) (by rw [osF, if_neg (fun h => u_2 h), loop_i]) hV (lv_sub hl [2, 3, 4, 5, 0] rfl)
  exact loop 41 0 0 ls _ _ (by omega) (by omega) rfl hV (lv_sub hl [4, 3, 2, 1, 0] rfl)
end
