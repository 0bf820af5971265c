-- ===== PART A: goes FIRST, ahead of the names: the tables' words, and 'selects' of the private methods out of them =====
/-- a private method of a class that the tables say can be made, by its rows of tables_1 -/
def lw_okq (q : MethodName × Nat) : Prop := (q.1.cls ≠ "java/lang/invoke/MethodHandle" ∧ q.1.cls ≠ "java/lang/invoke/VarHandle") ∧ Cond.instantiable q.1.cls q.2 ∈ tables_1 ∧ Cond.privateMethod q.1 ∈ tables_1 ∧ Cond.instanceMethod q.1 ∈ tables_1
theorem lw_p0 : lw_okq (⟨"java/lang/Throwable", "fillInStackTrace", "(I)Ljava/lang/Throwable;"⟩, 6) := ⟨⟨by decide +kernel, by decide +kernel⟩, List.mem_of_getElem? (i := 254) (by decide +kernel), List.mem_of_getElem? (i := 252) (by decide +kernel), List.mem_of_getElem? (i := 253) (by decide +kernel)⟩
theorem lw_p1 : lw_okq (⟨"HeatGovernor", "needUnsealed", "()V"⟩, 6) := ⟨⟨by decide +kernel, by decide +kernel⟩, List.mem_of_getElem? (i := 17) (by decide +kernel), List.mem_of_getElem? (i := 297) (by decide +kernel), List.mem_of_getElem? (i := 298) (by decide +kernel)⟩
theorem lw_p2 : lw_okq (⟨"HeatGovernor$Chip", "withNeighbours", "(I)I"⟩, 15) := ⟨⟨by decide +kernel, by decide +kernel⟩, List.mem_of_getElem? (i := 25) (by decide +kernel), List.mem_of_getElem? (i := 393) (by decide +kernel), List.mem_of_getElem? (i := 394) (by decide +kernel)⟩
theorem lw_p3 : lw_okq (⟨"HeatGovernor$Chip", "leakAt", "(I)I"⟩, 15) := ⟨⟨by decide +kernel, by decide +kernel⟩, List.mem_of_getElem? (i := 25) (by decide +kernel), List.mem_of_getElem? (i := 426) (by decide +kernel), List.mem_of_getElem? (i := 427) (by decide +kernel)⟩
theorem lw_p4 : lw_okq (⟨"HeatGovernor$Chip", "worstInflow", "(I[I)I"⟩, 15) := ⟨⟨by decide +kernel, by decide +kernel⟩, List.mem_of_getElem? (i := 25) (by decide +kernel), List.mem_of_getElem? (i := 430) (by decide +kernel), List.mem_of_getElem? (i := 431) (by decide +kernel)⟩
theorem lw_p5 : lw_okq (⟨"HeatGovernor$Chip", "worstGrowth", "(II)I"⟩, 15) := ⟨⟨by decide +kernel, by decide +kernel⟩, List.mem_of_getElem? (i := 25) (by decide +kernel), List.mem_of_getElem? (i := 434) (by decide +kernel), List.mem_of_getElem? (i := 435) (by decide +kernel)⟩
theorem lw_p6 : lw_okq (⟨"HeatGovernor$Chip", "grow", "([I)Z"⟩, 15) := ⟨⟨by decide +kernel, by decide +kernel⟩, List.mem_of_getElem? (i := 25) (by decide +kernel), List.mem_of_getElem? (i := 441) (by decide +kernel), List.mem_of_getElem? (i := 442) (by decide +kernel)⟩
theorem lw_p7 : lw_okq (⟨"HeatGovernor", "needSealed", "()V"⟩, 6) := ⟨⟨by decide +kernel, by decide +kernel⟩, List.mem_of_getElem? (i := 17) (by decide +kernel), List.mem_of_getElem? (i := 452) (by decide +kernel), List.mem_of_getElem? (i := 453) (by decide +kernel)⟩
theorem lw_p8 : lw_okq (⟨"HeatGovernor$Cores", "grantInTurn", "(LHeatGovernor$Outlook;[I)V"⟩, 7) := ⟨⟨by decide +kernel, by decide +kernel⟩, List.mem_of_getElem? (i := 145) (by decide +kernel), List.mem_of_getElem? (i := 471) (by decide +kernel), List.mem_of_getElem? (i := 472) (by decide +kernel)⟩
theorem lw_p9 : lw_okq (⟨"HeatGovernor$Cores", "firstBut", "(I)I"⟩, 7) := ⟨⟨by decide +kernel, by decide +kernel⟩, List.mem_of_getElem? (i := 145) (by decide +kernel), List.mem_of_getElem? (i := 475) (by decide +kernel), List.mem_of_getElem? (i := 476) (by decide +kernel)⟩
theorem lw_p10 : lw_okq (⟨"HeatGovernor$Cores", "comesBefore", "(II)Z"⟩, 7) := ⟨⟨by decide +kernel, by decide +kernel⟩, List.mem_of_getElem? (i := 145) (by decide +kernel), List.mem_of_getElem? (i := 479) (by decide +kernel), List.mem_of_getElem? (i := 480) (by decide +kernel)⟩
theorem lw_p11 : lw_okq (⟨"HeatGovernor$Cores", "grantGreatest", "(ILHeatGovernor$Outlook;[I)V"⟩, 7) := ⟨⟨by decide +kernel, by decide +kernel⟩, List.mem_of_getElem? (i := 145) (by decide +kernel), List.mem_of_getElem? (i := 483) (by decide +kernel), List.mem_of_getElem? (i := 484) (by decide +kernel)⟩
theorem lw_p12 : lw_okq (⟨"HeatGovernor$Cores", "endWishes", "()I"⟩, 7) := ⟨⟨by decide +kernel, by decide +kernel⟩, List.mem_of_getElem? (i := 145) (by decide +kernel), List.mem_of_getElem? (i := 488) (by decide +kernel), List.mem_of_getElem? (i := 489) (by decide +kernel)⟩
theorem lw_p13 : lw_okq (⟨"HeatGovernorModel", "begin", "()V"⟩, 31) := ⟨⟨by decide +kernel, by decide +kernel⟩, List.mem_of_getElem? (i := 566) (by decide +kernel), List.mem_of_getElem? (i := 572) (by decide +kernel), List.mem_of_getElem? (i := 573) (by decide +kernel)⟩
theorem lw_p14 : lw_okq (⟨"HeatGovernorModel", "unsealed", "(ZZ)I"⟩, 31) := ⟨⟨by decide +kernel, by decide +kernel⟩, List.mem_of_getElem? (i := 566) (by decide +kernel), List.mem_of_getElem? (i := 685) (by decide +kernel), List.mem_of_getElem? (i := 686) (by decide +kernel)⟩
theorem lw_p15 : lw_okq (⟨"HeatGovernorModel", "areJoined", "()Z"⟩, 31) := ⟨⟨by decide +kernel, by decide +kernel⟩, List.mem_of_getElem? (i := 566) (by decide +kernel), List.mem_of_getElem? (i := 726) (by decide +kernel), List.mem_of_getElem? (i := 727) (by decide +kernel)⟩
def lw_privs_1 : List (MethodName × Nat) := [(⟨"java/lang/Throwable", "fillInStackTrace", "(I)Ljava/lang/Throwable;"⟩, 6), (⟨"HeatGovernor", "needUnsealed", "()V"⟩, 6), (⟨"HeatGovernor$Chip", "withNeighbours", "(I)I"⟩, 15), (⟨"HeatGovernor$Chip", "leakAt", "(I)I"⟩, 15), (⟨"HeatGovernor$Chip", "worstInflow", "(I[I)I"⟩, 15), (⟨"HeatGovernor$Chip", "worstGrowth", "(II)I"⟩, 15), (⟨"HeatGovernor$Chip", "grow", "([I)Z"⟩, 15), (⟨"HeatGovernor", "needSealed", "()V"⟩, 6), (⟨"HeatGovernor$Cores", "grantInTurn", "(LHeatGovernor$Outlook;[I)V"⟩, 7), (⟨"HeatGovernor$Cores", "firstBut", "(I)I"⟩, 7), (⟨"HeatGovernor$Cores", "comesBefore", "(II)Z"⟩, 7), (⟨"HeatGovernor$Cores", "grantGreatest", "(ILHeatGovernor$Outlook;[I)V"⟩, 7), (⟨"HeatGovernor$Cores", "endWishes", "()I"⟩, 7), (⟨"HeatGovernorModel", "begin", "()V"⟩, 31), (⟨"HeatGovernorModel", "unsealed", "(ZZ)I"⟩, 31), (⟨"HeatGovernorModel", "areJoined", "()Z"⟩, 31)]
theorem lw_r1 : ∀ q ∈ lw_privs_1, lw_okq q := List.forall_mem_cons.mpr ⟨lw_p0, List.forall_mem_cons.mpr ⟨lw_p1, List.forall_mem_cons.mpr ⟨lw_p2, List.forall_mem_cons.mpr ⟨lw_p3, List.forall_mem_cons.mpr ⟨lw_p4, List.forall_mem_cons.mpr ⟨lw_p5, List.forall_mem_cons.mpr ⟨lw_p6, List.forall_mem_cons.mpr ⟨lw_p7, List.forall_mem_cons.mpr ⟨lw_p8, List.forall_mem_cons.mpr ⟨lw_p9, List.forall_mem_cons.mpr ⟨lw_p10, List.forall_mem_cons.mpr ⟨lw_p11, List.forall_mem_cons.mpr ⟨lw_p12, List.forall_mem_cons.mpr ⟨lw_p13, List.forall_mem_cons.mpr ⟨lw_p14, List.forall_mem_cons.mpr ⟨lw_p15, fun _ h => absurd h List.not_mem_nil⟩⟩⟩⟩⟩⟩⟩⟩⟩⟩⟩⟩⟩⟩⟩⟩
theorem lw_p16 : lw_okq (⟨"HeatGovernorModel", "areSlow", "()Z"⟩, 31) := ⟨⟨by decide +kernel, by decide +kernel⟩, List.mem_of_getElem? (i := 566) (by decide +kernel), List.mem_of_getElem? (i := 730) (by decide +kernel), List.mem_of_getElem? (i := 731) (by decide +kernel)⟩
theorem lw_p17 : lw_okq (⟨"HeatGovernorModel", "isSafe", "()Z"⟩, 31) := ⟨⟨by decide +kernel, by decide +kernel⟩, List.mem_of_getElem? (i := 566) (by decide +kernel), List.mem_of_getElem? (i := 734) (by decide +kernel), List.mem_of_getElem? (i := 735) (by decide +kernel)⟩
theorem lw_p18 : lw_okq (⟨"HeatGovernorModel", "areWithin", "()Z"⟩, 31) := ⟨⟨by decide +kernel, by decide +kernel⟩, List.mem_of_getElem? (i := 566) (by decide +kernel), List.mem_of_getElem? (i := 738) (by decide +kernel), List.mem_of_getElem? (i := 739) (by decide +kernel)⟩
theorem lw_p19 : lw_okq (⟨"HeatGovernorModel", "boundTick", "([J[I)Z"⟩, 31) := ⟨⟨by decide +kernel, by decide +kernel⟩, List.mem_of_getElem? (i := 566) (by decide +kernel), List.mem_of_getElem? (i := 742) (by decide +kernel), List.mem_of_getElem? (i := 743) (by decide +kernel)⟩
theorem lw_p20 : lw_okq (⟨"HeatGovernorModel", "leakAt", "(J)J"⟩, 31) := ⟨⟨by decide +kernel, by decide +kernel⟩, List.mem_of_getElem? (i := 566) (by decide +kernel), List.mem_of_getElem? (i := 746) (by decide +kernel), List.mem_of_getElem? (i := 747) (by decide +kernel)⟩
theorem lw_p21 : lw_okq (⟨"HeatGovernorModel", "shut", "(ZZ)I"⟩, 31) := ⟨⟨by decide +kernel, by decide +kernel⟩, List.mem_of_getElem? (i := 566) (by decide +kernel), List.mem_of_getElem? (i := 757) (by decide +kernel), List.mem_of_getElem? (i := 758) (by decide +kernel)⟩
theorem lw_p22 : lw_okq (⟨"HeatGovernorModel", "isBefore", "(II)Z"⟩, 31) := ⟨⟨by decide +kernel, by decide +kernel⟩, List.mem_of_getElem? (i := 566) (by decide +kernel), List.mem_of_getElem? (i := 765) (by decide +kernel), List.mem_of_getElem? (i := 766) (by decide +kernel)⟩
theorem lw_p23 : lw_okq (⟨"HeatGovernorModel", "grantOne", "(I)V"⟩, 31) := ⟨⟨by decide +kernel, by decide +kernel⟩, List.mem_of_getElem? (i := 566) (by decide +kernel), List.mem_of_getElem? (i := 769) (by decide +kernel), List.mem_of_getElem? (i := 770) (by decide +kernel)⟩
theorem lw_p24 : lw_okq (⟨"HeatGovernorModel", "tickOnce", "()V"⟩, 31) := ⟨⟨by decide +kernel, by decide +kernel⟩, List.mem_of_getElem? (i := 566) (by decide +kernel), List.mem_of_getElem? (i := 777) (by decide +kernel), List.mem_of_getElem? (i := 778) (by decide +kernel)⟩
theorem lw_p25 : lw_okq (⟨"HeatGovernorModel", "trueTick", "()V"⟩, 31) := ⟨⟨by decide +kernel, by decide +kernel⟩, List.mem_of_getElem? (i := 566) (by decide +kernel), List.mem_of_getElem? (i := 781) (by decide +kernel), List.mem_of_getElem? (i := 782) (by decide +kernel)⟩
theorem lw_p26 : lw_okq (⟨"HeatGovernorModel", "drawn", "(I)I"⟩, 31) := ⟨⟨by decide +kernel, by decide +kernel⟩, List.mem_of_getElem? (i := 566) (by decide +kernel), List.mem_of_getElem? (i := 785) (by decide +kernel), List.mem_of_getElem? (i := 786) (by decide +kernel)⟩
def lw_privs_2 : List (MethodName × Nat) := [(⟨"HeatGovernorModel", "areSlow", "()Z"⟩, 31), (⟨"HeatGovernorModel", "isSafe", "()Z"⟩, 31), (⟨"HeatGovernorModel", "areWithin", "()Z"⟩, 31), (⟨"HeatGovernorModel", "boundTick", "([J[I)Z"⟩, 31), (⟨"HeatGovernorModel", "leakAt", "(J)J"⟩, 31), (⟨"HeatGovernorModel", "shut", "(ZZ)I"⟩, 31), (⟨"HeatGovernorModel", "isBefore", "(II)Z"⟩, 31), (⟨"HeatGovernorModel", "grantOne", "(I)V"⟩, 31), (⟨"HeatGovernorModel", "tickOnce", "()V"⟩, 31), (⟨"HeatGovernorModel", "trueTick", "()V"⟩, 31), (⟨"HeatGovernorModel", "drawn", "(I)I"⟩, 31)]
theorem lw_r2 : ∀ q ∈ lw_privs_2, lw_okq q := List.forall_mem_cons.mpr ⟨lw_p16, List.forall_mem_cons.mpr ⟨lw_p17, List.forall_mem_cons.mpr ⟨lw_p18, List.forall_mem_cons.mpr ⟨lw_p19, List.forall_mem_cons.mpr ⟨lw_p20, List.forall_mem_cons.mpr ⟨lw_p21, List.forall_mem_cons.mpr ⟨lw_p22, List.forall_mem_cons.mpr ⟨lw_p23, List.forall_mem_cons.mpr ⟨lw_p24, List.forall_mem_cons.mpr ⟨lw_p25, List.forall_mem_cons.mpr ⟨lw_p26, fun _ h => absurd h List.not_mem_nil⟩⟩⟩⟩⟩⟩⟩⟩⟩⟩⟩
def lw_privs : List (MethodName × Nat) := lw_privs_1 ++ (lw_privs_2)
def lw_tbl : List Cond := k2_sels lw_privs ++ tables_1
theorem lw_privs_ok : ∀ q ∈ lw_privs, lw_okq q := by
  show ∀ q ∈ lw_privs_1 ++ (lw_privs_2), lw_okq q
  exact List.forall_mem_append.mpr ⟨lw_r1, lw_r2⟩
def R_Gov : String := "HeatGovernor"
def F_Gov : u_T := fun k => match k with
  | 0 => ("HeatGovernor", "chip", "LHeatGovernor$Chip;", true)
  | 1 => ("HeatGovernor", "outlook", "LHeatGovernor$Outlook;", true)
  | 2 => ("HeatGovernor", "nodes", "LHeatGovernor$Nodes;", true)
  | 3 => ("HeatGovernor", "cores", "LHeatGovernor$Cores;", true)
  | 4 => ("HeatGovernor", "stepsLookedAt", "[I", true)
  | _ => ("HeatGovernor", "sealed", "Z", false)
def t_Gov : Nat → FieldType := fun k => match k with
  | 0 => (.object "HeatGovernor$Chip")
  | 1 => (.object "HeatGovernor$Outlook")
  | 2 => (.object "HeatGovernor$Nodes")
  | 3 => (.object "HeatGovernor$Cores")
  | 4 => (.array .int)
  | _ => .boolean
theorem n_Gov : ∀ a, a < 6 → ∀ b, b < 6 → a ≠ b → (F_Gov a).2.1 ≠ (F_Gov b).2.1 := by decide +kernel
theorem t_Gov_ok : ∀ k, k < 6 → parseFieldDescriptor (F_Gov k).2.2.1 = some (t_Gov k) := by decide +kernel
theorem ui_Gov : ∀ w ∈ u_ws R_Gov F_Gov 6, w ∈ lw_tbl ∧ (w.onTables && w.keeps) = true := by decide +kernel
theorem u_Gov {z s : State} {za args : Array Value} (zh : ∀ w ∈ lw_tbl, w.before za z = true) (hZ : z.WarmedH s.vm) : ∀ w ∈ u_ws R_Gov F_Gov 6, w.before args s = true := fun w h => word_at hZ (Or.inl (ui_Gov w h).2) (zh w (ui_Gov w h).1)
def R_Chip : String := "HeatGovernor$Chip"
def F_Chip : u_T := fun k => match k with
  | 0 => ("HeatGovernor$Chip", "lowCapacities", "[I", true)
  | 1 => ("HeatGovernor$Chip", "highCapacities", "[I", true)
  | 2 => ("HeatGovernor$Chip", "trueCapacities", "[I", true)
  | 3 => ("HeatGovernor$Chip", "lowEdges", "[I", true)
  | 4 => ("HeatGovernor$Chip", "highEdges", "[I", true)
  | 5 => ("HeatGovernor$Chip", "trueEdges", "[I", true)
  | 6 => ("HeatGovernor$Chip", "limits", "[I", true)
  | 7 => ("HeatGovernor$Chip", "powers", "[I", true)
  | 8 => ("HeatGovernor$Chip", "trueAir", "I", false)
  | 9 => ("HeatGovernor$Chip", "highAir", "I", false)
  | 10 => ("HeatGovernor$Chip", "leakBase", "I", false)
  | 11 => ("HeatGovernor$Chip", "leakSlope", "I", false)
  | 12 => ("HeatGovernor$Chip", "leakSteep", "I", false)
  | 13 => ("HeatGovernor$Chip", "leakKnee", "I", false)
  | _ => ("HeatGovernor$Chip", "growths", "[I", true)
def t_Chip : Nat → FieldType := fun k => match k with
  | 0 => (.array .int)
  | 1 => (.array .int)
  | 2 => (.array .int)
  | 3 => (.array .int)
  | 4 => (.array .int)
  | 5 => (.array .int)
  | 6 => (.array .int)
  | 7 => (.array .int)
  | 8 => .int
  | 9 => .int
  | 10 => .int
  | 11 => .int
  | 12 => .int
  | 13 => .int
  | _ => (.array .int)
theorem n_Chip : ∀ a, a < 15 → ∀ b, b < 15 → a ≠ b → (F_Chip a).2.1 ≠ (F_Chip b).2.1 := by decide +kernel
theorem t_Chip_ok : ∀ k, k < 15 → parseFieldDescriptor (F_Chip k).2.2.1 = some (t_Chip k) := by decide +kernel
theorem ui_Chip : ∀ w ∈ u_ws R_Chip F_Chip 15, w ∈ lw_tbl ∧ (w.onTables && w.keeps) = true := by decide +kernel
theorem u_Chip {z s : State} {za args : Array Value} (zh : ∀ w ∈ lw_tbl, w.before za z = true) (hZ : z.WarmedH s.vm) : ∀ w ∈ u_ws R_Chip F_Chip 15, w.before args s = true := fun w h => word_at hZ (Or.inl (ui_Chip w h).2) (zh w (ui_Chip w h).1)
def R_Outlook : String := "HeatGovernor$Outlook"
def F_Outlook : u_T := fun k => match k with
  | 0 => ("HeatGovernor$Outlook", "chip", "LHeatGovernor$Chip;", true)
  | 1 => ("HeatGovernor$Outlook", "trial", "[I", true)
  | _ => ("HeatGovernor$Outlook", "idle", "[I", true)
def t_Outlook : Nat → FieldType := fun k => match k with
  | 0 => (.object "HeatGovernor$Chip")
  | 1 => (.array .int)
  | _ => (.array .int)
theorem n_Outlook : ∀ a, a < 3 → ∀ b, b < 3 → a ≠ b → (F_Outlook a).2.1 ≠ (F_Outlook b).2.1 := by decide +kernel
theorem t_Outlook_ok : ∀ k, k < 3 → parseFieldDescriptor (F_Outlook k).2.2.1 = some (t_Outlook k) := by decide +kernel
theorem ui_Outlook : ∀ w ∈ u_ws R_Outlook F_Outlook 3, w ∈ lw_tbl ∧ (w.onTables && w.keeps) = true := by decide +kernel
theorem u_Outlook {z s : State} {za args : Array Value} (zh : ∀ w ∈ lw_tbl, w.before za z = true) (hZ : z.WarmedH s.vm) : ∀ w ∈ u_ws R_Outlook F_Outlook 3, w.before args s = true := fun w h => word_at hZ (Or.inl (ui_Outlook w h).2) (zh w (ui_Outlook w h).1)
def R_Nodes : String := "HeatGovernor$Nodes"
def F_Nodes : u_T := fun k => match k with
  | 0 => ("HeatGovernor$Nodes", "truths", "[I", true)
  | 1 => ("HeatGovernor$Nodes", "bounds", "[I", true)
  | 2 => ("HeatGovernor$Nodes", "peaks", "[I", true)
  | 3 => ("HeatGovernor$Nodes", "errors", "[I", true)
  | _ => ("HeatGovernor$Nodes", "alive", "[Z", true)
def t_Nodes : Nat → FieldType := fun k => match k with
  | 0 => (.array .int)
  | 1 => (.array .int)
  | 2 => (.array .int)
  | 3 => (.array .int)
  | _ => (.array .boolean)
theorem n_Nodes : ∀ a, a < 5 → ∀ b, b < 5 → a ≠ b → (F_Nodes a).2.1 ≠ (F_Nodes b).2.1 := by decide +kernel
theorem t_Nodes_ok : ∀ k, k < 5 → parseFieldDescriptor (F_Nodes k).2.2.1 = some (t_Nodes k) := by decide +kernel
theorem ui_Nodes : ∀ w ∈ u_ws R_Nodes F_Nodes 5, w ∈ lw_tbl ∧ (w.onTables && w.keeps) = true := by decide +kernel
theorem u_Nodes {z s : State} {za args : Array Value} (zh : ∀ w ∈ lw_tbl, w.before za z = true) (hZ : z.WarmedH s.vm) : ∀ w ∈ u_ws R_Nodes F_Nodes 5, w.before args s = true := fun w h => word_at hZ (Or.inl (ui_Nodes w h).2) (zh w (ui_Nodes w h).1)
def R_Cores : String := "HeatGovernor$Cores"
def F_Cores : u_T := fun k => match k with
  | 0 => ("HeatGovernor$Cores", "steps", "[I", true)
  | 1 => ("HeatGovernor$Cores", "wishes", "[I", true)
  | 2 => ("HeatGovernor$Cores", "ranks", "[I", true)
  | 3 => ("HeatGovernor$Cores", "waits", "[I", true)
  | 4 => ("HeatGovernor$Cores", "told", "[I", true)
  | 5 => ("HeatGovernor$Cores", "grants", "[I", true)
  | _ => ("HeatGovernor$Cores", "ticksHeld", "I", false)
def t_Cores : Nat → FieldType := fun k => match k with
  | 0 => (.array .int)
  | 1 => (.array .int)
  | 2 => (.array .int)
  | 3 => (.array .int)
  | 4 => (.array .int)
  | 5 => (.array .int)
  | _ => .int
theorem n_Cores : ∀ a, a < 7 → ∀ b, b < 7 → a ≠ b → (F_Cores a).2.1 ≠ (F_Cores b).2.1 := by decide +kernel
theorem t_Cores_ok : ∀ k, k < 7 → parseFieldDescriptor (F_Cores k).2.2.1 = some (t_Cores k) := by decide +kernel
theorem ui_Cores : ∀ w ∈ u_ws R_Cores F_Cores 7, w ∈ lw_tbl ∧ (w.onTables && w.keeps) = true := by decide +kernel
theorem u_Cores {z s : State} {za args : Array Value} (zh : ∀ w ∈ lw_tbl, w.before za z = true) (hZ : z.WarmedH s.vm) : ∀ w ∈ u_ws R_Cores F_Cores 7, w.before args s = true := fun w h => word_at hZ (Or.inl (ui_Cores w h).2) (zh w (ui_Cores w h).1)
def R_Model : String := "HeatGovernorModel"
def F_Model : u_T := fun k => match k with
  | 0 => ("HeatGovernorModel", "thrown", "I", false)
  | 1 => ("HeatGovernorModel", "sealed", "Z", false)
  | 2 => ("HeatGovernorModel", "lowCapacity", "[I", true)
  | 3 => ("HeatGovernorModel", "highCapacity", "[I", true)
  | 4 => ("HeatGovernorModel", "trueCapacity", "[I", true)
  | 5 => ("HeatGovernorModel", "low", "[I", true)
  | 6 => ("HeatGovernorModel", "high", "[I", true)
  | 7 => ("HeatGovernorModel", "real", "[I", true)
  | 8 => ("HeatGovernorModel", "limits", "[I", true)
  | 9 => ("HeatGovernorModel", "airLow", "I", false)
  | 10 => ("HeatGovernorModel", "airTrue", "I", false)
  | 11 => ("HeatGovernorModel", "airHigh", "I", false)
  | 12 => ("HeatGovernorModel", "power", "[I", true)
  | 13 => ("HeatGovernorModel", "base", "I", false)
  | 14 => ("HeatGovernorModel", "slope", "I", false)
  | 15 => ("HeatGovernorModel", "steep", "I", false)
  | 16 => ("HeatGovernorModel", "knee", "I", false)
  | 17 => ("HeatGovernorModel", "warm", "[J", true)
  | 18 => ("HeatGovernorModel", "bounds", "[J", true)
  | 19 => ("HeatGovernorModel", "peaks", "[J", true)
  | 20 => ("HeatGovernorModel", "next", "[J", true)
  | 21 => ("HeatGovernorModel", "probe", "[J", true)
  | 22 => ("HeatGovernorModel", "errors", "[I", true)
  | 23 => ("HeatGovernorModel", "dead", "[Z", true)
  | 24 => ("HeatGovernorModel", "steps", "[I", true)
  | 25 => ("HeatGovernorModel", "tried", "[I", true)
  | 26 => ("HeatGovernorModel", "wishes", "[I", true)
  | 27 => ("HeatGovernorModel", "ranks", "[I", true)
  | 28 => ("HeatGovernorModel", "waits", "[I", true)
  | 29 => ("HeatGovernorModel", "draws", "[I", true)
  | _ => ("HeatGovernorModel", "left", "I", false)
def t_Model : Nat → FieldType := fun k => match k with
  | 0 => .int
  | 1 => .boolean
  | 2 => (.array .int)
  | 3 => (.array .int)
  | 4 => (.array .int)
  | 5 => (.array .int)
  | 6 => (.array .int)
  | 7 => (.array .int)
  | 8 => (.array .int)
  | 9 => .int
  | 10 => .int
  | 11 => .int
  | 12 => (.array .int)
  | 13 => .int
  | 14 => .int
  | 15 => .int
  | 16 => .int
  | 17 => (.array .long)
  | 18 => (.array .long)
  | 19 => (.array .long)
  | 20 => (.array .long)
  | 21 => (.array .long)
  | 22 => (.array .int)
  | 23 => (.array .boolean)
  | 24 => (.array .int)
  | 25 => (.array .int)
  | 26 => (.array .int)
  | 27 => (.array .int)
  | 28 => (.array .int)
  | 29 => (.array .int)
  | _ => .int
theorem n_Model : ∀ a, a < 31 → ∀ b, b < 31 → a ≠ b → (F_Model a).2.1 ≠ (F_Model b).2.1 := by decide +kernel
theorem t_Model_ok : ∀ k, k < 31 → parseFieldDescriptor (F_Model k).2.2.1 = some (t_Model k) := by decide +kernel
theorem ui_Model : ∀ w ∈ u_ws R_Model F_Model 31, w ∈ lw_tbl ∧ (w.onTables && w.keeps) = true := by decide +kernel
theorem u_Model {z s : State} {za args : Array Value} (zh : ∀ w ∈ lw_tbl, w.before za z = true) (hZ : z.WarmedH s.vm) : ∀ w ∈ u_ws R_Model F_Model 31, w.before args s = true := fun w h => word_at hZ (Or.inl (ui_Model w h).2) (zh w (ui_Model w h).1)
def R_Law : String := "HeatGovernorLaw"
def R_Math : String := "java/lang/Math"
def R_Arrays : String := "java/util/Arrays"
def R_System : String := "java/lang/System"
abbrev classes : List vw_C := [(R_Gov, F_Gov, 6), (R_Chip, F_Chip, 15), (R_Outlook, F_Outlook, 3), (R_Nodes, F_Nodes, 5), (R_Cores, F_Cores, 7), (R_Model, F_Model, 31)]
def y_Gov_init : MethodName := ⟨R_Gov, "<init>", "()V"⟩
def y_Gov_capacity : MethodName := ⟨R_Gov, "capacity", "(III)V"⟩
def y_Gov_edge : MethodName := ⟨R_Gov, "edge", "(IIII)V"⟩
def y_Gov_limit : MethodName := ⟨R_Gov, "limit", "(II)V"⟩
def y_Gov_air : MethodName := ⟨R_Gov, "air", "(III)V"⟩
def y_Gov_power : MethodName := ⟨R_Gov, "power", "(II)V"⟩
def y_Gov_leak : MethodName := ⟨R_Gov, "leak", "(IIII)V"⟩
def y_Gov_truth : MethodName := ⟨R_Gov, "truth", "(III)V"⟩
def y_Gov_seal : MethodName := ⟨R_Gov, "seal", "()Z"⟩
def y_Gov_ask : MethodName := ⟨R_Gov, "ask", "(III)V"⟩
def y_Gov_period : MethodName := ⟨R_Gov, "period", "()I"⟩
def y_Gov_tick : MethodName := ⟨R_Gov, "tick", "(I)I"⟩
def y_Gov_draw : MethodName := ⟨R_Gov, "draw", "(II)V"⟩
def y_Gov_sensor : MethodName := ⟨R_Gov, "sensor", "(IIZ)V"⟩
def y_Gov_ahead : MethodName := ⟨R_Gov, "ahead", "(I)Z"⟩
def y_Gov_node : MethodName := ⟨R_Gov, "node", "(II)I"⟩
def y_Gov_core : MethodName := ⟨R_Gov, "core", "(II)I"⟩
def y_Gov_open : MethodName := ⟨R_Gov, "open", "()V"⟩
def y_Gov_needIndex : MethodName := ⟨R_Gov, "needIndex", "(II)V"⟩
def y_Gov_needWithin : MethodName := ⟨R_Gov, "needWithin", "(III)V"⟩
def y_Gov_needRange : MethodName := ⟨R_Gov, "needRange", "(IIII)V"⟩
def y_Gov_needSealed : MethodName := ⟨R_Gov, "needSealed", "()V"⟩
def y_Gov_needUnsealed : MethodName := ⟨R_Gov, "needUnsealed", "()V"⟩
def y_Gov_between : MethodName := ⟨R_Gov, "between", "(II)I"⟩
def y_Model_init : MethodName := ⟨R_Model, "<init>", "()V"⟩
def y_Model_thrown : MethodName := ⟨R_Model, "thrown", "()I"⟩
def y_Model_begin : MethodName := ⟨R_Model, "begin", "()V"⟩
def y_Model_isNode : MethodName := ⟨R_Model, "isNode", "(I)Z"⟩
def y_Model_isCore : MethodName := ⟨R_Model, "isCore", "(I)Z"⟩
def y_Model_isEnd : MethodName := ⟨R_Model, "isEnd", "(I)Z"⟩
def y_Model_isWithin : MethodName := ⟨R_Model, "isWithin", "(III)Z"⟩
def y_Model_unsealed : MethodName := ⟨R_Model, "unsealed", "(ZZ)I"⟩
def y_Model_capacity : MethodName := ⟨R_Model, "capacity", "(III)V"⟩
def y_Model_edge : MethodName := ⟨R_Model, "edge", "(IIII)V"⟩
def y_Model_limit : MethodName := ⟨R_Model, "limit", "(II)V"⟩
def y_Model_air : MethodName := ⟨R_Model, "air", "(III)V"⟩
def y_Model_power : MethodName := ⟨R_Model, "power", "(II)V"⟩
def y_Model_leak : MethodName := ⟨R_Model, "leak", "(IIII)V"⟩
def y_Model_truth : MethodName := ⟨R_Model, "truth", "(III)V"⟩
def y_Model_leakAt : MethodName := ⟨R_Model, "leakAt", "(J)J"⟩
def y_Model_down : MethodName := ⟨R_Model, "down", "(JJ)J"⟩
def y_Model_up : MethodName := ⟨R_Model, "up", "(JJ)J"⟩
def y_Model_boundTick : MethodName := ⟨R_Model, "boundTick", "([J[I)Z"⟩
def y_Model_trueTick : MethodName := ⟨R_Model, "trueTick", "()V"⟩
def y_Model_areWithin : MethodName := ⟨R_Model, "areWithin", "()Z"⟩
def y_Model_isSafe : MethodName := ⟨R_Model, "isSafe", "()Z"⟩
def y_Model_areJoined : MethodName := ⟨R_Model, "areJoined", "()Z"⟩
def y_Model_areSlow : MethodName := ⟨R_Model, "areSlow", "()Z"⟩
def y_Model_seal : MethodName := ⟨R_Model, "seal", "()Z"⟩
def y_Model_shut : MethodName := ⟨R_Model, "shut", "(ZZ)I"⟩
def y_Model_ask : MethodName := ⟨R_Model, "ask", "(III)V"⟩
def y_Model_isBefore : MethodName := ⟨R_Model, "isBefore", "(II)Z"⟩
def y_Model_grantOne : MethodName := ⟨R_Model, "grantOne", "(I)V"⟩
def y_Model_period : MethodName := ⟨R_Model, "period", "()I"⟩
def y_Model_drawn : MethodName := ⟨R_Model, "drawn", "(I)I"⟩
def y_Model_tickOnce : MethodName := ⟨R_Model, "tickOnce", "()V"⟩
def y_Model_tick : MethodName := ⟨R_Model, "tick", "(I)I"⟩
def y_Model_draw : MethodName := ⟨R_Model, "draw", "(II)V"⟩
def y_Model_sensor : MethodName := ⟨R_Model, "sensor", "(IIZ)V"⟩
def y_Model_ahead : MethodName := ⟨R_Model, "ahead", "(I)Z"⟩
def y_Model_node : MethodName := ⟨R_Model, "node", "(II)I"⟩
def y_Model_core : MethodName := ⟨R_Model, "core", "(II)I"⟩
def y_Model_open : MethodName := ⟨R_Model, "open", "()V"⟩
def y_Chip_init : MethodName := ⟨R_Chip, "<init>", "()V"⟩
def y_Chip_reset : MethodName := ⟨R_Chip, "reset", "()V"⟩
def y_Chip_setCapacity : MethodName := ⟨R_Chip, "setCapacity", "(III)V"⟩
def y_Chip_setEdge : MethodName := ⟨R_Chip, "setEdge", "(IIII)V"⟩
def y_Chip_setTrueEdge : MethodName := ⟨R_Chip, "setTrueEdge", "(III)V"⟩
def y_Chip_setLeak : MethodName := ⟨R_Chip, "setLeak", "(IIII)V"⟩
def y_Chip_isJoined : MethodName := ⟨R_Chip, "isJoined", "()Z"⟩
def y_Chip_withNeighbours : MethodName := ⟨R_Chip, "withNeighbours", "(I)I"⟩
def y_Chip_isSteady : MethodName := ⟨R_Chip, "isSteady", "()Z"⟩
def y_Chip_keepsLimits : MethodName := ⟨R_Chip, "keepsLimits", "([I)Z"⟩
def y_Chip_leakAt : MethodName := ⟨R_Chip, "leakAt", "(I)I"⟩
def y_Chip_trueTick : MethodName := ⟨R_Chip, "trueTick", "([ILHeatGovernor$Cores;)V"⟩
def y_Chip_boundTick : MethodName := ⟨R_Chip, "boundTick", "([I[I)Z"⟩
def y_Chip_worstInflow : MethodName := ⟨R_Chip, "worstInflow", "(I[I)I"⟩
def y_Chip_worstGrowth : MethodName := ⟨R_Chip, "worstGrowth", "(II)I"⟩
def y_Chip_grow : MethodName := ⟨R_Chip, "grow", "([I)Z"⟩
def y_Cores_init : MethodName := ⟨R_Cores, "<init>", "()V"⟩
def y_Cores_begin : MethodName := ⟨R_Cores, "begin", "()V"⟩
def y_Cores_trueDraw : MethodName := ⟨R_Cores, "trueDraw", "(ILHeatGovernor$Chip;)I"⟩
def y_Cores_isBusy : MethodName := ⟨R_Cores, "isBusy", "()Z"⟩
def y_Cores_passTick : MethodName := ⟨R_Cores, "passTick", "()V"⟩
def y_Cores_beginPeriod : MethodName := ⟨R_Cores, "beginPeriod", "(LHeatGovernor$Outlook;[I)I"⟩
def y_Cores_grantInTurn : MethodName := ⟨R_Cores, "grantInTurn", "(LHeatGovernor$Outlook;[I)V"⟩
def y_Cores_firstBut : MethodName := ⟨R_Cores, "firstBut", "(I)I"⟩
def y_Cores_comesBefore : MethodName := ⟨R_Cores, "comesBefore", "(II)Z"⟩
def y_Cores_grantGreatest : MethodName := ⟨R_Cores, "grantGreatest", "(ILHeatGovernor$Outlook;[I)V"⟩
def y_Cores_endWishes : MethodName := ⟨R_Cores, "endWishes", "()I"⟩
def y_Nodes_init : MethodName := ⟨R_Nodes, "<init>", "()V"⟩
def y_Nodes_begin : MethodName := ⟨R_Nodes, "begin", "(LHeatGovernor$Chip;)V"⟩
def y_Nodes_reading : MethodName := ⟨R_Nodes, "reading", "(I)I"⟩
def y_Nodes_passTick : MethodName := ⟨R_Nodes, "passTick", "(LHeatGovernor$Chip;LHeatGovernor$Cores;)V"⟩
def y_Outlook_init : MethodName := ⟨R_Outlook, "<init>", "(LHeatGovernor$Chip;)V"⟩
def y_Outlook_isSafe : MethodName := ⟨R_Outlook, "isSafe", "([I[I)Z"⟩
def y_Law_capacity : MethodName := ⟨R_Law, "capacity", "(LHeatGovernor;III)I"⟩
def y_Law_edge : MethodName := ⟨R_Law, "edge", "(LHeatGovernor;IIII)I"⟩
def y_Law_limit : MethodName := ⟨R_Law, "limit", "(LHeatGovernor;II)I"⟩
def y_Law_air : MethodName := ⟨R_Law, "air", "(LHeatGovernor;III)I"⟩
def y_Law_power : MethodName := ⟨R_Law, "power", "(LHeatGovernor;II)I"⟩
def y_Law_leak : MethodName := ⟨R_Law, "leak", "(LHeatGovernor;IIII)I"⟩
def y_Law_truth : MethodName := ⟨R_Law, "truth", "(LHeatGovernor;III)I"⟩
def y_Law_seal : MethodName := ⟨R_Law, "seal", "(LHeatGovernor;[J)I"⟩
def y_Law_ask : MethodName := ⟨R_Law, "ask", "(LHeatGovernor;III)I"⟩
def y_Law_period : MethodName := ⟨R_Law, "period", "(LHeatGovernor;[J)I"⟩
def y_Law_tick : MethodName := ⟨R_Law, "tick", "(LHeatGovernor;I[J)I"⟩
def y_Law_draw : MethodName := ⟨R_Law, "draw", "(LHeatGovernor;II)I"⟩
def y_Law_sensor : MethodName := ⟨R_Law, "sensor", "(LHeatGovernor;IIZ)I"⟩
def y_Law_ahead : MethodName := ⟨R_Law, "ahead", "(LHeatGovernor;I[J)I"⟩
def y_Law_node : MethodName := ⟨R_Law, "node", "(LHeatGovernor;II[J)I"⟩
def y_Law_core : MethodName := ⟨R_Law, "core", "(LHeatGovernor;II[J)I"⟩
def y_Law_law : MethodName := ⟨R_Law, "law", "([I)Z"⟩
def y_Math_floorDiv : MethodName := ⟨R_Math, "floorDiv", "(II)I"⟩
def y_Arrays_fill : MethodName := ⟨R_Arrays, "fill", "([II)V"⟩
theorem kc_len {o : Option MethodDescriptor} {n : Nat} (h : o.map (fun d => d.parameters.length) = some n) : ∀ sig, o = some sig → n = sig.parameters.length := by
  intro sig hs
  rw [hs] at h
  exact (Option.some.inj h).symm
theorem q_1 : lw_tbl[1]? = some (Cond.selects R_Gov y_Gov_needUnsealed y_Gov_needUnsealed) := by decide +kernel
theorem q_2 : lw_tbl[2]? = some (Cond.selects R_Chip y_Chip_withNeighbours y_Chip_withNeighbours) := by decide +kernel
theorem q_3 : lw_tbl[3]? = some (Cond.selects R_Chip y_Chip_leakAt y_Chip_leakAt) := by decide +kernel
theorem q_4 : lw_tbl[4]? = some (Cond.selects R_Chip y_Chip_worstInflow y_Chip_worstInflow) := by decide +kernel
theorem q_5 : lw_tbl[5]? = some (Cond.selects R_Chip y_Chip_worstGrowth y_Chip_worstGrowth) := by decide +kernel
theorem q_6 : lw_tbl[6]? = some (Cond.selects R_Chip y_Chip_grow y_Chip_grow) := by decide +kernel
theorem q_7 : lw_tbl[7]? = some (Cond.selects R_Gov y_Gov_needSealed y_Gov_needSealed) := by decide +kernel
theorem q_8 : lw_tbl[8]? = some (Cond.selects R_Cores y_Cores_grantInTurn y_Cores_grantInTurn) := by decide +kernel
theorem q_9 : lw_tbl[9]? = some (Cond.selects R_Cores y_Cores_firstBut y_Cores_firstBut) := by decide +kernel
theorem q_10 : lw_tbl[10]? = some (Cond.selects R_Cores y_Cores_comesBefore y_Cores_comesBefore) := by decide +kernel
theorem q_11 : lw_tbl[11]? = some (Cond.selects R_Cores y_Cores_grantGreatest y_Cores_grantGreatest) := by decide +kernel
theorem q_12 : lw_tbl[12]? = some (Cond.selects R_Cores y_Cores_endWishes y_Cores_endWishes) := by decide +kernel
theorem q_13 : lw_tbl[13]? = some (Cond.selects R_Model y_Model_begin y_Model_begin) := by decide +kernel
theorem q_14 : lw_tbl[14]? = some (Cond.selects R_Model y_Model_unsealed y_Model_unsealed) := by decide +kernel
theorem q_15 : lw_tbl[15]? = some (Cond.selects R_Model y_Model_areJoined y_Model_areJoined) := by decide +kernel
theorem q_16 : lw_tbl[16]? = some (Cond.selects R_Model y_Model_areSlow y_Model_areSlow) := by decide +kernel
theorem q_17 : lw_tbl[17]? = some (Cond.selects R_Model y_Model_isSafe y_Model_isSafe) := by decide +kernel
theorem q_18 : lw_tbl[18]? = some (Cond.selects R_Model y_Model_areWithin y_Model_areWithin) := by decide +kernel
theorem q_19 : lw_tbl[19]? = some (Cond.selects R_Model y_Model_boundTick y_Model_boundTick) := by decide +kernel
theorem q_20 : lw_tbl[20]? = some (Cond.selects R_Model y_Model_leakAt y_Model_leakAt) := by decide +kernel
theorem q_21 : lw_tbl[21]? = some (Cond.selects R_Model y_Model_shut y_Model_shut) := by decide +kernel
theorem q_22 : lw_tbl[22]? = some (Cond.selects R_Model y_Model_isBefore y_Model_isBefore) := by decide +kernel
theorem q_23 : lw_tbl[23]? = some (Cond.selects R_Model y_Model_grantOne y_Model_grantOne) := by decide +kernel
theorem q_24 : lw_tbl[24]? = some (Cond.selects R_Model y_Model_tickOnce y_Model_tickOnce) := by decide +kernel
theorem q_25 : lw_tbl[25]? = some (Cond.selects R_Model y_Model_trueTick y_Model_trueTick) := by decide +kernel
theorem q_26 : lw_tbl[26]? = some (Cond.selects R_Model y_Model_drawn y_Model_drawn) := by decide +kernel
theorem q_27 : lw_tbl[27]? = some (Cond.initialized R_Law) := by decide +kernel
theorem q_28 : lw_tbl[28]? = some (Cond.initialized R_Gov) := by decide +kernel
theorem q_29 : lw_tbl[29]? = some (Cond.initialized R_Chip) := by decide +kernel
theorem q_30 : lw_tbl[30]? = some (Cond.initialized R_Arrays) := by decide +kernel
theorem q_31 : lw_tbl[31]? = some (Cond.initialized R_Outlook) := by decide +kernel
theorem q_32 : lw_tbl[32]? = some (Cond.initialized R_Nodes) := by decide +kernel
theorem q_33 : lw_tbl[33]? = some (Cond.initialized R_Cores) := by decide +kernel
theorem q_34 : lw_tbl[34]? = some (Cond.initialized R_Model) := by decide +kernel
theorem q_35 : lw_tbl[35]? = some (Cond.initialized "java/lang/Throwable") := by decide +kernel
theorem q_36 : lw_tbl[36]? = some (Cond.initialized "java/lang/Exception") := by decide +kernel
theorem q_37 : lw_tbl[37]? = some (Cond.initialized "java/lang/RuntimeException") := by decide +kernel
theorem q_38 : lw_tbl[38]? = some (Cond.initialized "java/lang/IndexOutOfBoundsException") := by decide +kernel
theorem q_39 : lw_tbl[39]? = some (Cond.initialized "java/lang/IllegalArgumentException") := by decide +kernel
theorem q_40 : lw_tbl[40]? = some (Cond.initialized "java/lang/IllegalStateException") := by decide +kernel
theorem q_41 : lw_tbl[41]? = some (Cond.initialized R_System) := by decide +kernel
theorem q_42 : lw_tbl[42]? = some (Cond.initialized R_Math) := by decide +kernel
theorem q_43 : lw_tbl[43]? = some (Cond.classLink R_Law 8 R_Gov) := by decide +kernel
theorem q_44 : lw_tbl[44]? = some (Cond.instantiable R_Gov 6) := by decide +kernel
theorem q_45 : lw_tbl[45]? = some (Cond.methodLink R_Law 72 y_Gov_init) := by decide +kernel
theorem q_46 : lw_tbl[46]? = some (Cond.instanceMethod y_Gov_init) := by decide +kernel
theorem q_47 : lw_tbl[47]? = some (Cond.code y_Gov_init prog_1_method_1_code 1 none) := by decide +kernel
theorem q_48 : lw_tbl[48]? = some (Cond.methodLink R_Gov 1 objectInit) := by decide +kernel
theorem q_49 : lw_tbl[49]? = some (Cond.instanceMethod objectInit) := by decide +kernel
theorem q_50 : lw_tbl[50]? = some (Cond.code objectInit ⟨#[0xb1]⟩ 1 none) := by decide +kernel
theorem q_51 : lw_tbl[51]? = some (Cond.classLink R_Gov 7 R_Chip) := by decide +kernel
theorem q_52 : lw_tbl[52]? = some (Cond.instantiable R_Chip 15) := by decide +kernel
theorem q_53 : lw_tbl[53]? = some (Cond.methodLink R_Gov 9 y_Chip_init) := by decide +kernel
theorem q_54 : lw_tbl[54]? = some (Cond.instanceMethod y_Chip_init) := by decide +kernel
theorem q_55 : lw_tbl[55]? = some (Cond.code y_Chip_init prog_2_method_1_code 1 none) := by decide +kernel
theorem q_56 : lw_tbl[56]? = some (Cond.methodLink R_Chip 3 objectInit) := by decide +kernel
theorem q_57 : lw_tbl[57]? = some (Cond.methodLink R_Chip 39 y_Chip_reset) := by decide +kernel
theorem q_58 : lw_tbl[58]? = some (Cond.instanceMethod y_Chip_reset) := by decide +kernel
theorem q_59 : lw_tbl[59]? = some (Cond.selects R_Chip y_Chip_reset y_Chip_reset) := by decide +kernel
theorem q_60 : lw_tbl[60]? = some (Cond.code y_Chip_reset prog_2_method_2_code 1 none) := by decide +kernel
theorem q_61 : lw_tbl[61]? = some (Cond.methodLink R_Chip 42 y_Arrays_fill) := by decide +kernel
theorem q_62 : lw_tbl[62]? = some (Cond.static y_Arrays_fill) := by decide +kernel
theorem q_63 : lw_tbl[63]? = some (Cond.code y_Arrays_fill prog_16_method_103_code 4 none) := by decide +kernel
theorem q_64 : lw_tbl[64]? = some (Cond.methodLink R_Chip 55 y_Chip_setLeak) := by decide +kernel
theorem q_65 : lw_tbl[65]? = some (Cond.instanceMethod y_Chip_setLeak) := by decide +kernel
theorem q_66 : lw_tbl[66]? = some (Cond.selects R_Chip y_Chip_setLeak y_Chip_setLeak) := by decide +kernel
theorem q_67 : lw_tbl[67]? = some (Cond.code y_Chip_setLeak prog_2_method_6_code 5 none) := by decide +kernel
theorem q_68 : lw_tbl[68]? = some (Cond.fieldLink R_Chip 9 "HeatGovernor$Chip" "lowCapacities" "[I") := by decide +kernel
theorem q_69 : lw_tbl[69]? = some (Cond.fieldLink R_Gov 90 "HeatGovernor$Chip" "lowCapacities" "[I") := by decide +kernel
theorem q_70 : lw_tbl[70]? = some (Cond.fieldLink R_Chip 15 "HeatGovernor$Chip" "highCapacities" "[I") := by decide +kernel
theorem q_71 : lw_tbl[71]? = some (Cond.fieldLink R_Gov 93 "HeatGovernor$Chip" "highCapacities" "[I") := by decide +kernel
theorem q_72 : lw_tbl[72]? = some (Cond.fieldLink R_Chip 18 "HeatGovernor$Chip" "trueCapacities" "[I") := by decide +kernel
theorem q_73 : lw_tbl[73]? = some (Cond.fieldLink R_Gov 96 "HeatGovernor$Chip" "trueCapacities" "[I") := by decide +kernel
theorem q_74 : lw_tbl[74]? = some (Cond.fieldLink R_Chip 21 "HeatGovernor$Chip" "lowEdges" "[I") := by decide +kernel
theorem q_75 : lw_tbl[75]? = some (Cond.fieldLink R_Gov 99 "HeatGovernor$Chip" "lowEdges" "[I") := by decide +kernel
theorem q_76 : lw_tbl[76]? = some (Cond.fieldLink R_Chip 24 "HeatGovernor$Chip" "highEdges" "[I") := by decide +kernel
theorem q_77 : lw_tbl[77]? = some (Cond.fieldLink R_Gov 106 "HeatGovernor$Chip" "highEdges" "[I") := by decide +kernel
theorem q_78 : lw_tbl[78]? = some (Cond.fieldLink R_Chip 27 "HeatGovernor$Chip" "trueEdges" "[I") := by decide +kernel
theorem q_79 : lw_tbl[79]? = some (Cond.fieldLink R_Chip 30 "HeatGovernor$Chip" "limits" "[I") := by decide +kernel
theorem q_80 : lw_tbl[80]? = some (Cond.fieldLink R_Gov 72 "HeatGovernor$Chip" "limits" "[I") := by decide +kernel
theorem q_81 : lw_tbl[81]? = some (Cond.fieldLink R_Chip 33 "HeatGovernor$Chip" "powers" "[I") := by decide +kernel
theorem q_82 : lw_tbl[82]? = some (Cond.fieldLink R_Cores 40 "HeatGovernor$Chip" "powers" "[I") := by decide +kernel
theorem q_83 : lw_tbl[83]? = some (Cond.fieldLink R_Gov 82 "HeatGovernor$Chip" "powers" "[I") := by decide +kernel
theorem q_84 : lw_tbl[84]? = some (Cond.fieldLink R_Nodes 28 "HeatGovernor$Chip" "trueAir" "I") := by decide +kernel
theorem q_85 : lw_tbl[85]? = some (Cond.fieldLink R_Chip 48 "HeatGovernor$Chip" "trueAir" "I") := by decide +kernel
theorem q_86 : lw_tbl[86]? = some (Cond.fieldLink R_Gov 75 "HeatGovernor$Chip" "trueAir" "I") := by decide +kernel
theorem q_87 : lw_tbl[87]? = some (Cond.fieldLink R_Nodes 40 "HeatGovernor$Chip" "highAir" "I") := by decide +kernel
theorem q_88 : lw_tbl[88]? = some (Cond.fieldLink R_Chip 52 "HeatGovernor$Chip" "highAir" "I") := by decide +kernel
theorem q_89 : lw_tbl[89]? = some (Cond.fieldLink R_Gov 79 "HeatGovernor$Chip" "highAir" "I") := by decide +kernel
theorem q_90 : lw_tbl[90]? = some (Cond.fieldLink R_Chip 67 "HeatGovernor$Chip" "leakBase" "I") := by decide +kernel
theorem q_91 : lw_tbl[91]? = some (Cond.fieldLink R_Chip 70 "HeatGovernor$Chip" "leakSlope" "I") := by decide +kernel
theorem q_92 : lw_tbl[92]? = some (Cond.fieldLink R_Chip 73 "HeatGovernor$Chip" "leakSteep" "I") := by decide +kernel
theorem q_93 : lw_tbl[93]? = some (Cond.fieldLink R_Chip 76 "HeatGovernor$Chip" "leakKnee" "I") := by decide +kernel
theorem q_94 : lw_tbl[94]? = some (Cond.fieldLink R_Chip 36 "HeatGovernor$Chip" "growths" "[I") := by decide +kernel
theorem q_127 : lw_tbl[127]? = some (Cond.classLink R_Gov 16 R_Outlook) := by decide +kernel
theorem q_128 : lw_tbl[128]? = some (Cond.instantiable R_Outlook 3) := by decide +kernel
theorem q_129 : lw_tbl[129]? = some (Cond.methodLink R_Gov 18 y_Outlook_init) := by decide +kernel
theorem q_130 : lw_tbl[130]? = some (Cond.instanceMethod y_Outlook_init) := by decide +kernel
theorem q_131 : lw_tbl[131]? = some (Cond.code y_Outlook_init prog_5_method_1_code 2 none) := by decide +kernel
theorem q_132 : lw_tbl[132]? = some (Cond.methodLink R_Outlook 3 objectInit) := by decide +kernel
theorem q_133 : lw_tbl[133]? = some (Cond.fieldLink R_Outlook 18 "HeatGovernor$Outlook" "chip" "LHeatGovernor$Chip;") := by decide +kernel
theorem q_134 : lw_tbl[134]? = some (Cond.fieldLink R_Outlook 9 "HeatGovernor$Outlook" "trial" "[I") := by decide +kernel
theorem q_135 : lw_tbl[135]? = some (Cond.fieldLink R_Outlook 15 "HeatGovernor$Outlook" "idle" "[I") := by decide +kernel
theorem q_143 : lw_tbl[143]? = some (Cond.classLink R_Gov 25 R_Nodes) := by decide +kernel
theorem q_144 : lw_tbl[144]? = some (Cond.instantiable R_Nodes 5) := by decide +kernel
theorem q_145 : lw_tbl[145]? = some (Cond.methodLinkNest R_Gov 27 y_Nodes_init R_Gov) := by decide +kernel
theorem q_146 : lw_tbl[146]? = some (Cond.instanceMethod y_Nodes_init) := by decide +kernel
theorem q_147 : lw_tbl[147]? = some (Cond.code y_Nodes_init prog_4_method_1_code 1 none) := by decide +kernel
theorem q_148 : lw_tbl[148]? = some (Cond.methodLink R_Nodes 3 objectInit) := by decide +kernel
theorem q_149 : lw_tbl[149]? = some (Cond.fieldLink R_Nodes 9 "HeatGovernor$Nodes" "truths" "[I") := by decide +kernel
theorem q_150 : lw_tbl[150]? = some (Cond.fieldLink R_Gov 166 "HeatGovernor$Nodes" "truths" "[I") := by decide +kernel
theorem q_151 : lw_tbl[151]? = some (Cond.fieldLink R_Nodes 15 "HeatGovernor$Nodes" "bounds" "[I") := by decide +kernel
theorem q_152 : lw_tbl[152]? = some (Cond.fieldLink R_Gov 124 "HeatGovernor$Nodes" "bounds" "[I") := by decide +kernel
theorem q_153 : lw_tbl[153]? = some (Cond.fieldLink R_Nodes 18 "HeatGovernor$Nodes" "peaks" "[I") := by decide +kernel
theorem q_154 : lw_tbl[154]? = some (Cond.fieldLink R_Gov 169 "HeatGovernor$Nodes" "peaks" "[I") := by decide +kernel
theorem q_155 : lw_tbl[155]? = some (Cond.fieldLink R_Nodes 21 "HeatGovernor$Nodes" "errors" "[I") := by decide +kernel
theorem q_156 : lw_tbl[156]? = some (Cond.fieldLink R_Gov 159 "HeatGovernor$Nodes" "errors" "[I") := by decide +kernel
theorem q_157 : lw_tbl[157]? = some (Cond.fieldLink R_Nodes 24 "HeatGovernor$Nodes" "alive" "[Z") := by decide +kernel
theorem q_158 : lw_tbl[158]? = some (Cond.fieldLink R_Gov 162 "HeatGovernor$Nodes" "alive" "[Z") := by decide +kernel
theorem q_171 : lw_tbl[171]? = some (Cond.classLink R_Gov 32 R_Cores) := by decide +kernel
theorem q_172 : lw_tbl[172]? = some (Cond.instantiable R_Cores 7) := by decide +kernel
theorem q_173 : lw_tbl[173]? = some (Cond.methodLinkNest R_Gov 34 y_Cores_init R_Gov) := by decide +kernel
theorem q_174 : lw_tbl[174]? = some (Cond.instanceMethod y_Cores_init) := by decide +kernel
theorem q_175 : lw_tbl[175]? = some (Cond.code y_Cores_init prog_3_method_1_code 1 none) := by decide +kernel
theorem q_176 : lw_tbl[176]? = some (Cond.methodLink R_Cores 3 objectInit) := by decide +kernel
theorem q_177 : lw_tbl[177]? = some (Cond.fieldLink R_Cores 9 "HeatGovernor$Cores" "steps" "[I") := by decide +kernel
theorem q_178 : lw_tbl[178]? = some (Cond.fieldLink R_Nodes 47 "HeatGovernor$Cores" "steps" "[I") := by decide +kernel
theorem q_179 : lw_tbl[179]? = some (Cond.fieldLink R_Gov 127 "HeatGovernor$Cores" "steps" "[I") := by decide +kernel
theorem q_180 : lw_tbl[180]? = some (Cond.fieldLink R_Cores 15 "HeatGovernor$Cores" "wishes" "[I") := by decide +kernel
theorem q_181 : lw_tbl[181]? = some (Cond.fieldLink R_Gov 137 "HeatGovernor$Cores" "wishes" "[I") := by decide +kernel
theorem q_182 : lw_tbl[182]? = some (Cond.fieldLink R_Cores 18 "HeatGovernor$Cores" "ranks" "[I") := by decide +kernel
theorem q_183 : lw_tbl[183]? = some (Cond.fieldLink R_Gov 140 "HeatGovernor$Cores" "ranks" "[I") := by decide +kernel
theorem q_184 : lw_tbl[184]? = some (Cond.fieldLink R_Cores 21 "HeatGovernor$Cores" "waits" "[I") := by decide +kernel
theorem q_185 : lw_tbl[185]? = some (Cond.fieldLink R_Gov 176 "HeatGovernor$Cores" "waits" "[I") := by decide +kernel
theorem q_186 : lw_tbl[186]? = some (Cond.fieldLink R_Cores 24 "HeatGovernor$Cores" "told" "[I") := by decide +kernel
theorem q_187 : lw_tbl[187]? = some (Cond.fieldLink R_Gov 156 "HeatGovernor$Cores" "told" "[I") := by decide +kernel
theorem q_188 : lw_tbl[188]? = some (Cond.fieldLink R_Cores 27 "HeatGovernor$Cores" "grants" "[I") := by decide +kernel
theorem q_189 : lw_tbl[189]? = some (Cond.fieldLink R_Cores 36 "HeatGovernor$Cores" "ticksHeld" "I") := by decide +kernel
theorem q_205 : lw_tbl[205]? = some (Cond.fieldLink R_Gov 10 "HeatGovernor" "chip" "LHeatGovernor$Chip;") := by decide +kernel
theorem q_206 : lw_tbl[206]? = some (Cond.fieldLink R_Gov 21 "HeatGovernor" "outlook" "LHeatGovernor$Outlook;") := by decide +kernel
theorem q_207 : lw_tbl[207]? = some (Cond.fieldLink R_Gov 28 "HeatGovernor" "nodes" "LHeatGovernor$Nodes;") := by decide +kernel
theorem q_208 : lw_tbl[208]? = some (Cond.fieldLink R_Gov 35 "HeatGovernor" "cores" "LHeatGovernor$Cores;") := by decide +kernel
theorem q_209 : lw_tbl[209]? = some (Cond.fieldLink R_Gov 39 "HeatGovernor" "stepsLookedAt" "[I") := by decide +kernel
theorem q_210 : lw_tbl[210]? = some (Cond.fieldLink R_Gov 43 "HeatGovernor" "sealed" "Z") := by decide +kernel
theorem q_224 : lw_tbl[224]? = some (Cond.methodLink R_Law 136 y_Gov_open) := by decide +kernel
theorem q_225 : lw_tbl[225]? = some (Cond.instanceMethod y_Gov_open) := by decide +kernel
theorem q_226 : lw_tbl[226]? = some (Cond.selects R_Gov y_Gov_open y_Gov_open) := by decide +kernel
theorem q_227 : lw_tbl[227]? = some (Cond.code y_Gov_open prog_1_method_18_code 1 none) := by decide +kernel
theorem q_228 : lw_tbl[228]? = some (Cond.methodLink R_Gov 183 y_Chip_reset) := by decide +kernel
theorem q_229 : lw_tbl[229]? = some (Cond.methodLink R_Law 76 y_Law_capacity) := by decide +kernel
theorem q_230 : lw_tbl[230]? = some (Cond.static y_Law_capacity) := by decide +kernel
theorem q_232 : lw_tbl[232]? = some (Cond.classLink R_Law 13 "java/lang/IndexOutOfBoundsException") := by decide +kernel
theorem q_233 : lw_tbl[233]? = some (Cond.classLink R_Law 15 "java/lang/IllegalArgumentException") := by decide +kernel
theorem q_234 : lw_tbl[234]? = some (Cond.classLink R_Law 17 "java/lang/IllegalStateException") := by decide +kernel
theorem q_235 : lw_tbl[235]? = some (Cond.methodLink R_Law 7 y_Gov_capacity) := by decide +kernel
theorem q_236 : lw_tbl[236]? = some (Cond.instanceMethod y_Gov_capacity) := by decide +kernel
theorem q_237 : lw_tbl[237]? = some (Cond.selects R_Gov y_Gov_capacity y_Gov_capacity) := by decide +kernel
theorem q_238 : lw_tbl[238]? = some (Cond.code y_Gov_capacity prog_1_method_2_code 4 none) := by decide +kernel
theorem q_239 : lw_tbl[239]? = some (Cond.methodLink R_Gov 47 y_Gov_needIndex) := by decide +kernel
theorem q_240 : lw_tbl[240]? = some (Cond.static y_Gov_needIndex) := by decide +kernel
theorem q_241 : lw_tbl[241]? = some (Cond.code y_Gov_needIndex prog_1_method_19_code 2 none) := by decide +kernel
theorem q_242 : lw_tbl[242]? = some (Cond.classLink R_Gov 62 "java/lang/IndexOutOfBoundsException") := by decide +kernel
theorem q_243 : lw_tbl[243]? = some (Cond.instantiable "java/lang/IndexOutOfBoundsException" 6) := by decide +kernel
theorem q_265 : lw_tbl[265]? = some (Cond.instanceMethod (⟨"java/lang/Throwable", "<init>", "()V"⟩ : MethodName)) := by decide +kernel
theorem q_266 : lw_tbl[266]? = some (Cond.code (⟨"java/lang/Throwable", "<init>", "()V"⟩ : MethodName) prog_15_method_1_code 1 none) := by decide +kernel
theorem q_267 : lw_tbl[267]? = some (Cond.methodLink "java/lang/Throwable" 1 objectInit) := by decide +kernel
theorem q_268 : lw_tbl[268]? = some (Cond.fieldLink "java/lang/Throwable" 13 "java/lang/Throwable" "UNASSIGNED_STACK" "[Ljava/lang/StackTraceElement;") := by decide +kernel
theorem q_270 : lw_tbl[270]? = some (Cond.fieldLink "java/lang/Throwable" 20 "java/lang/Throwable" "SUPPRESSED_SENTINEL" "Ljava/util/List;") := by decide +kernel
theorem q_281 : lw_tbl[281]? = some (Cond.instantiable "java/lang/Throwable" 6) := by decide +kernel
theorem q_283 : lw_tbl[283]? = some (Cond.methodLink R_Gov 64 (⟨"java/lang/IndexOutOfBoundsException", "<init>", "()V"⟩ : MethodName)) := by decide +kernel
theorem q_284 : lw_tbl[284]? = some (Cond.instanceMethod (⟨"java/lang/IndexOutOfBoundsException", "<init>", "()V"⟩ : MethodName)) := by decide +kernel
theorem q_285 : lw_tbl[285]? = some (Cond.code (⟨"java/lang/IndexOutOfBoundsException", "<init>", "()V"⟩ : MethodName) prog_11_method_1_code 1 none) := by decide +kernel
theorem q_286 : lw_tbl[286]? = some (Cond.methodLink "java/lang/IndexOutOfBoundsException" 1 (⟨"java/lang/RuntimeException", "<init>", "()V"⟩ : MethodName)) := by decide +kernel
theorem q_287 : lw_tbl[287]? = some (Cond.instanceMethod (⟨"java/lang/RuntimeException", "<init>", "()V"⟩ : MethodName)) := by decide +kernel
theorem q_288 : lw_tbl[288]? = some (Cond.code (⟨"java/lang/RuntimeException", "<init>", "()V"⟩ : MethodName) prog_13_method_1_code 1 none) := by decide +kernel
theorem q_289 : lw_tbl[289]? = some (Cond.methodLink "java/lang/RuntimeException" 1 (⟨"java/lang/Exception", "<init>", "()V"⟩ : MethodName)) := by decide +kernel
theorem q_290 : lw_tbl[290]? = some (Cond.instanceMethod (⟨"java/lang/Exception", "<init>", "()V"⟩ : MethodName)) := by decide +kernel
theorem q_291 : lw_tbl[291]? = some (Cond.code (⟨"java/lang/Exception", "<init>", "()V"⟩ : MethodName) prog_8_method_1_code 1 none) := by decide +kernel
theorem q_292 : lw_tbl[292]? = some (Cond.methodLink "java/lang/Exception" 1 (⟨"java/lang/Throwable", "<init>", "()V"⟩ : MethodName)) := by decide +kernel
theorem q_293 : lw_tbl[293]? = some (Cond.fieldLink "java/lang/Throwable" 198 "java/lang/Throwable" "backtrace" "Ljava/lang/Object;") := by decide +kernel
theorem q_294 : lw_tbl[294]? = some (Cond.fieldLink "java/lang/Throwable" 7 "java/lang/Throwable" "cause" "Ljava/lang/Throwable;") := by decide +kernel
theorem q_295 : lw_tbl[295]? = some (Cond.fieldLink "java/lang/Throwable" 17 "java/lang/Throwable" "stackTrace" "[Ljava/lang/StackTraceElement;") := by decide +kernel
theorem q_296 : lw_tbl[296]? = some (Cond.fieldLink "java/lang/Throwable" 24 "java/lang/Throwable" "suppressedExceptions" "Ljava/util/List;") := by decide +kernel
theorem q_305 : lw_tbl[305]? = some (Cond.methodLink R_Gov 51 y_Gov_needRange) := by decide +kernel
theorem q_306 : lw_tbl[306]? = some (Cond.static y_Gov_needRange) := by decide +kernel
theorem q_307 : lw_tbl[307]? = some (Cond.code y_Gov_needRange prog_1_method_21_code 4 none) := by decide +kernel
theorem q_308 : lw_tbl[308]? = some (Cond.classLink R_Gov 186 "java/lang/IllegalArgumentException") := by decide +kernel
theorem q_309 : lw_tbl[309]? = some (Cond.instantiable "java/lang/IllegalArgumentException" 6) := by decide +kernel
theorem q_317 : lw_tbl[317]? = some (Cond.methodLink R_Gov 188 (⟨"java/lang/IllegalArgumentException", "<init>", "()V"⟩ : MethodName)) := by decide +kernel
theorem q_318 : lw_tbl[318]? = some (Cond.instanceMethod (⟨"java/lang/IllegalArgumentException", "<init>", "()V"⟩ : MethodName)) := by decide +kernel
theorem q_319 : lw_tbl[319]? = some (Cond.code (⟨"java/lang/IllegalArgumentException", "<init>", "()V"⟩ : MethodName) prog_9_method_1_code 1 none) := by decide +kernel
theorem q_320 : lw_tbl[320]? = some (Cond.methodLink "java/lang/IllegalArgumentException" 1 (⟨"java/lang/RuntimeException", "<init>", "()V"⟩ : MethodName)) := by decide +kernel
theorem q_323 : lw_tbl[323]? = some (Cond.methodLink R_Gov 55 y_Gov_needUnsealed) := by decide +kernel
theorem q_325 : lw_tbl[325]? = some (Cond.instanceMethod y_Gov_needUnsealed) := by decide +kernel
theorem q_326 : lw_tbl[326]? = some (Cond.code y_Gov_needUnsealed prog_1_method_23_code 1 none) := by decide +kernel
theorem q_327 : lw_tbl[327]? = some (Cond.classLink R_Gov 189 "java/lang/IllegalStateException") := by decide +kernel
theorem q_328 : lw_tbl[328]? = some (Cond.instantiable "java/lang/IllegalStateException" 6) := by decide +kernel
theorem q_336 : lw_tbl[336]? = some (Cond.methodLink R_Gov 191 (⟨"java/lang/IllegalStateException", "<init>", "()V"⟩ : MethodName)) := by decide +kernel
theorem q_337 : lw_tbl[337]? = some (Cond.instanceMethod (⟨"java/lang/IllegalStateException", "<init>", "()V"⟩ : MethodName)) := by decide +kernel
theorem q_338 : lw_tbl[338]? = some (Cond.code (⟨"java/lang/IllegalStateException", "<init>", "()V"⟩ : MethodName) prog_10_method_1_code 1 none) := by decide +kernel
theorem q_339 : lw_tbl[339]? = some (Cond.methodLink "java/lang/IllegalStateException" 1 (⟨"java/lang/RuntimeException", "<init>", "()V"⟩ : MethodName)) := by decide +kernel
theorem q_342 : lw_tbl[342]? = some (Cond.methodLink R_Gov 58 y_Chip_setCapacity) := by decide +kernel
theorem q_343 : lw_tbl[343]? = some (Cond.instanceMethod y_Chip_setCapacity) := by decide +kernel
theorem q_344 : lw_tbl[344]? = some (Cond.selects R_Chip y_Chip_setCapacity y_Chip_setCapacity) := by decide +kernel
theorem q_345 : lw_tbl[345]? = some (Cond.code y_Chip_setCapacity prog_2_method_3_code 4 none) := by decide +kernel
theorem q_346 : lw_tbl[346]? = some (Cond.methodLink R_Law 85 y_Law_edge) := by decide +kernel
theorem q_347 : lw_tbl[347]? = some (Cond.static y_Law_edge) := by decide +kernel
theorem q_349 : lw_tbl[349]? = some (Cond.methodLink R_Law 19 y_Gov_edge) := by decide +kernel
theorem q_350 : lw_tbl[350]? = some (Cond.instanceMethod y_Gov_edge) := by decide +kernel
theorem q_351 : lw_tbl[351]? = some (Cond.selects R_Gov y_Gov_edge y_Gov_edge) := by decide +kernel
theorem q_352 : lw_tbl[352]? = some (Cond.code y_Gov_edge prog_1_method_3_code 5 none) := by decide +kernel
theorem q_353 : lw_tbl[353]? = some (Cond.methodLink R_Gov 65 y_Chip_setEdge) := by decide +kernel
theorem q_354 : lw_tbl[354]? = some (Cond.instanceMethod y_Chip_setEdge) := by decide +kernel
theorem q_355 : lw_tbl[355]? = some (Cond.selects R_Chip y_Chip_setEdge y_Chip_setEdge) := by decide +kernel
theorem q_356 : lw_tbl[356]? = some (Cond.code y_Chip_setEdge prog_2_method_4_code 5 none) := by decide +kernel
theorem q_357 : lw_tbl[357]? = some (Cond.methodLinkNest R_Chip 59 y_Gov_between R_Gov) := by decide +kernel
theorem q_358 : lw_tbl[358]? = some (Cond.static y_Gov_between) := by decide +kernel
theorem q_359 : lw_tbl[359]? = some (Cond.code y_Gov_between prog_1_method_24_code 2 (some .int)) := by decide +kernel
theorem q_360 : lw_tbl[360]? = some (Cond.methodLink R_Chip 63 y_Chip_setTrueEdge) := by decide +kernel
theorem q_361 : lw_tbl[361]? = some (Cond.instanceMethod y_Chip_setTrueEdge) := by decide +kernel
theorem q_362 : lw_tbl[362]? = some (Cond.selects R_Chip y_Chip_setTrueEdge y_Chip_setTrueEdge) := by decide +kernel
theorem q_363 : lw_tbl[363]? = some (Cond.code y_Chip_setTrueEdge prog_2_method_5_code 4 none) := by decide +kernel
theorem q_364 : lw_tbl[364]? = some (Cond.methodLink R_Law 89 y_Law_limit) := by decide +kernel
theorem q_365 : lw_tbl[365]? = some (Cond.static y_Law_limit) := by decide +kernel
theorem q_367 : lw_tbl[367]? = some (Cond.methodLink R_Law 23 y_Gov_limit) := by decide +kernel
theorem q_368 : lw_tbl[368]? = some (Cond.instanceMethod y_Gov_limit) := by decide +kernel
theorem q_369 : lw_tbl[369]? = some (Cond.selects R_Gov y_Gov_limit y_Gov_limit) := by decide +kernel
theorem q_370 : lw_tbl[370]? = some (Cond.code y_Gov_limit prog_1_method_4_code 3 none) := by decide +kernel
theorem q_371 : lw_tbl[371]? = some (Cond.constant R_Gov 68 (nI 50000)) := by decide +kernel
theorem q_372 : lw_tbl[372]? = some (Cond.methodLink R_Gov 69 y_Gov_needWithin) := by decide +kernel
theorem q_373 : lw_tbl[373]? = some (Cond.static y_Gov_needWithin) := by decide +kernel
theorem q_374 : lw_tbl[374]? = some (Cond.code y_Gov_needWithin prog_1_method_20_code 3 none) := by decide +kernel
theorem q_375 : lw_tbl[375]? = some (Cond.methodLink R_Law 93 y_Law_air) := by decide +kernel
theorem q_376 : lw_tbl[376]? = some (Cond.static y_Law_air) := by decide +kernel
theorem q_378 : lw_tbl[378]? = some (Cond.methodLink R_Law 27 y_Gov_air) := by decide +kernel
theorem q_379 : lw_tbl[379]? = some (Cond.instanceMethod y_Gov_air) := by decide +kernel
theorem q_380 : lw_tbl[380]? = some (Cond.selects R_Gov y_Gov_air y_Gov_air) := by decide +kernel
theorem q_381 : lw_tbl[381]? = some (Cond.code y_Gov_air prog_1_method_5_code 4 none) := by decide +kernel
theorem q_382 : lw_tbl[382]? = some (Cond.methodLink R_Law 96 y_Law_power) := by decide +kernel
theorem q_383 : lw_tbl[383]? = some (Cond.static y_Law_power) := by decide +kernel
theorem q_385 : lw_tbl[385]? = some (Cond.methodLink R_Law 30 y_Gov_power) := by decide +kernel
theorem q_386 : lw_tbl[386]? = some (Cond.instanceMethod y_Gov_power) := by decide +kernel
theorem q_387 : lw_tbl[387]? = some (Cond.selects R_Gov y_Gov_power y_Gov_power) := by decide +kernel
theorem q_388 : lw_tbl[388]? = some (Cond.code y_Gov_power prog_1_method_6_code 5 none) := by decide +kernel
theorem q_389 : lw_tbl[389]? = some (Cond.constant R_Gov 85 (nI 1000000)) := by decide +kernel
theorem q_390 : lw_tbl[390]? = some (Cond.methodLink R_Law 99 y_Law_leak) := by decide +kernel
theorem q_391 : lw_tbl[391]? = some (Cond.static y_Law_leak) := by decide +kernel
theorem q_393 : lw_tbl[393]? = some (Cond.methodLink R_Law 33 y_Gov_leak) := by decide +kernel
theorem q_394 : lw_tbl[394]? = some (Cond.instanceMethod y_Gov_leak) := by decide +kernel
theorem q_395 : lw_tbl[395]? = some (Cond.selects R_Gov y_Gov_leak y_Gov_leak) := by decide +kernel
theorem q_396 : lw_tbl[396]? = some (Cond.code y_Gov_leak prog_1_method_7_code 5 none) := by decide +kernel
theorem q_397 : lw_tbl[397]? = some (Cond.constant R_Gov 86 (nI 100000)) := by decide +kernel
theorem q_398 : lw_tbl[398]? = some (Cond.methodLink R_Gov 87 y_Chip_setLeak) := by decide +kernel
theorem q_399 : lw_tbl[399]? = some (Cond.methodLink R_Law 102 y_Law_truth) := by decide +kernel
theorem q_400 : lw_tbl[400]? = some (Cond.static y_Law_truth) := by decide +kernel
theorem q_402 : lw_tbl[402]? = some (Cond.methodLink R_Law 36 y_Gov_truth) := by decide +kernel
theorem q_403 : lw_tbl[403]? = some (Cond.instanceMethod y_Gov_truth) := by decide +kernel
theorem q_404 : lw_tbl[404]? = some (Cond.selects R_Gov y_Gov_truth y_Gov_truth) := by decide +kernel
theorem q_405 : lw_tbl[405]? = some (Cond.code y_Gov_truth prog_1_method_8_code 4 none) := by decide +kernel
theorem q_406 : lw_tbl[406]? = some (Cond.methodLink R_Gov 102 y_Gov_between) := by decide +kernel
theorem q_407 : lw_tbl[407]? = some (Cond.methodLink R_Gov 109 y_Chip_setTrueEdge) := by decide +kernel
theorem q_408 : lw_tbl[408]? = some (Cond.methodLink R_Law 105 y_Law_seal) := by decide +kernel
theorem q_409 : lw_tbl[409]? = some (Cond.static y_Law_seal) := by decide +kernel
theorem q_411 : lw_tbl[411]? = some (Cond.methodLink R_Law 39 y_Gov_seal) := by decide +kernel
theorem q_412 : lw_tbl[412]? = some (Cond.instanceMethod y_Gov_seal) := by decide +kernel
theorem q_413 : lw_tbl[413]? = some (Cond.selects R_Gov y_Gov_seal y_Gov_seal) := by decide +kernel
theorem q_414 : lw_tbl[414]? = some (Cond.code y_Gov_seal prog_1_method_9_code 1 (some .boolean)) := by decide +kernel
theorem q_415 : lw_tbl[415]? = some (Cond.methodLink R_Gov 112 y_Chip_isJoined) := by decide +kernel
theorem q_416 : lw_tbl[416]? = some (Cond.instanceMethod y_Chip_isJoined) := by decide +kernel
theorem q_417 : lw_tbl[417]? = some (Cond.selects R_Chip y_Chip_isJoined y_Chip_isJoined) := by decide +kernel
theorem q_418 : lw_tbl[418]? = some (Cond.code y_Chip_isJoined prog_2_method_7_code 3 (some .boolean)) := by decide +kernel
theorem q_419 : lw_tbl[419]? = some (Cond.methodLink R_Chip 79 y_Chip_withNeighbours) := by decide +kernel
theorem q_421 : lw_tbl[421]? = some (Cond.instanceMethod y_Chip_withNeighbours) := by decide +kernel
theorem q_422 : lw_tbl[422]? = some (Cond.code y_Chip_withNeighbours prog_2_method_8_code 5 (some .int)) := by decide +kernel
theorem q_423 : lw_tbl[423]? = some (Cond.methodLink R_Gov 116 y_Chip_isSteady) := by decide +kernel
theorem q_424 : lw_tbl[424]? = some (Cond.instanceMethod y_Chip_isSteady) := by decide +kernel
theorem q_425 : lw_tbl[425]? = some (Cond.selects R_Chip y_Chip_isSteady y_Chip_isSteady) := by decide +kernel
theorem q_426 : lw_tbl[426]? = some (Cond.code y_Chip_isSteady prog_2_method_9_code 4 (some .boolean)) := by decide +kernel
theorem q_427 : lw_tbl[427]? = some (Cond.methodLink R_Gov 119 y_Nodes_begin) := by decide +kernel
theorem q_428 : lw_tbl[428]? = some (Cond.instanceMethod y_Nodes_begin) := by decide +kernel
theorem q_429 : lw_tbl[429]? = some (Cond.selects R_Nodes y_Nodes_begin y_Nodes_begin) := by decide +kernel
theorem q_430 : lw_tbl[430]? = some (Cond.code y_Nodes_begin prog_4_method_2_code 3 none) := by decide +kernel
theorem q_431 : lw_tbl[431]? = some (Cond.methodLink R_Nodes 34 y_Arrays_fill) := by decide +kernel
theorem q_432 : lw_tbl[432]? = some (Cond.methodLink R_Gov 122 y_Cores_begin) := by decide +kernel
theorem q_433 : lw_tbl[433]? = some (Cond.instanceMethod y_Cores_begin) := by decide +kernel
theorem q_434 : lw_tbl[434]? = some (Cond.selects R_Cores y_Cores_begin y_Cores_begin) := by decide +kernel
theorem q_435 : lw_tbl[435]? = some (Cond.code y_Cores_begin prog_3_method_2_code 1 none) := by decide +kernel
theorem q_436 : lw_tbl[436]? = some (Cond.methodLink R_Cores 30 y_Arrays_fill) := by decide +kernel
theorem q_437 : lw_tbl[437]? = some (Cond.methodLink R_Gov 130 y_Outlook_isSafe) := by decide +kernel
theorem q_438 : lw_tbl[438]? = some (Cond.instanceMethod y_Outlook_isSafe) := by decide +kernel
theorem q_439 : lw_tbl[439]? = some (Cond.selects R_Outlook y_Outlook_isSafe y_Outlook_isSafe) := by decide +kernel
theorem q_440 : lw_tbl[440]? = some (Cond.code y_Outlook_isSafe prog_5_method_2_code 6 (some .boolean)) := by decide +kernel
theorem q_441 : lw_tbl[441]? = some (Cond.methodLink R_Outlook 22 arraycopyName) := by decide +kernel
theorem q_442 : lw_tbl[442]? = some (Cond.static arraycopyName) := by decide +kernel
theorem q_443 : lw_tbl[443]? = some (Cond.native arraycopyName) := by decide +kernel
theorem q_444 : lw_tbl[444]? = some (Cond.methodLink R_Outlook 28 y_Chip_keepsLimits) := by decide +kernel
theorem q_445 : lw_tbl[445]? = some (Cond.instanceMethod y_Chip_keepsLimits) := by decide +kernel
theorem q_446 : lw_tbl[446]? = some (Cond.selects R_Chip y_Chip_keepsLimits y_Chip_keepsLimits) := by decide +kernel
theorem q_447 : lw_tbl[447]? = some (Cond.code y_Chip_keepsLimits prog_2_method_10_code 3 (some .boolean)) := by decide +kernel
theorem q_448 : lw_tbl[448]? = some (Cond.methodLink R_Outlook 34 y_Chip_boundTick) := by decide +kernel
theorem q_449 : lw_tbl[449]? = some (Cond.instanceMethod y_Chip_boundTick) := by decide +kernel
theorem q_450 : lw_tbl[450]? = some (Cond.selects R_Chip y_Chip_boundTick y_Chip_boundTick) := by decide +kernel
theorem q_451 : lw_tbl[451]? = some (Cond.code y_Chip_boundTick prog_2_method_13_code 5 (some .boolean)) := by decide +kernel
theorem q_452 : lw_tbl[452]? = some (Cond.methodLink R_Chip 89 y_Chip_leakAt) := by decide +kernel
theorem q_454 : lw_tbl[454]? = some (Cond.instanceMethod y_Chip_leakAt) := by decide +kernel
theorem q_455 : lw_tbl[455]? = some (Cond.code y_Chip_leakAt prog_2_method_11_code 3 (some .int)) := by decide +kernel
theorem q_456 : lw_tbl[456]? = some (Cond.methodLink R_Chip 101 y_Chip_worstInflow) := by decide +kernel
theorem q_458 : lw_tbl[458]? = some (Cond.instanceMethod y_Chip_worstInflow) := by decide +kernel
theorem q_459 : lw_tbl[459]? = some (Cond.code y_Chip_worstInflow prog_2_method_14_code 8 (some .int)) := by decide +kernel
theorem q_460 : lw_tbl[460]? = some (Cond.methodLink R_Chip 105 y_Chip_worstGrowth) := by decide +kernel
theorem q_462 : lw_tbl[462]? = some (Cond.instanceMethod y_Chip_worstGrowth) := by decide +kernel
theorem q_463 : lw_tbl[463]? = some (Cond.code y_Chip_worstGrowth prog_2_method_15_code 4 (some .int)) := by decide +kernel
theorem q_464 : lw_tbl[464]? = some (Cond.methodLink R_Chip 92 y_Math_floorDiv) := by decide +kernel
theorem q_465 : lw_tbl[465]? = some (Cond.static y_Math_floorDiv) := by decide +kernel
theorem q_466 : lw_tbl[466]? = some (Cond.code y_Math_floorDiv prog_12_method_47_code 3 (some .int)) := by decide +kernel
theorem q_467 : lw_tbl[467]? = some (Cond.methodLink R_Chip 97 y_Chip_grow) := by decide +kernel
theorem q_469 : lw_tbl[469]? = some (Cond.instanceMethod y_Chip_grow) := by decide +kernel
theorem q_470 : lw_tbl[470]? = some (Cond.code y_Chip_grow prog_2_method_16_code 4 (some .boolean)) := by decide +kernel
theorem q_471 : lw_tbl[471]? = some (Cond.methodLink R_Law 109 y_Law_ask) := by decide +kernel
theorem q_472 : lw_tbl[472]? = some (Cond.static y_Law_ask) := by decide +kernel
theorem q_474 : lw_tbl[474]? = some (Cond.methodLink R_Law 43 y_Gov_ask) := by decide +kernel
theorem q_475 : lw_tbl[475]? = some (Cond.instanceMethod y_Gov_ask) := by decide +kernel
theorem q_476 : lw_tbl[476]? = some (Cond.selects R_Gov y_Gov_ask y_Gov_ask) := by decide +kernel
theorem q_477 : lw_tbl[477]? = some (Cond.code y_Gov_ask prog_1_method_10_code 4 none) := by decide +kernel
theorem q_478 : lw_tbl[478]? = some (Cond.methodLink R_Gov 134 y_Gov_needSealed) := by decide +kernel
theorem q_480 : lw_tbl[480]? = some (Cond.instanceMethod y_Gov_needSealed) := by decide +kernel
theorem q_481 : lw_tbl[481]? = some (Cond.code y_Gov_needSealed prog_1_method_22_code 1 none) := by decide +kernel
theorem q_482 : lw_tbl[482]? = some (Cond.methodLink R_Law 112 y_Law_period) := by decide +kernel
theorem q_483 : lw_tbl[483]? = some (Cond.static y_Law_period) := by decide +kernel
theorem q_485 : lw_tbl[485]? = some (Cond.methodLink R_Law 46 y_Gov_period) := by decide +kernel
theorem q_486 : lw_tbl[486]? = some (Cond.instanceMethod y_Gov_period) := by decide +kernel
theorem q_487 : lw_tbl[487]? = some (Cond.selects R_Gov y_Gov_period y_Gov_period) := by decide +kernel
theorem q_488 : lw_tbl[488]? = some (Cond.code y_Gov_period prog_1_method_11_code 1 (some .int)) := by decide +kernel
theorem q_489 : lw_tbl[489]? = some (Cond.methodLink R_Gov 143 y_Cores_beginPeriod) := by decide +kernel
theorem q_490 : lw_tbl[490]? = some (Cond.instanceMethod y_Cores_beginPeriod) := by decide +kernel
theorem q_491 : lw_tbl[491]? = some (Cond.selects R_Cores y_Cores_beginPeriod y_Cores_beginPeriod) := by decide +kernel
theorem q_492 : lw_tbl[492]? = some (Cond.code y_Cores_beginPeriod prog_3_method_6_code 4 (some .int)) := by decide +kernel
theorem q_493 : lw_tbl[493]? = some (Cond.methodLink R_Cores 51 Lib.Math.max.name) := by decide +kernel
theorem q_494 : lw_tbl[494]? = some (Cond.static Lib.Math.max.name) := by decide +kernel
theorem q_495 : lw_tbl[495]? = some (Cond.code Lib.Math.max.name Lib.Math.max.code 2 (some .int)) := by decide +kernel
theorem q_496 : lw_tbl[496]? = some (Cond.methodLink R_Cores 54 y_Outlook_isSafe) := by decide +kernel
theorem q_497 : lw_tbl[497]? = some (Cond.methodLink R_Cores 60 y_Cores_grantInTurn) := by decide +kernel
theorem q_499 : lw_tbl[499]? = some (Cond.instanceMethod y_Cores_grantInTurn) := by decide +kernel
theorem q_500 : lw_tbl[500]? = some (Cond.code y_Cores_grantInTurn prog_3_method_7_code 6 none) := by decide +kernel
theorem q_501 : lw_tbl[501]? = some (Cond.methodLink R_Cores 74 y_Cores_firstBut) := by decide +kernel
theorem q_503 : lw_tbl[503]? = some (Cond.instanceMethod y_Cores_firstBut) := by decide +kernel
theorem q_504 : lw_tbl[504]? = some (Cond.code y_Cores_firstBut prog_3_method_8_code 6 (some .int)) := by decide +kernel
theorem q_505 : lw_tbl[505]? = some (Cond.methodLink R_Cores 82 y_Cores_comesBefore) := by decide +kernel
theorem q_507 : lw_tbl[507]? = some (Cond.instanceMethod y_Cores_comesBefore) := by decide +kernel
theorem q_508 : lw_tbl[508]? = some (Cond.code y_Cores_comesBefore prog_3_method_9_code 3 (some .boolean)) := by decide +kernel
theorem q_509 : lw_tbl[509]? = some (Cond.methodLink R_Cores 78 y_Cores_grantGreatest) := by decide +kernel
theorem q_511 : lw_tbl[511]? = some (Cond.instanceMethod y_Cores_grantGreatest) := by decide +kernel
theorem q_512 : lw_tbl[512]? = some (Cond.code y_Cores_grantGreatest prog_3_method_10_code 5 none) := by decide +kernel
theorem q_513 : lw_tbl[513]? = some (Cond.methodLink R_Cores 64 arraycopyName) := by decide +kernel
theorem q_514 : lw_tbl[514]? = some (Cond.methodLink R_Cores 70 y_Cores_endWishes) := by decide +kernel
theorem q_516 : lw_tbl[516]? = some (Cond.instanceMethod y_Cores_endWishes) := by decide +kernel
theorem q_517 : lw_tbl[517]? = some (Cond.code y_Cores_endWishes prog_3_method_11_code 3 (some .int)) := by decide +kernel
theorem q_518 : lw_tbl[518]? = some (Cond.methodLink R_Law 115 y_Law_tick) := by decide +kernel
theorem q_519 : lw_tbl[519]? = some (Cond.static y_Law_tick) := by decide +kernel
theorem q_521 : lw_tbl[521]? = some (Cond.methodLink R_Law 50 y_Gov_tick) := by decide +kernel
theorem q_522 : lw_tbl[522]? = some (Cond.instanceMethod y_Gov_tick) := by decide +kernel
theorem q_523 : lw_tbl[523]? = some (Cond.selects R_Gov y_Gov_tick y_Gov_tick) := by decide +kernel
theorem q_524 : lw_tbl[524]? = some (Cond.code y_Gov_tick prog_1_method_12_code 4 (some .int)) := by decide +kernel
theorem q_525 : lw_tbl[525]? = some (Cond.methodLink R_Gov 147 y_Cores_isBusy) := by decide +kernel
theorem q_526 : lw_tbl[526]? = some (Cond.instanceMethod y_Cores_isBusy) := by decide +kernel
theorem q_527 : lw_tbl[527]? = some (Cond.selects R_Cores y_Cores_isBusy y_Cores_isBusy) := by decide +kernel
theorem q_528 : lw_tbl[528]? = some (Cond.code y_Cores_isBusy prog_3_method_4_code 2 (some .boolean)) := by decide +kernel
theorem q_529 : lw_tbl[529]? = some (Cond.methodLink R_Gov 150 y_Nodes_passTick) := by decide +kernel
theorem q_530 : lw_tbl[530]? = some (Cond.instanceMethod y_Nodes_passTick) := by decide +kernel
theorem q_531 : lw_tbl[531]? = some (Cond.selects R_Nodes y_Nodes_passTick y_Nodes_passTick) := by decide +kernel
theorem q_532 : lw_tbl[532]? = some (Cond.code y_Nodes_passTick prog_4_method_4_code 4 none) := by decide +kernel
theorem q_533 : lw_tbl[533]? = some (Cond.methodLink R_Nodes 43 y_Chip_trueTick) := by decide +kernel
theorem q_534 : lw_tbl[534]? = some (Cond.instanceMethod y_Chip_trueTick) := by decide +kernel
theorem q_535 : lw_tbl[535]? = some (Cond.selects R_Chip y_Chip_trueTick y_Chip_trueTick) := by decide +kernel
theorem q_536 : lw_tbl[536]? = some (Cond.code y_Chip_trueTick prog_2_method_12_code 6 none) := by decide +kernel
theorem q_537 : lw_tbl[537]? = some (Cond.methodLink R_Chip 83 y_Cores_trueDraw) := by decide +kernel
theorem q_538 : lw_tbl[538]? = some (Cond.instanceMethod y_Cores_trueDraw) := by decide +kernel
theorem q_539 : lw_tbl[539]? = some (Cond.selects R_Cores y_Cores_trueDraw y_Cores_trueDraw) := by decide +kernel
theorem q_540 : lw_tbl[540]? = some (Cond.code y_Cores_trueDraw prog_3_method_3_code 3 (some .int)) := by decide +kernel
theorem q_541 : lw_tbl[541]? = some (Cond.methodLink R_Cores 45 Lib.Math.min.name) := by decide +kernel
theorem q_542 : lw_tbl[542]? = some (Cond.static Lib.Math.min.name) := by decide +kernel
theorem q_543 : lw_tbl[543]? = some (Cond.code Lib.Math.min.name Lib.Math.min.code 2 (some .int)) := by decide +kernel
theorem q_544 : lw_tbl[544]? = some (Cond.methodLink R_Nodes 52 y_Chip_boundTick) := by decide +kernel
theorem q_545 : lw_tbl[545]? = some (Cond.methodLink R_Nodes 56 y_Nodes_reading) := by decide +kernel
theorem q_546 : lw_tbl[546]? = some (Cond.instanceMethod y_Nodes_reading) := by decide +kernel
theorem q_547 : lw_tbl[547]? = some (Cond.selects R_Nodes y_Nodes_reading y_Nodes_reading) := by decide +kernel
theorem q_548 : lw_tbl[548]? = some (Cond.code y_Nodes_reading prog_4_method_3_code 2 (some .int)) := by decide +kernel
theorem q_549 : lw_tbl[549]? = some (Cond.methodLink R_Nodes 60 Lib.Math.min.name) := by decide +kernel
theorem q_550 : lw_tbl[550]? = some (Cond.methodLink R_Nodes 66 Lib.Math.max.name) := by decide +kernel
theorem q_551 : lw_tbl[551]? = some (Cond.methodLink R_Gov 154 y_Cores_passTick) := by decide +kernel
theorem q_552 : lw_tbl[552]? = some (Cond.instanceMethod y_Cores_passTick) := by decide +kernel
theorem q_553 : lw_tbl[553]? = some (Cond.selects R_Cores y_Cores_passTick y_Cores_passTick) := by decide +kernel
theorem q_554 : lw_tbl[554]? = some (Cond.code y_Cores_passTick prog_3_method_5_code 1 none) := by decide +kernel
theorem q_555 : lw_tbl[555]? = some (Cond.methodLink R_Law 119 y_Law_draw) := by decide +kernel
theorem q_556 : lw_tbl[556]? = some (Cond.static y_Law_draw) := by decide +kernel
theorem q_558 : lw_tbl[558]? = some (Cond.methodLink R_Law 54 y_Gov_draw) := by decide +kernel
theorem q_559 : lw_tbl[559]? = some (Cond.instanceMethod y_Gov_draw) := by decide +kernel
theorem q_560 : lw_tbl[560]? = some (Cond.selects R_Gov y_Gov_draw y_Gov_draw) := by decide +kernel
theorem q_561 : lw_tbl[561]? = some (Cond.code y_Gov_draw prog_1_method_13_code 3 none) := by decide +kernel
theorem q_562 : lw_tbl[562]? = some (Cond.methodLink R_Law 122 y_Law_sensor) := by decide +kernel
theorem q_563 : lw_tbl[563]? = some (Cond.static y_Law_sensor) := by decide +kernel
theorem q_565 : lw_tbl[565]? = some (Cond.methodLink R_Law 57 y_Gov_sensor) := by decide +kernel
theorem q_566 : lw_tbl[566]? = some (Cond.instanceMethod y_Gov_sensor) := by decide +kernel
theorem q_567 : lw_tbl[567]? = some (Cond.selects R_Gov y_Gov_sensor y_Gov_sensor) := by decide +kernel
theorem q_568 : lw_tbl[568]? = some (Cond.code y_Gov_sensor prog_1_method_14_code 4 none) := by decide +kernel
theorem q_569 : lw_tbl[569]? = some (Cond.methodLink R_Law 126 y_Law_ahead) := by decide +kernel
theorem q_570 : lw_tbl[570]? = some (Cond.static y_Law_ahead) := by decide +kernel
theorem q_572 : lw_tbl[572]? = some (Cond.methodLink R_Law 61 y_Gov_ahead) := by decide +kernel
theorem q_573 : lw_tbl[573]? = some (Cond.instanceMethod y_Gov_ahead) := by decide +kernel
theorem q_574 : lw_tbl[574]? = some (Cond.selects R_Gov y_Gov_ahead y_Gov_ahead) := by decide +kernel
theorem q_575 : lw_tbl[575]? = some (Cond.code y_Gov_ahead prog_1_method_15_code 3 (some .boolean)) := by decide +kernel
theorem q_576 : lw_tbl[576]? = some (Cond.methodLink R_Law 129 y_Law_node) := by decide +kernel
theorem q_577 : lw_tbl[577]? = some (Cond.static y_Law_node) := by decide +kernel
theorem q_579 : lw_tbl[579]? = some (Cond.methodLink R_Law 65 y_Gov_node) := by decide +kernel
theorem q_580 : lw_tbl[580]? = some (Cond.instanceMethod y_Gov_node) := by decide +kernel
theorem q_581 : lw_tbl[581]? = some (Cond.selects R_Gov y_Gov_node y_Gov_node) := by decide +kernel
theorem q_582 : lw_tbl[582]? = some (Cond.code y_Gov_node prog_1_method_16_code 3 (some .int)) := by decide +kernel
theorem q_583 : lw_tbl[583]? = some (Cond.methodLink R_Gov 172 y_Nodes_reading) := by decide +kernel
theorem q_584 : lw_tbl[584]? = some (Cond.methodLink R_Law 133 y_Law_core) := by decide +kernel
theorem q_585 : lw_tbl[585]? = some (Cond.static y_Law_core) := by decide +kernel
theorem q_587 : lw_tbl[587]? = some (Cond.methodLink R_Law 69 y_Gov_core) := by decide +kernel
theorem q_588 : lw_tbl[588]? = some (Cond.instanceMethod y_Gov_core) := by decide +kernel
theorem q_589 : lw_tbl[589]? = some (Cond.selects R_Gov y_Gov_core y_Gov_core) := by decide +kernel
theorem q_590 : lw_tbl[590]? = some (Cond.code y_Gov_core prog_1_method_17_code 3 (some .int)) := by decide +kernel
theorem q_591 : lw_tbl[591]? = some (Cond.methodLink R_Gov 179 y_Cores_trueDraw) := by decide +kernel
theorem q_592 : lw_tbl[592]? = some (Cond.classLink R_Law 73 R_Model) := by decide +kernel
theorem q_593 : lw_tbl[593]? = some (Cond.instantiable R_Model 31) := by decide +kernel
theorem q_594 : lw_tbl[594]? = some (Cond.methodLink R_Law 75 y_Model_init) := by decide +kernel
theorem q_595 : lw_tbl[595]? = some (Cond.instanceMethod y_Model_init) := by decide +kernel
theorem q_596 : lw_tbl[596]? = some (Cond.code y_Model_init prog_7_method_1_code 1 none) := by decide +kernel
theorem q_597 : lw_tbl[597]? = some (Cond.methodLink R_Model 1 objectInit) := by decide +kernel
theorem q_598 : lw_tbl[598]? = some (Cond.methodLink R_Model 75 y_Model_begin) := by decide +kernel
theorem q_600 : lw_tbl[600]? = some (Cond.instanceMethod y_Model_begin) := by decide +kernel
theorem q_601 : lw_tbl[601]? = some (Cond.code y_Model_begin prog_7_method_3_code 2 none) := by decide +kernel
theorem q_602 : lw_tbl[602]? = some (Cond.fieldLink R_Model 78 "HeatGovernorModel" "thrown" "I") := by decide +kernel
theorem q_603 : lw_tbl[603]? = some (Cond.fieldLink R_Model 82 "HeatGovernorModel" "sealed" "Z") := by decide +kernel
theorem q_604 : lw_tbl[604]? = some (Cond.fieldLink R_Model 7 "HeatGovernorModel" "lowCapacity" "[I") := by decide +kernel
theorem q_605 : lw_tbl[605]? = some (Cond.fieldLink R_Model 13 "HeatGovernorModel" "highCapacity" "[I") := by decide +kernel
theorem q_606 : lw_tbl[606]? = some (Cond.fieldLink R_Model 16 "HeatGovernorModel" "trueCapacity" "[I") := by decide +kernel
theorem q_607 : lw_tbl[607]? = some (Cond.fieldLink R_Model 19 "HeatGovernorModel" "low" "[I") := by decide +kernel
theorem q_608 : lw_tbl[608]? = some (Cond.fieldLink R_Model 22 "HeatGovernorModel" "high" "[I") := by decide +kernel
theorem q_609 : lw_tbl[609]? = some (Cond.fieldLink R_Model 25 "HeatGovernorModel" "real" "[I") := by decide +kernel
theorem q_610 : lw_tbl[610]? = some (Cond.fieldLink R_Model 28 "HeatGovernorModel" "limits" "[I") := by decide +kernel
theorem q_611 : lw_tbl[611]? = some (Cond.fieldLink R_Model 86 "HeatGovernorModel" "airLow" "I") := by decide +kernel
theorem q_612 : lw_tbl[612]? = some (Cond.fieldLink R_Model 89 "HeatGovernorModel" "airTrue" "I") := by decide +kernel
theorem q_613 : lw_tbl[613]? = some (Cond.fieldLink R_Model 92 "HeatGovernorModel" "airHigh" "I") := by decide +kernel
theorem q_614 : lw_tbl[614]? = some (Cond.fieldLink R_Model 31 "HeatGovernorModel" "power" "[I") := by decide +kernel
theorem q_615 : lw_tbl[615]? = some (Cond.fieldLink R_Model 95 "HeatGovernorModel" "base" "I") := by decide +kernel
theorem q_616 : lw_tbl[616]? = some (Cond.fieldLink R_Model 98 "HeatGovernorModel" "slope" "I") := by decide +kernel
theorem q_617 : lw_tbl[617]? = some (Cond.fieldLink R_Model 101 "HeatGovernorModel" "steep" "I") := by decide +kernel
theorem q_618 : lw_tbl[618]? = some (Cond.fieldLink R_Model 104 "HeatGovernorModel" "knee" "I") := by decide +kernel
theorem q_619 : lw_tbl[619]? = some (Cond.fieldLink R_Model 34 "HeatGovernorModel" "warm" "[J") := by decide +kernel
theorem q_620 : lw_tbl[620]? = some (Cond.fieldLink R_Model 38 "HeatGovernorModel" "bounds" "[J") := by decide +kernel
theorem q_621 : lw_tbl[621]? = some (Cond.fieldLink R_Model 41 "HeatGovernorModel" "peaks" "[J") := by decide +kernel
theorem q_622 : lw_tbl[622]? = some (Cond.fieldLink R_Model 44 "HeatGovernorModel" "next" "[J") := by decide +kernel
theorem q_623 : lw_tbl[623]? = some (Cond.fieldLink R_Model 47 "HeatGovernorModel" "probe" "[J") := by decide +kernel
theorem q_624 : lw_tbl[624]? = some (Cond.fieldLink R_Model 50 "HeatGovernorModel" "errors" "[I") := by decide +kernel
theorem q_625 : lw_tbl[625]? = some (Cond.fieldLink R_Model 53 "HeatGovernorModel" "dead" "[Z") := by decide +kernel
theorem q_626 : lw_tbl[626]? = some (Cond.fieldLink R_Model 57 "HeatGovernorModel" "steps" "[I") := by decide +kernel
theorem q_627 : lw_tbl[627]? = some (Cond.fieldLink R_Model 60 "HeatGovernorModel" "tried" "[I") := by decide +kernel
theorem q_628 : lw_tbl[628]? = some (Cond.fieldLink R_Model 63 "HeatGovernorModel" "wishes" "[I") := by decide +kernel
theorem q_629 : lw_tbl[629]? = some (Cond.fieldLink R_Model 66 "HeatGovernorModel" "ranks" "[I") := by decide +kernel
theorem q_630 : lw_tbl[630]? = some (Cond.fieldLink R_Model 69 "HeatGovernorModel" "waits" "[I") := by decide +kernel
theorem q_631 : lw_tbl[631]? = some (Cond.fieldLink R_Model 72 "HeatGovernorModel" "draws" "[I") := by decide +kernel
theorem q_632 : lw_tbl[632]? = some (Cond.fieldLink R_Model 107 "HeatGovernorModel" "left" "I") := by decide +kernel
theorem q_697 : lw_tbl[697]? = some (Cond.methodLink R_Law 82 y_Model_thrown) := by decide +kernel
theorem q_698 : lw_tbl[698]? = some (Cond.instanceMethod y_Model_thrown) := by decide +kernel
theorem q_699 : lw_tbl[699]? = some (Cond.selects R_Model y_Model_thrown y_Model_thrown) := by decide +kernel
theorem q_700 : lw_tbl[700]? = some (Cond.code y_Model_thrown prog_7_method_2_code 1 (some .int)) := by decide +kernel
theorem q_701 : lw_tbl[701]? = some (Cond.methodLink R_Law 81 y_Model_capacity) := by decide +kernel
theorem q_702 : lw_tbl[702]? = some (Cond.instanceMethod y_Model_capacity) := by decide +kernel
theorem q_703 : lw_tbl[703]? = some (Cond.selects R_Model y_Model_capacity y_Model_capacity) := by decide +kernel
theorem q_704 : lw_tbl[704]? = some (Cond.code y_Model_capacity prog_7_method_9_code 4 none) := by decide +kernel
theorem q_705 : lw_tbl[705]? = some (Cond.methodLink R_Model 110 y_Model_isNode) := by decide +kernel
theorem q_706 : lw_tbl[706]? = some (Cond.static y_Model_isNode) := by decide +kernel
theorem q_707 : lw_tbl[707]? = some (Cond.code y_Model_isNode prog_7_method_4_code 1 (some .boolean)) := by decide +kernel
theorem q_708 : lw_tbl[708]? = some (Cond.methodLink R_Model 114 y_Model_isWithin) := by decide +kernel
theorem q_709 : lw_tbl[709]? = some (Cond.static y_Model_isWithin) := by decide +kernel
theorem q_710 : lw_tbl[710]? = some (Cond.code y_Model_isWithin prog_7_method_7_code 3 (some .boolean)) := by decide +kernel
theorem q_711 : lw_tbl[711]? = some (Cond.methodLink R_Model 118 y_Model_unsealed) := by decide +kernel
theorem q_713 : lw_tbl[713]? = some (Cond.instanceMethod y_Model_unsealed) := by decide +kernel
theorem q_714 : lw_tbl[714]? = some (Cond.code y_Model_unsealed prog_7_method_8_code 3 (some .int)) := by decide +kernel
theorem q_715 : lw_tbl[715]? = some (Cond.methodLink R_Law 88 y_Model_edge) := by decide +kernel
theorem q_716 : lw_tbl[716]? = some (Cond.instanceMethod y_Model_edge) := by decide +kernel
theorem q_717 : lw_tbl[717]? = some (Cond.selects R_Model y_Model_edge y_Model_edge) := by decide +kernel
theorem q_718 : lw_tbl[718]? = some (Cond.code y_Model_edge prog_7_method_10_code 7 none) := by decide +kernel
theorem q_719 : lw_tbl[719]? = some (Cond.methodLink R_Model 122 y_Model_isEnd) := by decide +kernel
theorem q_720 : lw_tbl[720]? = some (Cond.static y_Model_isEnd) := by decide +kernel
theorem q_721 : lw_tbl[721]? = some (Cond.code y_Model_isEnd prog_7_method_6_code 1 (some .boolean)) := by decide +kernel
theorem q_722 : lw_tbl[722]? = some (Cond.methodLink R_Law 92 y_Model_limit) := by decide +kernel
theorem q_723 : lw_tbl[723]? = some (Cond.instanceMethod y_Model_limit) := by decide +kernel
theorem q_724 : lw_tbl[724]? = some (Cond.selects R_Model y_Model_limit y_Model_limit) := by decide +kernel
theorem q_725 : lw_tbl[725]? = some (Cond.code y_Model_limit prog_7_method_11_code 3 none) := by decide +kernel
theorem q_726 : lw_tbl[726]? = some (Cond.constant R_Model 125 (nI 50000)) := by decide +kernel
theorem q_727 : lw_tbl[727]? = some (Cond.methodLink R_Law 95 y_Model_air) := by decide +kernel
theorem q_728 : lw_tbl[728]? = some (Cond.instanceMethod y_Model_air) := by decide +kernel
theorem q_729 : lw_tbl[729]? = some (Cond.selects R_Model y_Model_air y_Model_air) := by decide +kernel
theorem q_730 : lw_tbl[730]? = some (Cond.code y_Model_air prog_7_method_12_code 4 none) := by decide +kernel
theorem q_731 : lw_tbl[731]? = some (Cond.methodLink R_Law 98 y_Model_power) := by decide +kernel
theorem q_732 : lw_tbl[732]? = some (Cond.instanceMethod y_Model_power) := by decide +kernel
theorem q_733 : lw_tbl[733]? = some (Cond.selects R_Model y_Model_power y_Model_power) := by decide +kernel
theorem q_734 : lw_tbl[734]? = some (Cond.code y_Model_power prog_7_method_13_code 4 none) := by decide +kernel
theorem q_735 : lw_tbl[735]? = some (Cond.methodLink R_Model 126 y_Model_isCore) := by decide +kernel
theorem q_736 : lw_tbl[736]? = some (Cond.static y_Model_isCore) := by decide +kernel
theorem q_737 : lw_tbl[737]? = some (Cond.code y_Model_isCore prog_7_method_5_code 1 (some .boolean)) := by decide +kernel
theorem q_738 : lw_tbl[738]? = some (Cond.constant R_Model 129 (nI 1000000)) := by decide +kernel
theorem q_739 : lw_tbl[739]? = some (Cond.methodLink R_Law 101 y_Model_leak) := by decide +kernel
theorem q_740 : lw_tbl[740]? = some (Cond.instanceMethod y_Model_leak) := by decide +kernel
theorem q_741 : lw_tbl[741]? = some (Cond.selects R_Model y_Model_leak y_Model_leak) := by decide +kernel
theorem q_742 : lw_tbl[742]? = some (Cond.code y_Model_leak prog_7_method_14_code 6 none) := by decide +kernel
theorem q_743 : lw_tbl[743]? = some (Cond.constant R_Model 130 (nI 100000)) := by decide +kernel
theorem q_744 : lw_tbl[744]? = some (Cond.methodLink R_Law 104 y_Model_truth) := by decide +kernel
theorem q_745 : lw_tbl[745]? = some (Cond.instanceMethod y_Model_truth) := by decide +kernel
theorem q_746 : lw_tbl[746]? = some (Cond.selects R_Model y_Model_truth y_Model_truth) := by decide +kernel
theorem q_747 : lw_tbl[747]? = some (Cond.code y_Model_truth prog_7_method_15_code 6 none) := by decide +kernel
theorem q_748 : lw_tbl[748]? = some (Cond.methodLink R_Law 108 y_Model_seal) := by decide +kernel
theorem q_749 : lw_tbl[749]? = some (Cond.instanceMethod y_Model_seal) := by decide +kernel
theorem q_750 : lw_tbl[750]? = some (Cond.selects R_Model y_Model_seal y_Model_seal) := by decide +kernel
theorem q_751 : lw_tbl[751]? = some (Cond.code y_Model_seal prog_7_method_25_code 2 (some .boolean)) := by decide +kernel
theorem q_752 : lw_tbl[752]? = some (Cond.methodLink R_Model 154 y_Model_areJoined) := by decide +kernel
theorem q_754 : lw_tbl[754]? = some (Cond.instanceMethod y_Model_areJoined) := by decide +kernel
theorem q_755 : lw_tbl[755]? = some (Cond.code y_Model_areJoined prog_7_method_23_code 4 (some .boolean)) := by decide +kernel
theorem q_756 : lw_tbl[756]? = some (Cond.methodLink R_Model 157 y_Model_areSlow) := by decide +kernel
theorem q_758 : lw_tbl[758]? = some (Cond.instanceMethod y_Model_areSlow) := by decide +kernel
theorem q_759 : lw_tbl[759]? = some (Cond.code y_Model_areSlow prog_7_method_24_code 5 (some .boolean)) := by decide +kernel
theorem q_760 : lw_tbl[760]? = some (Cond.methodLink R_Model 160 y_Model_isSafe) := by decide +kernel
theorem q_762 : lw_tbl[762]? = some (Cond.instanceMethod y_Model_isSafe) := by decide +kernel
theorem q_763 : lw_tbl[763]? = some (Cond.code y_Model_isSafe prog_7_method_22_code 4 (some .boolean)) := by decide +kernel
theorem q_764 : lw_tbl[764]? = some (Cond.methodLink R_Model 146 y_Model_areWithin) := by decide +kernel
theorem q_766 : lw_tbl[766]? = some (Cond.instanceMethod y_Model_areWithin) := by decide +kernel
theorem q_767 : lw_tbl[767]? = some (Cond.code y_Model_areWithin prog_7_method_21_code 3 (some .boolean)) := by decide +kernel
theorem q_768 : lw_tbl[768]? = some (Cond.methodLink R_Model 150 y_Model_boundTick) := by decide +kernel
theorem q_770 : lw_tbl[770]? = some (Cond.instanceMethod y_Model_boundTick) := by decide +kernel
theorem q_771 : lw_tbl[771]? = some (Cond.code y_Model_boundTick prog_7_method_19_code 10 (some .boolean)) := by decide +kernel
theorem q_772 : lw_tbl[772]? = some (Cond.methodLink R_Model 131 y_Model_leakAt) := by decide +kernel
theorem q_774 : lw_tbl[774]? = some (Cond.instanceMethod y_Model_leakAt) := by decide +kernel
theorem q_775 : lw_tbl[775]? = some (Cond.code y_Model_leakAt prog_7_method_16_code 3 (some .long)) := by decide +kernel
theorem q_776 : lw_tbl[776]? = some (Cond.methodLink R_Model 135 y_Model_up) := by decide +kernel
theorem q_777 : lw_tbl[777]? = some (Cond.static y_Model_up) := by decide +kernel
theorem q_778 : lw_tbl[778]? = some (Cond.code y_Model_up prog_7_method_18_code 6 (some .long)) := by decide +kernel
theorem q_779 : lw_tbl[779]? = some (Cond.methodLink R_Law 111 y_Model_ask) := by decide +kernel
theorem q_780 : lw_tbl[780]? = some (Cond.instanceMethod y_Model_ask) := by decide +kernel
theorem q_781 : lw_tbl[781]? = some (Cond.selects R_Model y_Model_ask y_Model_ask) := by decide +kernel
theorem q_782 : lw_tbl[782]? = some (Cond.code y_Model_ask prog_7_method_27_code 4 none) := by decide +kernel
theorem q_783 : lw_tbl[783]? = some (Cond.methodLink R_Model 163 y_Model_shut) := by decide +kernel
theorem q_785 : lw_tbl[785]? = some (Cond.instanceMethod y_Model_shut) := by decide +kernel
theorem q_786 : lw_tbl[786]? = some (Cond.code y_Model_shut prog_7_method_26_code 3 (some .int)) := by decide +kernel
theorem q_787 : lw_tbl[787]? = some (Cond.methodLink R_Law 114 y_Model_period) := by decide +kernel
theorem q_788 : lw_tbl[788]? = some (Cond.instanceMethod y_Model_period) := by decide +kernel
theorem q_789 : lw_tbl[789]? = some (Cond.selects R_Model y_Model_period y_Model_period) := by decide +kernel
theorem q_790 : lw_tbl[790]? = some (Cond.code y_Model_period prog_7_method_30_code 6 (some .int)) := by decide +kernel
theorem q_791 : lw_tbl[791]? = some (Cond.methodLink R_Model 166 y_Model_isBefore) := by decide +kernel
theorem q_793 : lw_tbl[793]? = some (Cond.instanceMethod y_Model_isBefore) := by decide +kernel
theorem q_794 : lw_tbl[794]? = some (Cond.code y_Model_isBefore prog_7_method_28_code 3 (some .boolean)) := by decide +kernel
theorem q_795 : lw_tbl[795]? = some (Cond.methodLink R_Model 170 y_Model_grantOne) := by decide +kernel
theorem q_797 : lw_tbl[797]? = some (Cond.instanceMethod y_Model_grantOne) := by decide +kernel
theorem q_798 : lw_tbl[798]? = some (Cond.code y_Model_grantOne prog_7_method_29_code 5 none) := by decide +kernel
theorem q_799 : lw_tbl[799]? = some (Cond.methodLink R_Law 118 y_Model_tick) := by decide +kernel
theorem q_800 : lw_tbl[800]? = some (Cond.instanceMethod y_Model_tick) := by decide +kernel
theorem q_801 : lw_tbl[801]? = some (Cond.selects R_Model y_Model_tick y_Model_tick) := by decide +kernel
theorem q_802 : lw_tbl[802]? = some (Cond.code y_Model_tick prog_7_method_33_code 4 (some .int)) := by decide +kernel
theorem q_803 : lw_tbl[803]? = some (Cond.methodLink R_Model 179 y_Model_tickOnce) := by decide +kernel
theorem q_805 : lw_tbl[805]? = some (Cond.instanceMethod y_Model_tickOnce) := by decide +kernel
theorem q_806 : lw_tbl[806]? = some (Cond.code y_Model_tickOnce prog_7_method_32_code 4 none) := by decide +kernel
theorem q_807 : lw_tbl[807]? = some (Cond.methodLink R_Model 174 y_Model_trueTick) := by decide +kernel
theorem q_809 : lw_tbl[809]? = some (Cond.instanceMethod y_Model_trueTick) := by decide +kernel
theorem q_810 : lw_tbl[810]? = some (Cond.code y_Model_trueTick prog_7_method_20_code 5 none) := by decide +kernel
theorem q_811 : lw_tbl[811]? = some (Cond.methodLink R_Model 139 y_Model_drawn) := by decide +kernel
theorem q_813 : lw_tbl[813]? = some (Cond.instanceMethod y_Model_drawn) := by decide +kernel
theorem q_814 : lw_tbl[814]? = some (Cond.code y_Model_drawn prog_7_method_31_code 3 (some .int)) := by decide +kernel
theorem q_815 : lw_tbl[815]? = some (Cond.methodLink R_Model 143 y_Model_down) := by decide +kernel
theorem q_816 : lw_tbl[816]? = some (Cond.static y_Model_down) := by decide +kernel
theorem q_817 : lw_tbl[817]? = some (Cond.code y_Model_down prog_7_method_17_code 6 (some .long)) := by decide +kernel
theorem q_818 : lw_tbl[818]? = some (Cond.constantLong R_Model 177 200) := by decide +kernel
theorem q_819 : lw_tbl[819]? = some (Cond.methodLink R_Law 121 y_Model_draw) := by decide +kernel
theorem q_820 : lw_tbl[820]? = some (Cond.instanceMethod y_Model_draw) := by decide +kernel
theorem q_821 : lw_tbl[821]? = some (Cond.selects R_Model y_Model_draw y_Model_draw) := by decide +kernel
theorem q_822 : lw_tbl[822]? = some (Cond.code y_Model_draw prog_7_method_34_code 3 none) := by decide +kernel
theorem q_823 : lw_tbl[823]? = some (Cond.methodLink R_Law 125 y_Model_sensor) := by decide +kernel
theorem q_824 : lw_tbl[824]? = some (Cond.instanceMethod y_Model_sensor) := by decide +kernel
theorem q_825 : lw_tbl[825]? = some (Cond.selects R_Model y_Model_sensor y_Model_sensor) := by decide +kernel
theorem q_826 : lw_tbl[826]? = some (Cond.code y_Model_sensor prog_7_method_35_code 4 none) := by decide +kernel
theorem q_827 : lw_tbl[827]? = some (Cond.methodLink R_Law 128 y_Model_ahead) := by decide +kernel
theorem q_828 : lw_tbl[828]? = some (Cond.instanceMethod y_Model_ahead) := by decide +kernel
theorem q_829 : lw_tbl[829]? = some (Cond.selects R_Model y_Model_ahead y_Model_ahead) := by decide +kernel
theorem q_830 : lw_tbl[830]? = some (Cond.code y_Model_ahead prog_7_method_36_code 3 (some .boolean)) := by decide +kernel
theorem q_831 : lw_tbl[831]? = some (Cond.methodLink R_Law 132 y_Model_node) := by decide +kernel
theorem q_832 : lw_tbl[832]? = some (Cond.instanceMethod y_Model_node) := by decide +kernel
theorem q_833 : lw_tbl[833]? = some (Cond.selects R_Model y_Model_node y_Model_node) := by decide +kernel
theorem q_834 : lw_tbl[834]? = some (Cond.code y_Model_node prog_7_method_37_code 3 (some .int)) := by decide +kernel
theorem q_835 : lw_tbl[835]? = some (Cond.constantLong R_Model 182 (-1)) := by decide +kernel
theorem q_836 : lw_tbl[836]? = some (Cond.methodLink R_Law 135 y_Model_core) := by decide +kernel
theorem q_837 : lw_tbl[837]? = some (Cond.instanceMethod y_Model_core) := by decide +kernel
theorem q_838 : lw_tbl[838]? = some (Cond.selects R_Model y_Model_core y_Model_core) := by decide +kernel
theorem q_839 : lw_tbl[839]? = some (Cond.code y_Model_core prog_7_method_38_code 3 (some .int)) := by decide +kernel
theorem q_840 : lw_tbl[840]? = some (Cond.methodLink R_Law 139 y_Model_open) := by decide +kernel
theorem q_841 : lw_tbl[841]? = some (Cond.instanceMethod y_Model_open) := by decide +kernel
theorem q_842 : lw_tbl[842]? = some (Cond.selects R_Model y_Model_open y_Model_open) := by decide +kernel
theorem q_843 : lw_tbl[843]? = some (Cond.code y_Model_open prog_7_method_39_code 1 none) := by decide +kernel
theorem q_126 : lw_tbl[126]? = some (Cond.arrayClass .int) := by decide +kernel
theorem q_170 : lw_tbl[170]? = some (Cond.arrayClass .boolean) := by decide +kernel
theorem q_696 : lw_tbl[696]? = some (Cond.arrayClass .long) := by decide +kernel
