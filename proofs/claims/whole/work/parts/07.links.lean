def m_T_init : MI := (y_T_init, c_T_init, 1, none, { frames := 2, cells := 3, slots := 38, locals := 40 }, some [])
def m_R_init : MI := (y_R_init, c_R_init, 1, none, { frames := 1, cells := 0, slots := 0, locals := 20 }, some [])
def m_T_settle : MI := (y_T_settle, c_T_settle, 2, (some FieldType.int), { frames := 4, cells := 0, slots := 0, locals := 91 }, some [])
def m_T_playRound : MI := (y_T_playRound, c_T_playRound, 3, (some FieldType.int), { frames := 3, cells := 0, slots := 0, locals := 69 }, some [])
def m_T_hearAtPorts : MI := (y_T_hearAtPorts, c_T_hearAtPorts, 7, (some FieldType.int), { frames := 2, cells := 0, slots := 0, locals := 43 }, some [])
def m_P_findSender : MI := (y_P_findSender, c_P_findSender, 2, (some (FieldType.object "ClockTree$Port")), { frames := 1, cells := 0, slots := 0, locals := 21 }, some [])
def m_K_farFrom : MI := (y_K_farFrom, c_K_farFrom, 2, (some (FieldType.object "ClockTree$Port")), { frames := 0, cells := 0, slots := 0, locals := 0 }, some [])
def m_N_accepts : MI := (y_N_accepts, c_N_accepts, 2, (some FieldType.boolean), { frames := 0, cells := 0, slots := 0, locals := 0 }, some [])
def m_P_keep : MI := (y_P_keep, c_P_keep, 3, (some FieldType.boolean), { frames := 1, cells := 0, slots := 0, locals := 21 }, some [])
def m_D_tellsSameAs : MI := (y_D_tellsSameAs, c_D_tellsSameAs, 2, (some FieldType.boolean), { frames := 0, cells := 0, slots := 0, locals := 0 }, some [])
def m_D_setRootOf : MI := (y_D_setRootOf, c_D_setRootOf, 2, none, { frames := 0, cells := 0, slots := 0, locals := 0 }, some [])
def m_P_growOlder : MI := (y_P_growOlder, c_P_growOlder, 1, (some FieldType.boolean), { frames := 0, cells := 0, slots := 0, locals := 0 }, some [])
def m_N_findStates : MI := (y_N_findStates, c_N_findStates, 5, (some FieldType.boolean), { frames := 2, cells := 0, slots := 0, locals := 43 }, some [])
def m_N_findBest : MI := (y_N_findBest, c_N_findBest, 3, (some (FieldType.object "ClockTree$Dataset")), { frames := 1, cells := 0, slots := 0, locals := 21 }, some [])
def m_D_betterThan : MI := (y_D_betterThan, c_D_betterThan, 2, (some FieldType.boolean), { frames := 0, cells := 0, slots := 0, locals := 0 }, some [])
def m_P_tell : MI := (y_P_tell, c_P_tell, 3, none, { frames := 1, cells := 0, slots := 0, locals := 21 }, some [])
def m_P_findState : MI := (y_P_findState, c_P_findState, 2, (some FieldType.int), { frames := 1, cells := 0, slots := 0, locals := 21 }, some [])
def m_T_discipline : MI := (y_T_discipline, c_T_discipline, 6, (some FieldType.int), { frames := 4, cells := 0, slots := 0, locals := 106 }, some [])
def m_T_setsClock : MI := (y_T_setsClock, c_T_setsClock, 5, (some FieldType.boolean), { frames := 3, cells := 0, slots := 0, locals := 82 }, some [])
def m_T_openSlaveOf : MI := (y_T_openSlaveOf, c_T_openSlaveOf, 3, (some (FieldType.object "ClockTree$Port")), { frames := 0, cells := 0, slots := 0, locals := 0 }, some [])
def m_T_setClock : MI := (y_T_setClock, c_T_setClock, 9, (some FieldType.boolean), { frames := 2, cells := 0, slots := 0, locals := 54 }, some [])
def m_K_delayTo : MI := (y_K_delayTo, c_K_delayTo, 2, (some FieldType.int), { frames := 0, cells := 0, slots := 0, locals := 0 }, some [])
def m_K_delayFrom : MI := (y_K_delayFrom, c_K_delayFrom, 2, (some FieldType.int), { frames := 0, cells := 0, slots := 0, locals := 0 }, some [])
def m_R_noteTimes : MI := (y_R_noteTimes, c_R_noteTimes, 5, none, { frames := 1, cells := 0, slots := 0, locals := 26 }, some [])
def m_R_plus : MI := (y_R_plus, c_R_plus, 7, (some FieldType.long), { frames := 0, cells := 0, slots := 0, locals := 0 }, some [])
def m_R_noteClocks : MI := (y_R_noteClocks, c_R_noteClocks, 5, none, { frames := 1, cells := 0, slots := 0, locals := 26 }, some [])
def m_R_find : MI := (y_R_find, c_R_find, 9, none, { frames := 1, cells := 0, slots := 0, locals := 26 }, some [])
def m_R_minus : MI := (y_R_minus, c_R_minus, 7, (some FieldType.long), { frames := 0, cells := 0, slots := 0, locals := 0 }, some [])
def m_L_node : MI := (y_L_node, c_L_node, 9, (some FieldType.int), { frames := 7, cells := 16, slots := 120, locals := 117 }, some [(0, 16, 19, 13), (0, 16, 23, 15)])
def m_T_node : MI := (y_T_node, c_T_node, 8, (some FieldType.int), { frames := 6, cells := 16, slots := 120, locals := 90 }, some [])
def m_T_isWithin : MI := (y_T_isWithin, c_T_isWithin, 2, (some FieldType.boolean), { frames := 0, cells := 0, slots := 0, locals := 0 }, some [])
def m_T_hasIdentity : MI := (y_T_hasIdentity, c_T_hasIdentity, 3, (some FieldType.boolean), { frames := 0, cells := 0, slots := 0, locals := 0 }, some [])
def m_N_init : MI := (y_N_init, c_N_init, 5, none, { frames := 3, cells := 14, slots := 108, locals := 62 }, some [])
def m_D_init : MI := (y_D_init, c_D_init, 1, none, { frames := 1, cells := 0, slots := 0, locals := 20 }, some [])
def m_P_init : MI := (y_P_init, c_P_init, 3, none, { frames := 2, cells := 2, slots := 16, locals := 40 }, some [])
def m_D_setOwn : MI := (y_D_setOwn, c_D_setOwn, 5, none, { frames := 0, cells := 0, slots := 0, locals := 0 }, some [])
def m_L_link : MI := (y_L_link, c_L_link, 9, (some FieldType.int), { frames := 9, cells := 6, slots := 35, locals := 163 }, some [(0, 18, 21, 13), (0, 18, 25, 15)])
def m_T_link : MI := (y_T_link, c_T_link, 10, (some FieldType.int), { frames := 8, cells := 6, slots := 35, locals := 134 }, some [])
def m_T_portAt : MI := (y_T_portAt, c_T_portAt, 4, (some (FieldType.object "ClockTree$Port")), { frames := 7, cells := 2, slots := 12, locals := 111 }, some [])
def m_T_nodeAt : MI := (y_T_nodeAt, c_T_nodeAt, 2, (some (FieldType.object "ClockTree$Node")), { frames := 6, cells := 1, slots := 6, locals := 90 }, some [])
def m_K_init : MI := (y_K_init, c_K_init, 5, none, { frames := 1, cells := 0, slots := 0, locals := 20 }, some [])
def m_L_up : MI := (y_L_up, c_L_up, 4, (some FieldType.int), { frames := 7, cells := 1, slots := 6, locals := 112 }, some [(0, 6, 9, 13)])
def m_T_up : MI := (y_T_up, c_T_up, 3, none, { frames := 6, cells := 1, slots := 6, locals := 90 }, some [])
def m_L_priority : MI := (y_L_priority, c_L_priority, 4, (some FieldType.int), { frames := 8, cells := 2, slots := 12, locals := 134 }, some [(0, 6, 9, 13)])
def m_T_priority : MI := (y_T_priority, c_T_priority, 4, none, { frames := 7, cells := 2, slots := 12, locals := 111 }, some [])
def m_L_round : MI := (y_L_round, c_L_round, 4, (some FieldType.int), { frames := 7, cells := 1, slots := 6, locals := 114 }, some [(0, 9, 12, 13)])
def m_T_round : MI := (y_T_round, c_T_round, 4, (some FieldType.int), { frames := 6, cells := 1, slots := 6, locals := 91 }, some [])
def m_L_state : MI := (y_L_state, c_L_state, 5, (some FieldType.int), { frames := 9, cells := 2, slots := 12, locals := 156 }, some [(0, 10, 13, 13)])
def m_T_state : MI := (y_T_state, c_T_state, 3, (some FieldType.int), { frames := 8, cells := 2, slots := 12, locals := 134 }, some [])
def m_L_root : MI := (y_L_root, c_L_root, 4, (some FieldType.int), { frames := 8, cells := 1, slots := 6, locals := 132 }, some [(0, 9, 12, 13)])
def m_T_root : MI := (y_T_root, c_T_root, 2, (some FieldType.int), { frames := 7, cells := 1, slots := 6, locals := 111 }, some [])
def m_L_steps : MI := (y_L_steps, c_L_steps, 4, (some FieldType.int), { frames := 8, cells := 1, slots := 6, locals := 132 }, some [(0, 9, 12, 13)])
def m_T_steps : MI := (y_T_steps, c_T_steps, 2, (some FieldType.int), { frames := 7, cells := 1, slots := 6, locals := 111 }, some [])
def m_L_kept : MI := (y_L_kept, c_L_kept, 5, (some FieldType.int), { frames := 9, cells := 2, slots := 12, locals := 157 }, some [(0, 10, 13, 13)])
def m_T_kept : MI := (y_T_kept, c_T_kept, 4, (some FieldType.int), { frames := 8, cells := 2, slots := 12, locals := 134 }, some [])
def m_L_exchange : MI := (y_L_exchange, c_L_exchange, 8, (some FieldType.int), { frames := 8, cells := 2, slots := 12, locals := 138 }, some [(0, 14, 17, 13), (0, 14, 21, 15), (0, 14, 25, 50)])
def m_T_exchange : MI := (y_T_exchange, c_T_exchange, 8, (some FieldType.long), { frames := 7, cells := 2, slots := 12, locals := 111 }, some [])
def m_L_delay : MI := (y_L_delay, c_L_delay, 4, (some FieldType.int), { frames := 8, cells := 1, slots := 6, locals := 132 }, some [(0, 8, 11, 13)])
def m_T_delay : MI := (y_T_delay, c_T_delay, 2, (some FieldType.long), { frames := 7, cells := 1, slots := 6, locals := 111 }, some [])
def m_L_offset : MI := (y_L_offset, c_L_offset, 4, (some FieldType.int), { frames := 8, cells := 1, slots := 6, locals := 132 }, some [(0, 8, 11, 13)])
def m_T_offset : MI := (y_T_offset, c_T_offset, 2, (some FieldType.long), { frames := 7, cells := 1, slots := 6, locals := 111 }, some [])
def m_M_init : MI := (y_M_init, c_M_init, 2, none, { frames := 1, cells := 22, slots := 1406, locals := 20 }, some [])
def m_M_thrown : MI := (y_M_thrown, c_M_thrown, 1, (some FieldType.int), { frames := 0, cells := 0, slots := 0, locals := 0 }, some [])
def m_M_node : MI := (y_M_node, c_M_node, 9, (some FieldType.int), { frames := 4, cells := 0, slots := 0, locals := 89 }, some [])
def m_M_byteSized : MI := (y_M_byteSized, c_M_byteSized, 2, (some FieldType.boolean), { frames := 0, cells := 0, slots := 0, locals := 0 }, some [])
def m_M_findAll : MI := (y_M_findAll, c_M_findAll, 2, none, { frames := 3, cells := 0, slots := 0, locals := 68 }, some [])
def m_M_find : MI := (y_M_find, c_M_find, 4, none, { frames := 2, cells := 0, slots := 0, locals := 45 }, some [])
def m_M_ownOne : MI := (y_M_ownOne, c_M_ownOne, 3, none, { frames := 0, cells := 0, slots := 0, locals := 0 }, some [])
def m_M_keptOne : MI := (y_M_keptOne, c_M_keptOne, 3, none, { frames := 0, cells := 0, slots := 0, locals := 0 }, some [])
def m_M_turnRound : MI := (y_M_turnRound, c_M_turnRound, 2, none, { frames := 0, cells := 0, slots := 0, locals := 0 }, some [])
def m_M_better : MI := (y_M_better, c_M_better, 2, (some FieldType.boolean), { frames := 0, cells := 0, slots := 0, locals := 0 }, some [])
def m_M_toldOne : MI := (y_M_toldOne, c_M_toldOne, 4, none, { frames := 1, cells := 0, slots := 0, locals := 22 }, some [])
def m_M_link : MI := (y_M_link, c_M_link, 8, (some FieldType.int), { frames := 4, cells := 0, slots := 0, locals := 89 }, some [])
def m_M_noPort : MI := (y_M_noPort, c_M_noPort, 3, (some FieldType.boolean), { frames := 1, cells := 0, slots := 0, locals := 21 }, some [])
def m_M_noNode : MI := (y_M_noNode, c_M_noNode, 2, (some FieldType.boolean), { frames := 0, cells := 0, slots := 0, locals := 0 }, some [])
def m_M_noDelay : MI := (y_M_noDelay, c_M_noDelay, 2, (some FieldType.boolean), { frames := 0, cells := 0, slots := 0, locals := 0 }, some [])
def m_M_up : MI := (y_M_up, c_M_up, 3, none, { frames := 0, cells := 0, slots := 0, locals := 0 }, some [])
def m_M_priority : MI := (y_M_priority, c_M_priority, 3, none, { frames := 4, cells := 0, slots := 0, locals := 89 }, some [])
def m_M_round : MI := (y_M_round, c_M_round, 4, (some FieldType.int), { frames := 5, cells := 0, slots := 0, locals := 111 }, some [])
def m_M_pass : MI := (y_M_pass, c_M_pass, 3, (some FieldType.int), { frames := 4, cells := 0, slots := 0, locals := 89 }, some [])
def m_M_sendAll : MI := (y_M_sendAll, c_M_sendAll, 5, (some FieldType.int), { frames := 2, cells := 0, slots := 0, locals := 45 }, some [])
def m_M_across : MI := (y_M_across, c_M_across, 3, (some FieldType.int), { frames := 1, cells := 0, slots := 0, locals := 22 }, some [])
def m_M_endOf : MI := (y_M_endOf, c_M_endOf, 3, (some FieldType.int), { frames := 0, cells := 0, slots := 0, locals := 0 }, some [])
def m_M_hear : MI := (y_M_hear, c_M_hear, 4, none, { frames := 0, cells := 0, slots := 0, locals := 0 }, some [])
def m_M_settle : MI := (y_M_settle, c_M_settle, 3, (some FieldType.int), { frames := 5, cells := 0, slots := 0, locals := 111 }, some [])
def m_M_remember : MI := (y_M_remember, c_M_remember, 2, none, { frames := 0, cells := 0, slots := 0, locals := 0 }, some [])
def m_M_isAsBefore : MI := (y_M_isAsBefore, c_M_isAsBefore, 4, (some FieldType.boolean), { frames := 0, cells := 0, slots := 0, locals := 0 }, some [])
def m_M_state : MI := (y_M_state, c_M_state, 3, (some FieldType.int), { frames := 2, cells := 0, slots := 0, locals := 43 }, some [])
def m_M_root : MI := (y_M_root, c_M_root, 2, (some FieldType.int), { frames := 1, cells := 0, slots := 0, locals := 21 }, some [])
def m_M_steps : MI := (y_M_steps, c_M_steps, 2, (some FieldType.int), { frames := 1, cells := 0, slots := 0, locals := 21 }, some [])
def m_M_stepsOf : MI := (y_M_stepsOf, c_M_stepsOf, 2, (some FieldType.int), { frames := 0, cells := 0, slots := 0, locals := 0 }, some [])
def m_M_kept : MI := (y_M_kept, c_M_kept, 4, (some FieldType.int), { frames := 2, cells := 0, slots := 0, locals := 43 }, some [])
def m_M_exchange : MI := (y_M_exchange, c_M_exchange, 6, (some FieldType.long), { frames := 3, cells := 0, slots := 0, locals := 96 }, some [])
def m_M_noRest : MI := (y_M_noRest, c_M_noRest, 2, (some FieldType.boolean), { frames := 0, cells := 0, slots := 0, locals := 0 }, some [])
def m_M_canSwap : MI := (y_M_canSwap, c_M_canSwap, 2, (some FieldType.boolean), { frames := 0, cells := 0, slots := 0, locals := 0 }, some [])
def m_M_swap : MI := (y_M_swap, c_M_swap, 33, none, { frames := 2, cells := 0, slots := 0, locals := 44 }, some [])
def m_M_sum : MI := (y_M_sum, c_M_sum, 7, (some FieldType.long), { frames := 0, cells := 0, slots := 0, locals := 0 }, some [])
def m_M_difference : MI := (y_M_difference, c_M_difference, 7, (some FieldType.long), { frames := 0, cells := 0, slots := 0, locals := 0 }, some [])
def m_M_delay : MI := (y_M_delay, c_M_delay, 2, (some FieldType.long), { frames := 1, cells := 0, slots := 0, locals := 21 }, some [])
def m_M_offset : MI := (y_M_offset, c_M_offset, 2, (some FieldType.long), { frames := 1, cells := 0, slots := 0, locals := 21 }, some [])
def m_M_discipline : MI := (y_M_discipline, c_M_discipline, 6, (some FieldType.int), { frames := 3, cells := 0, slots := 0, locals := 96 }, some [])
theorem k_T_init : (m_T_init.2.2.2.2.2 = some [] ∧ Cond.code m_T_init.1 m_T_init.2.1 m_T_init.2.2.1 m_T_init.2.2.2.1 ∈ gt ∧ Cond.initialized m_T_init.1.cls ∈ gt) ∧ (m_T_init.1.cls ≠ "java/lang/invoke/MethodHandle" ∧ m_T_init.1.cls ≠ "java/lang/invoke/VarHandle" ∧ (parseMethodDescriptor m_T_init.1.desc).map (fun d => d.parameters.length) = some 0) := ⟨⟨rfl, by decide +kernel, by decide +kernel⟩, by decide +kernel⟩
theorem k_R_init : (m_R_init.2.2.2.2.2 = some [] ∧ Cond.code m_R_init.1 m_R_init.2.1 m_R_init.2.2.1 m_R_init.2.2.2.1 ∈ gt ∧ Cond.initialized m_R_init.1.cls ∈ gt) ∧ (m_R_init.1.cls ≠ "java/lang/invoke/MethodHandle" ∧ m_R_init.1.cls ≠ "java/lang/invoke/VarHandle" ∧ (parseMethodDescriptor m_R_init.1.desc).map (fun d => d.parameters.length) = some 0) := ⟨⟨rfl, by decide +kernel, by decide +kernel⟩, by decide +kernel⟩
theorem k_T_settle : (m_T_settle.2.2.2.2.2 = some [] ∧ Cond.code m_T_settle.1 m_T_settle.2.1 m_T_settle.2.2.1 m_T_settle.2.2.2.1 ∈ gt ∧ Cond.initialized m_T_settle.1.cls ∈ gt) ∧ (m_T_settle.1.cls ≠ "java/lang/invoke/MethodHandle" ∧ m_T_settle.1.cls ≠ "java/lang/invoke/VarHandle" ∧ (parseMethodDescriptor m_T_settle.1.desc).map (fun d => d.parameters.length) = some 0) := ⟨⟨rfl, by decide +kernel, by decide +kernel⟩, by decide +kernel⟩
theorem k_T_playRound : (m_T_playRound.2.2.2.2.2 = some [] ∧ Cond.code m_T_playRound.1 m_T_playRound.2.1 m_T_playRound.2.2.1 m_T_playRound.2.2.2.1 ∈ gt ∧ Cond.initialized m_T_playRound.1.cls ∈ gt) ∧ (m_T_playRound.1.cls ≠ "java/lang/invoke/MethodHandle" ∧ m_T_playRound.1.cls ≠ "java/lang/invoke/VarHandle" ∧ (parseMethodDescriptor m_T_playRound.1.desc).map (fun d => d.parameters.length) = some 0) := ⟨⟨rfl, by decide +kernel, by decide +kernel⟩, by decide +kernel⟩
theorem k_T_hearAtPorts : (m_T_hearAtPorts.2.2.2.2.2 = some [] ∧ Cond.code m_T_hearAtPorts.1 m_T_hearAtPorts.2.1 m_T_hearAtPorts.2.2.1 m_T_hearAtPorts.2.2.2.1 ∈ gt ∧ Cond.initialized m_T_hearAtPorts.1.cls ∈ gt) ∧ (m_T_hearAtPorts.1.cls ≠ "java/lang/invoke/MethodHandle" ∧ m_T_hearAtPorts.1.cls ≠ "java/lang/invoke/VarHandle" ∧ (parseMethodDescriptor m_T_hearAtPorts.1.desc).map (fun d => d.parameters.length) = some 1) := ⟨⟨rfl, by decide +kernel, by decide +kernel⟩, by decide +kernel⟩
theorem k_P_findSender : (m_P_findSender.2.2.2.2.2 = some [] ∧ Cond.code m_P_findSender.1 m_P_findSender.2.1 m_P_findSender.2.2.1 m_P_findSender.2.2.2.1 ∈ gt ∧ Cond.initialized m_P_findSender.1.cls ∈ gt) ∧ (m_P_findSender.1.cls ≠ "java/lang/invoke/MethodHandle" ∧ m_P_findSender.1.cls ≠ "java/lang/invoke/VarHandle" ∧ (parseMethodDescriptor m_P_findSender.1.desc).map (fun d => d.parameters.length) = some 0) := ⟨⟨rfl, by decide +kernel, by decide +kernel⟩, by decide +kernel⟩
theorem k_K_farFrom : (m_K_farFrom.2.2.2.2.2 = some [] ∧ Cond.code m_K_farFrom.1 m_K_farFrom.2.1 m_K_farFrom.2.2.1 m_K_farFrom.2.2.2.1 ∈ gt ∧ Cond.initialized m_K_farFrom.1.cls ∈ gt) ∧ (m_K_farFrom.1.cls ≠ "java/lang/invoke/MethodHandle" ∧ m_K_farFrom.1.cls ≠ "java/lang/invoke/VarHandle" ∧ (parseMethodDescriptor m_K_farFrom.1.desc).map (fun d => d.parameters.length) = some 1) := ⟨⟨rfl, by decide +kernel, by decide +kernel⟩, by decide +kernel⟩
theorem k_N_accepts : (m_N_accepts.2.2.2.2.2 = some [] ∧ Cond.code m_N_accepts.1 m_N_accepts.2.1 m_N_accepts.2.2.1 m_N_accepts.2.2.2.1 ∈ gt ∧ Cond.initialized m_N_accepts.1.cls ∈ gt) ∧ (m_N_accepts.1.cls ≠ "java/lang/invoke/MethodHandle" ∧ m_N_accepts.1.cls ≠ "java/lang/invoke/VarHandle" ∧ (parseMethodDescriptor m_N_accepts.1.desc).map (fun d => d.parameters.length) = some 1) := ⟨⟨rfl, by decide +kernel, by decide +kernel⟩, by decide +kernel⟩
theorem k_P_keep : (m_P_keep.2.2.2.2.2 = some [] ∧ Cond.code m_P_keep.1 m_P_keep.2.1 m_P_keep.2.2.1 m_P_keep.2.2.2.1 ∈ gt ∧ Cond.initialized m_P_keep.1.cls ∈ gt) ∧ (m_P_keep.1.cls ≠ "java/lang/invoke/MethodHandle" ∧ m_P_keep.1.cls ≠ "java/lang/invoke/VarHandle" ∧ (parseMethodDescriptor m_P_keep.1.desc).map (fun d => d.parameters.length) = some 1) := ⟨⟨rfl, by decide +kernel, by decide +kernel⟩, by decide +kernel⟩
theorem k_D_tellsSameAs : (m_D_tellsSameAs.2.2.2.2.2 = some [] ∧ Cond.code m_D_tellsSameAs.1 m_D_tellsSameAs.2.1 m_D_tellsSameAs.2.2.1 m_D_tellsSameAs.2.2.2.1 ∈ gt ∧ Cond.initialized m_D_tellsSameAs.1.cls ∈ gt) ∧ (m_D_tellsSameAs.1.cls ≠ "java/lang/invoke/MethodHandle" ∧ m_D_tellsSameAs.1.cls ≠ "java/lang/invoke/VarHandle" ∧ (parseMethodDescriptor m_D_tellsSameAs.1.desc).map (fun d => d.parameters.length) = some 1) := ⟨⟨rfl, by decide +kernel, by decide +kernel⟩, by decide +kernel⟩
theorem k_D_setRootOf : (m_D_setRootOf.2.2.2.2.2 = some [] ∧ Cond.code m_D_setRootOf.1 m_D_setRootOf.2.1 m_D_setRootOf.2.2.1 m_D_setRootOf.2.2.2.1 ∈ gt ∧ Cond.initialized m_D_setRootOf.1.cls ∈ gt) ∧ (m_D_setRootOf.1.cls ≠ "java/lang/invoke/MethodHandle" ∧ m_D_setRootOf.1.cls ≠ "java/lang/invoke/VarHandle" ∧ (parseMethodDescriptor m_D_setRootOf.1.desc).map (fun d => d.parameters.length) = some 1) := ⟨⟨rfl, by decide +kernel, by decide +kernel⟩, by decide +kernel⟩
theorem k_P_growOlder : (m_P_growOlder.2.2.2.2.2 = some [] ∧ Cond.code m_P_growOlder.1 m_P_growOlder.2.1 m_P_growOlder.2.2.1 m_P_growOlder.2.2.2.1 ∈ gt ∧ Cond.initialized m_P_growOlder.1.cls ∈ gt) ∧ (m_P_growOlder.1.cls ≠ "java/lang/invoke/MethodHandle" ∧ m_P_growOlder.1.cls ≠ "java/lang/invoke/VarHandle" ∧ (parseMethodDescriptor m_P_growOlder.1.desc).map (fun d => d.parameters.length) = some 0) := ⟨⟨rfl, by decide +kernel, by decide +kernel⟩, by decide +kernel⟩
theorem k_N_findStates : (m_N_findStates.2.2.2.2.2 = some [] ∧ Cond.code m_N_findStates.1 m_N_findStates.2.1 m_N_findStates.2.2.1 m_N_findStates.2.2.2.1 ∈ gt ∧ Cond.initialized m_N_findStates.1.cls ∈ gt) ∧ (m_N_findStates.1.cls ≠ "java/lang/invoke/MethodHandle" ∧ m_N_findStates.1.cls ≠ "java/lang/invoke/VarHandle" ∧ (parseMethodDescriptor m_N_findStates.1.desc).map (fun d => d.parameters.length) = some 0) := ⟨⟨rfl, by decide +kernel, by decide +kernel⟩, by decide +kernel⟩
theorem k_N_findBest : (m_N_findBest.2.2.2.2.2 = some [] ∧ Cond.code m_N_findBest.1 m_N_findBest.2.1 m_N_findBest.2.2.1 m_N_findBest.2.2.2.1 ∈ gt ∧ Cond.initialized m_N_findBest.1.cls ∈ gt) ∧ (m_N_findBest.1.cls ≠ "java/lang/invoke/MethodHandle" ∧ m_N_findBest.1.cls ≠ "java/lang/invoke/VarHandle" ∧ (parseMethodDescriptor m_N_findBest.1.desc).map (fun d => d.parameters.length) = some 0) := ⟨⟨rfl, by decide +kernel, by decide +kernel⟩, by decide +kernel⟩
theorem k_D_betterThan : (m_D_betterThan.2.2.2.2.2 = some [] ∧ Cond.code m_D_betterThan.1 m_D_betterThan.2.1 m_D_betterThan.2.2.1 m_D_betterThan.2.2.2.1 ∈ gt ∧ Cond.initialized m_D_betterThan.1.cls ∈ gt) ∧ (m_D_betterThan.1.cls ≠ "java/lang/invoke/MethodHandle" ∧ m_D_betterThan.1.cls ≠ "java/lang/invoke/VarHandle" ∧ (parseMethodDescriptor m_D_betterThan.1.desc).map (fun d => d.parameters.length) = some 1) := ⟨⟨rfl, by decide +kernel, by decide +kernel⟩, by decide +kernel⟩
theorem k_P_tell : (m_P_tell.2.2.2.2.2 = some [] ∧ Cond.code m_P_tell.1 m_P_tell.2.1 m_P_tell.2.2.1 m_P_tell.2.2.2.1 ∈ gt ∧ Cond.initialized m_P_tell.1.cls ∈ gt) ∧ (m_P_tell.1.cls ≠ "java/lang/invoke/MethodHandle" ∧ m_P_tell.1.cls ≠ "java/lang/invoke/VarHandle" ∧ (parseMethodDescriptor m_P_tell.1.desc).map (fun d => d.parameters.length) = some 2) := ⟨⟨rfl, by decide +kernel, by decide +kernel⟩, by decide +kernel⟩
theorem k_P_findState : (m_P_findState.2.2.2.2.2 = some [] ∧ Cond.code m_P_findState.1 m_P_findState.2.1 m_P_findState.2.2.1 m_P_findState.2.2.2.1 ∈ gt ∧ Cond.initialized m_P_findState.1.cls ∈ gt) ∧ (m_P_findState.1.cls ≠ "java/lang/invoke/MethodHandle" ∧ m_P_findState.1.cls ≠ "java/lang/invoke/VarHandle" ∧ (parseMethodDescriptor m_P_findState.1.desc).map (fun d => d.parameters.length) = some 1) := ⟨⟨rfl, by decide +kernel, by decide +kernel⟩, by decide +kernel⟩
theorem k_T_discipline : (m_T_discipline.2.2.2.2.2 = some [] ∧ Cond.code m_T_discipline.1 m_T_discipline.2.1 m_T_discipline.2.2.1 m_T_discipline.2.2.2.1 ∈ gt ∧ Cond.initialized m_T_discipline.1.cls ∈ gt) ∧ (m_T_discipline.1.cls ≠ "java/lang/invoke/MethodHandle" ∧ m_T_discipline.1.cls ≠ "java/lang/invoke/VarHandle" ∧ (parseMethodDescriptor m_T_discipline.1.desc).map (fun d => d.parameters.length) = some 1) := ⟨⟨rfl, by decide +kernel, by decide +kernel⟩, by decide +kernel⟩
theorem k_T_setsClock : (m_T_setsClock.2.2.2.2.2 = some [] ∧ Cond.code m_T_setsClock.1 m_T_setsClock.2.1 m_T_setsClock.2.2.1 m_T_setsClock.2.2.2.1 ∈ gt ∧ Cond.initialized m_T_setsClock.1.cls ∈ gt) ∧ (m_T_setsClock.1.cls ≠ "java/lang/invoke/MethodHandle" ∧ m_T_setsClock.1.cls ≠ "java/lang/invoke/VarHandle" ∧ (parseMethodDescriptor m_T_setsClock.1.desc).map (fun d => d.parameters.length) = some 2) := ⟨⟨rfl, by decide +kernel, by decide +kernel⟩, by decide +kernel⟩
theorem k_T_openSlaveOf : (m_T_openSlaveOf.2.2.2.2.2 = some [] ∧ Cond.code m_T_openSlaveOf.1 m_T_openSlaveOf.2.1 m_T_openSlaveOf.2.2.1 m_T_openSlaveOf.2.2.2.1 ∈ gt ∧ Cond.initialized m_T_openSlaveOf.1.cls ∈ gt) ∧ (m_T_openSlaveOf.1.cls ≠ "java/lang/invoke/MethodHandle" ∧ m_T_openSlaveOf.1.cls ≠ "java/lang/invoke/VarHandle" ∧ (parseMethodDescriptor m_T_openSlaveOf.1.desc).map (fun d => d.parameters.length) = some 1) := ⟨⟨rfl, by decide +kernel, by decide +kernel⟩, by decide +kernel⟩
theorem k_T_setClock : (m_T_setClock.2.2.2.2.2 = some [] ∧ Cond.code m_T_setClock.1 m_T_setClock.2.1 m_T_setClock.2.2.1 m_T_setClock.2.2.2.1 ∈ gt ∧ Cond.initialized m_T_setClock.1.cls ∈ gt) ∧ (m_T_setClock.1.cls ≠ "java/lang/invoke/MethodHandle" ∧ m_T_setClock.1.cls ≠ "java/lang/invoke/VarHandle" ∧ (parseMethodDescriptor m_T_setClock.1.desc).map (fun d => d.parameters.length) = some 5) := ⟨⟨rfl, by decide +kernel, by decide +kernel⟩, by decide +kernel⟩
theorem k_K_delayTo : (m_K_delayTo.2.2.2.2.2 = some [] ∧ Cond.code m_K_delayTo.1 m_K_delayTo.2.1 m_K_delayTo.2.2.1 m_K_delayTo.2.2.2.1 ∈ gt ∧ Cond.initialized m_K_delayTo.1.cls ∈ gt) ∧ (m_K_delayTo.1.cls ≠ "java/lang/invoke/MethodHandle" ∧ m_K_delayTo.1.cls ≠ "java/lang/invoke/VarHandle" ∧ (parseMethodDescriptor m_K_delayTo.1.desc).map (fun d => d.parameters.length) = some 1) := ⟨⟨rfl, by decide +kernel, by decide +kernel⟩, by decide +kernel⟩
theorem k_K_delayFrom : (m_K_delayFrom.2.2.2.2.2 = some [] ∧ Cond.code m_K_delayFrom.1 m_K_delayFrom.2.1 m_K_delayFrom.2.2.1 m_K_delayFrom.2.2.2.1 ∈ gt ∧ Cond.initialized m_K_delayFrom.1.cls ∈ gt) ∧ (m_K_delayFrom.1.cls ≠ "java/lang/invoke/MethodHandle" ∧ m_K_delayFrom.1.cls ≠ "java/lang/invoke/VarHandle" ∧ (parseMethodDescriptor m_K_delayFrom.1.desc).map (fun d => d.parameters.length) = some 1) := ⟨⟨rfl, by decide +kernel, by decide +kernel⟩, by decide +kernel⟩
theorem k_R_noteTimes : (m_R_noteTimes.2.2.2.2.2 = some [] ∧ Cond.code m_R_noteTimes.1 m_R_noteTimes.2.1 m_R_noteTimes.2.2.1 m_R_noteTimes.2.2.2.1 ∈ gt ∧ Cond.initialized m_R_noteTimes.1.cls ∈ gt) ∧ (m_R_noteTimes.1.cls ≠ "java/lang/invoke/MethodHandle" ∧ m_R_noteTimes.1.cls ≠ "java/lang/invoke/VarHandle" ∧ (parseMethodDescriptor m_R_noteTimes.1.desc).map (fun d => d.parameters.length) = some 3) := ⟨⟨rfl, by decide +kernel, by decide +kernel⟩, by decide +kernel⟩
theorem k_R_plus : (m_R_plus.2.2.2.2.2 = some [] ∧ Cond.code m_R_plus.1 m_R_plus.2.1 m_R_plus.2.2.1 m_R_plus.2.2.2.1 ∈ gt ∧ Cond.initialized m_R_plus.1.cls ∈ gt) ∧ (m_R_plus.1.cls ≠ "java/lang/invoke/MethodHandle" ∧ m_R_plus.1.cls ≠ "java/lang/invoke/VarHandle" ∧ (parseMethodDescriptor m_R_plus.1.desc).map (fun d => d.parameters.length) = some 2) := ⟨⟨rfl, by decide +kernel, by decide +kernel⟩, by decide +kernel⟩
theorem k_R_noteClocks : (m_R_noteClocks.2.2.2.2.2 = some [] ∧ Cond.code m_R_noteClocks.1 m_R_noteClocks.2.1 m_R_noteClocks.2.2.1 m_R_noteClocks.2.2.2.1 ∈ gt ∧ Cond.initialized m_R_noteClocks.1.cls ∈ gt) ∧ (m_R_noteClocks.1.cls ≠ "java/lang/invoke/MethodHandle" ∧ m_R_noteClocks.1.cls ≠ "java/lang/invoke/VarHandle" ∧ (parseMethodDescriptor m_R_noteClocks.1.desc).map (fun d => d.parameters.length) = some 2) := ⟨⟨rfl, by decide +kernel, by decide +kernel⟩, by decide +kernel⟩
theorem k_R_find : (m_R_find.2.2.2.2.2 = some [] ∧ Cond.code m_R_find.1 m_R_find.2.1 m_R_find.2.2.1 m_R_find.2.2.2.1 ∈ gt ∧ Cond.initialized m_R_find.1.cls ∈ gt) ∧ (m_R_find.1.cls ≠ "java/lang/invoke/MethodHandle" ∧ m_R_find.1.cls ≠ "java/lang/invoke/VarHandle" ∧ (parseMethodDescriptor m_R_find.1.desc).map (fun d => d.parameters.length) = some 3) := ⟨⟨rfl, by decide +kernel, by decide +kernel⟩, by decide +kernel⟩
theorem k_R_minus : (m_R_minus.2.2.2.2.2 = some [] ∧ Cond.code m_R_minus.1 m_R_minus.2.1 m_R_minus.2.2.1 m_R_minus.2.2.2.1 ∈ gt ∧ Cond.initialized m_R_minus.1.cls ∈ gt) ∧ (m_R_minus.1.cls ≠ "java/lang/invoke/MethodHandle" ∧ m_R_minus.1.cls ≠ "java/lang/invoke/VarHandle" ∧ (parseMethodDescriptor m_R_minus.1.desc).map (fun d => d.parameters.length) = some 2) := ⟨⟨rfl, by decide +kernel, by decide +kernel⟩, by decide +kernel⟩
theorem k_T_node : (m_T_node.2.2.2.2.2 = some [] ∧ Cond.code m_T_node.1 m_T_node.2.1 m_T_node.2.2.1 m_T_node.2.2.2.1 ∈ gt ∧ Cond.initialized m_T_node.1.cls ∈ gt) ∧ (m_T_node.1.cls ≠ "java/lang/invoke/MethodHandle" ∧ m_T_node.1.cls ≠ "java/lang/invoke/VarHandle" ∧ (parseMethodDescriptor m_T_node.1.desc).map (fun d => d.parameters.length) = some 5) := ⟨⟨rfl, by decide +kernel, by decide +kernel⟩, by decide +kernel⟩
theorem k_T_isWithin : (m_T_isWithin.2.2.2.2.2 = some [] ∧ Cond.code m_T_isWithin.1 m_T_isWithin.2.1 m_T_isWithin.2.2.1 m_T_isWithin.2.2.2.1 ∈ gt ∧ Cond.initialized m_T_isWithin.1.cls ∈ gt) ∧ (m_T_isWithin.1.cls ≠ "java/lang/invoke/MethodHandle" ∧ m_T_isWithin.1.cls ≠ "java/lang/invoke/VarHandle" ∧ (parseMethodDescriptor m_T_isWithin.1.desc).map (fun d => d.parameters.length) = some 2) := ⟨⟨rfl, by decide +kernel, by decide +kernel⟩, by decide +kernel⟩
theorem k_T_hasIdentity : (m_T_hasIdentity.2.2.2.2.2 = some [] ∧ Cond.code m_T_hasIdentity.1 m_T_hasIdentity.2.1 m_T_hasIdentity.2.2.1 m_T_hasIdentity.2.2.2.1 ∈ gt ∧ Cond.initialized m_T_hasIdentity.1.cls ∈ gt) ∧ (m_T_hasIdentity.1.cls ≠ "java/lang/invoke/MethodHandle" ∧ m_T_hasIdentity.1.cls ≠ "java/lang/invoke/VarHandle" ∧ (parseMethodDescriptor m_T_hasIdentity.1.desc).map (fun d => d.parameters.length) = some 1) := ⟨⟨rfl, by decide +kernel, by decide +kernel⟩, by decide +kernel⟩
theorem k_N_init : (m_N_init.2.2.2.2.2 = some [] ∧ Cond.code m_N_init.1 m_N_init.2.1 m_N_init.2.2.1 m_N_init.2.2.2.1 ∈ gt ∧ Cond.initialized m_N_init.1.cls ∈ gt) ∧ (m_N_init.1.cls ≠ "java/lang/invoke/MethodHandle" ∧ m_N_init.1.cls ≠ "java/lang/invoke/VarHandle" ∧ (parseMethodDescriptor m_N_init.1.desc).map (fun d => d.parameters.length) = some 2) := ⟨⟨rfl, by decide +kernel, by decide +kernel⟩, by decide +kernel⟩
theorem k_D_init : (m_D_init.2.2.2.2.2 = some [] ∧ Cond.code m_D_init.1 m_D_init.2.1 m_D_init.2.2.1 m_D_init.2.2.2.1 ∈ gt ∧ Cond.initialized m_D_init.1.cls ∈ gt) ∧ (m_D_init.1.cls ≠ "java/lang/invoke/MethodHandle" ∧ m_D_init.1.cls ≠ "java/lang/invoke/VarHandle" ∧ (parseMethodDescriptor m_D_init.1.desc).map (fun d => d.parameters.length) = some 0) := ⟨⟨rfl, by decide +kernel, by decide +kernel⟩, by decide +kernel⟩
theorem k_P_init : (m_P_init.2.2.2.2.2 = some [] ∧ Cond.code m_P_init.1 m_P_init.2.1 m_P_init.2.2.1 m_P_init.2.2.2.1 ∈ gt ∧ Cond.initialized m_P_init.1.cls ∈ gt) ∧ (m_P_init.1.cls ≠ "java/lang/invoke/MethodHandle" ∧ m_P_init.1.cls ≠ "java/lang/invoke/VarHandle" ∧ (parseMethodDescriptor m_P_init.1.desc).map (fun d => d.parameters.length) = some 2) := ⟨⟨rfl, by decide +kernel, by decide +kernel⟩, by decide +kernel⟩
theorem k_D_setOwn : (m_D_setOwn.2.2.2.2.2 = some [] ∧ Cond.code m_D_setOwn.1 m_D_setOwn.2.1 m_D_setOwn.2.2.1 m_D_setOwn.2.2.2.1 ∈ gt ∧ Cond.initialized m_D_setOwn.1.cls ∈ gt) ∧ (m_D_setOwn.1.cls ≠ "java/lang/invoke/MethodHandle" ∧ m_D_setOwn.1.cls ≠ "java/lang/invoke/VarHandle" ∧ (parseMethodDescriptor m_D_setOwn.1.desc).map (fun d => d.parameters.length) = some 4) := ⟨⟨rfl, by decide +kernel, by decide +kernel⟩, by decide +kernel⟩
theorem k_T_link : (m_T_link.2.2.2.2.2 = some [] ∧ Cond.code m_T_link.1 m_T_link.2.1 m_T_link.2.2.1 m_T_link.2.2.2.1 ∈ gt ∧ Cond.initialized m_T_link.1.cls ∈ gt) ∧ (m_T_link.1.cls ≠ "java/lang/invoke/MethodHandle" ∧ m_T_link.1.cls ≠ "java/lang/invoke/VarHandle" ∧ (parseMethodDescriptor m_T_link.1.desc).map (fun d => d.parameters.length) = some 6) := ⟨⟨rfl, by decide +kernel, by decide +kernel⟩, by decide +kernel⟩
theorem k_T_portAt : (m_T_portAt.2.2.2.2.2 = some [] ∧ Cond.code m_T_portAt.1 m_T_portAt.2.1 m_T_portAt.2.2.1 m_T_portAt.2.2.2.1 ∈ gt ∧ Cond.initialized m_T_portAt.1.cls ∈ gt) ∧ (m_T_portAt.1.cls ≠ "java/lang/invoke/MethodHandle" ∧ m_T_portAt.1.cls ≠ "java/lang/invoke/VarHandle" ∧ (parseMethodDescriptor m_T_portAt.1.desc).map (fun d => d.parameters.length) = some 2) := ⟨⟨rfl, by decide +kernel, by decide +kernel⟩, by decide +kernel⟩
theorem k_T_nodeAt : (m_T_nodeAt.2.2.2.2.2 = some [] ∧ Cond.code m_T_nodeAt.1 m_T_nodeAt.2.1 m_T_nodeAt.2.2.1 m_T_nodeAt.2.2.2.1 ∈ gt ∧ Cond.initialized m_T_nodeAt.1.cls ∈ gt) ∧ (m_T_nodeAt.1.cls ≠ "java/lang/invoke/MethodHandle" ∧ m_T_nodeAt.1.cls ≠ "java/lang/invoke/VarHandle" ∧ (parseMethodDescriptor m_T_nodeAt.1.desc).map (fun d => d.parameters.length) = some 1) := ⟨⟨rfl, by decide +kernel, by decide +kernel⟩, by decide +kernel⟩
theorem k_K_init : (m_K_init.2.2.2.2.2 = some [] ∧ Cond.code m_K_init.1 m_K_init.2.1 m_K_init.2.2.1 m_K_init.2.2.2.1 ∈ gt ∧ Cond.initialized m_K_init.1.cls ∈ gt) ∧ (m_K_init.1.cls ≠ "java/lang/invoke/MethodHandle" ∧ m_K_init.1.cls ≠ "java/lang/invoke/VarHandle" ∧ (parseMethodDescriptor m_K_init.1.desc).map (fun d => d.parameters.length) = some 4) := ⟨⟨rfl, by decide +kernel, by decide +kernel⟩, by decide +kernel⟩
theorem k_T_up : (m_T_up.2.2.2.2.2 = some [] ∧ Cond.code m_T_up.1 m_T_up.2.1 m_T_up.2.2.1 m_T_up.2.2.2.1 ∈ gt ∧ Cond.initialized m_T_up.1.cls ∈ gt) ∧ (m_T_up.1.cls ≠ "java/lang/invoke/MethodHandle" ∧ m_T_up.1.cls ≠ "java/lang/invoke/VarHandle" ∧ (parseMethodDescriptor m_T_up.1.desc).map (fun d => d.parameters.length) = some 2) := ⟨⟨rfl, by decide +kernel, by decide +kernel⟩, by decide +kernel⟩
theorem k_T_priority : (m_T_priority.2.2.2.2.2 = some [] ∧ Cond.code m_T_priority.1 m_T_priority.2.1 m_T_priority.2.2.1 m_T_priority.2.2.2.1 ∈ gt ∧ Cond.initialized m_T_priority.1.cls ∈ gt) ∧ (m_T_priority.1.cls ≠ "java/lang/invoke/MethodHandle" ∧ m_T_priority.1.cls ≠ "java/lang/invoke/VarHandle" ∧ (parseMethodDescriptor m_T_priority.1.desc).map (fun d => d.parameters.length) = some 2) := ⟨⟨rfl, by decide +kernel, by decide +kernel⟩, by decide +kernel⟩
theorem k_T_round : (m_T_round.2.2.2.2.2 = some [] ∧ Cond.code m_T_round.1 m_T_round.2.1 m_T_round.2.2.1 m_T_round.2.2.2.1 ∈ gt ∧ Cond.initialized m_T_round.1.cls ∈ gt) ∧ (m_T_round.1.cls ≠ "java/lang/invoke/MethodHandle" ∧ m_T_round.1.cls ≠ "java/lang/invoke/VarHandle" ∧ (parseMethodDescriptor m_T_round.1.desc).map (fun d => d.parameters.length) = some 1) := ⟨⟨rfl, by decide +kernel, by decide +kernel⟩, by decide +kernel⟩
theorem k_T_state : (m_T_state.2.2.2.2.2 = some [] ∧ Cond.code m_T_state.1 m_T_state.2.1 m_T_state.2.2.1 m_T_state.2.2.2.1 ∈ gt ∧ Cond.initialized m_T_state.1.cls ∈ gt) ∧ (m_T_state.1.cls ≠ "java/lang/invoke/MethodHandle" ∧ m_T_state.1.cls ≠ "java/lang/invoke/VarHandle" ∧ (parseMethodDescriptor m_T_state.1.desc).map (fun d => d.parameters.length) = some 2) := ⟨⟨rfl, by decide +kernel, by decide +kernel⟩, by decide +kernel⟩
theorem k_T_root : (m_T_root.2.2.2.2.2 = some [] ∧ Cond.code m_T_root.1 m_T_root.2.1 m_T_root.2.2.1 m_T_root.2.2.2.1 ∈ gt ∧ Cond.initialized m_T_root.1.cls ∈ gt) ∧ (m_T_root.1.cls ≠ "java/lang/invoke/MethodHandle" ∧ m_T_root.1.cls ≠ "java/lang/invoke/VarHandle" ∧ (parseMethodDescriptor m_T_root.1.desc).map (fun d => d.parameters.length) = some 1) := ⟨⟨rfl, by decide +kernel, by decide +kernel⟩, by decide +kernel⟩
theorem k_T_steps : (m_T_steps.2.2.2.2.2 = some [] ∧ Cond.code m_T_steps.1 m_T_steps.2.1 m_T_steps.2.2.1 m_T_steps.2.2.2.1 ∈ gt ∧ Cond.initialized m_T_steps.1.cls ∈ gt) ∧ (m_T_steps.1.cls ≠ "java/lang/invoke/MethodHandle" ∧ m_T_steps.1.cls ≠ "java/lang/invoke/VarHandle" ∧ (parseMethodDescriptor m_T_steps.1.desc).map (fun d => d.parameters.length) = some 1) := ⟨⟨rfl, by decide +kernel, by decide +kernel⟩, by decide +kernel⟩
theorem k_T_kept : (m_T_kept.2.2.2.2.2 = some [] ∧ Cond.code m_T_kept.1 m_T_kept.2.1 m_T_kept.2.2.1 m_T_kept.2.2.2.1 ∈ gt ∧ Cond.initialized m_T_kept.1.cls ∈ gt) ∧ (m_T_kept.1.cls ≠ "java/lang/invoke/MethodHandle" ∧ m_T_kept.1.cls ≠ "java/lang/invoke/VarHandle" ∧ (parseMethodDescriptor m_T_kept.1.desc).map (fun d => d.parameters.length) = some 2) := ⟨⟨rfl, by decide +kernel, by decide +kernel⟩, by decide +kernel⟩
theorem k_T_exchange : (m_T_exchange.2.2.2.2.2 = some [] ∧ Cond.code m_T_exchange.1 m_T_exchange.2.1 m_T_exchange.2.2.1 m_T_exchange.2.2.2.1 ∈ gt ∧ Cond.initialized m_T_exchange.1.cls ∈ gt) ∧ (m_T_exchange.1.cls ≠ "java/lang/invoke/MethodHandle" ∧ m_T_exchange.1.cls ≠ "java/lang/invoke/VarHandle" ∧ (parseMethodDescriptor m_T_exchange.1.desc).map (fun d => d.parameters.length) = some 4) := ⟨⟨rfl, by decide +kernel, by decide +kernel⟩, by decide +kernel⟩
theorem k_T_delay : (m_T_delay.2.2.2.2.2 = some [] ∧ Cond.code m_T_delay.1 m_T_delay.2.1 m_T_delay.2.2.1 m_T_delay.2.2.2.1 ∈ gt ∧ Cond.initialized m_T_delay.1.cls ∈ gt) ∧ (m_T_delay.1.cls ≠ "java/lang/invoke/MethodHandle" ∧ m_T_delay.1.cls ≠ "java/lang/invoke/VarHandle" ∧ (parseMethodDescriptor m_T_delay.1.desc).map (fun d => d.parameters.length) = some 1) := ⟨⟨rfl, by decide +kernel, by decide +kernel⟩, by decide +kernel⟩
theorem k_T_offset : (m_T_offset.2.2.2.2.2 = some [] ∧ Cond.code m_T_offset.1 m_T_offset.2.1 m_T_offset.2.2.1 m_T_offset.2.2.2.1 ∈ gt ∧ Cond.initialized m_T_offset.1.cls ∈ gt) ∧ (m_T_offset.1.cls ≠ "java/lang/invoke/MethodHandle" ∧ m_T_offset.1.cls ≠ "java/lang/invoke/VarHandle" ∧ (parseMethodDescriptor m_T_offset.1.desc).map (fun d => d.parameters.length) = some 1) := ⟨⟨rfl, by decide +kernel, by decide +kernel⟩, by decide +kernel⟩
theorem k_M_init : (m_M_init.2.2.2.2.2 = some [] ∧ Cond.code m_M_init.1 m_M_init.2.1 m_M_init.2.2.1 m_M_init.2.2.2.1 ∈ gt ∧ Cond.initialized m_M_init.1.cls ∈ gt) ∧ (m_M_init.1.cls ≠ "java/lang/invoke/MethodHandle" ∧ m_M_init.1.cls ≠ "java/lang/invoke/VarHandle" ∧ (parseMethodDescriptor m_M_init.1.desc).map (fun d => d.parameters.length) = some 0) := ⟨⟨rfl, by decide +kernel, by decide +kernel⟩, by decide +kernel⟩
theorem k_M_thrown : (m_M_thrown.2.2.2.2.2 = some [] ∧ Cond.code m_M_thrown.1 m_M_thrown.2.1 m_M_thrown.2.2.1 m_M_thrown.2.2.2.1 ∈ gt ∧ Cond.initialized m_M_thrown.1.cls ∈ gt) ∧ (m_M_thrown.1.cls ≠ "java/lang/invoke/MethodHandle" ∧ m_M_thrown.1.cls ≠ "java/lang/invoke/VarHandle" ∧ (parseMethodDescriptor m_M_thrown.1.desc).map (fun d => d.parameters.length) = some 0) := ⟨⟨rfl, by decide +kernel, by decide +kernel⟩, by decide +kernel⟩
theorem k_M_node : (m_M_node.2.2.2.2.2 = some [] ∧ Cond.code m_M_node.1 m_M_node.2.1 m_M_node.2.2.1 m_M_node.2.2.2.1 ∈ gt ∧ Cond.initialized m_M_node.1.cls ∈ gt) ∧ (m_M_node.1.cls ≠ "java/lang/invoke/MethodHandle" ∧ m_M_node.1.cls ≠ "java/lang/invoke/VarHandle" ∧ (parseMethodDescriptor m_M_node.1.desc).map (fun d => d.parameters.length) = some 5) := ⟨⟨rfl, by decide +kernel, by decide +kernel⟩, by decide +kernel⟩
theorem k_M_byteSized : (m_M_byteSized.2.2.2.2.2 = some [] ∧ Cond.code m_M_byteSized.1 m_M_byteSized.2.1 m_M_byteSized.2.2.1 m_M_byteSized.2.2.2.1 ∈ gt ∧ Cond.initialized m_M_byteSized.1.cls ∈ gt) ∧ (m_M_byteSized.1.cls ≠ "java/lang/invoke/MethodHandle" ∧ m_M_byteSized.1.cls ≠ "java/lang/invoke/VarHandle" ∧ (parseMethodDescriptor m_M_byteSized.1.desc).map (fun d => d.parameters.length) = some 1) := ⟨⟨rfl, by decide +kernel, by decide +kernel⟩, by decide +kernel⟩
theorem k_M_findAll : (m_M_findAll.2.2.2.2.2 = some [] ∧ Cond.code m_M_findAll.1 m_M_findAll.2.1 m_M_findAll.2.2.1 m_M_findAll.2.2.2.1 ∈ gt ∧ Cond.initialized m_M_findAll.1.cls ∈ gt) ∧ (m_M_findAll.1.cls ≠ "java/lang/invoke/MethodHandle" ∧ m_M_findAll.1.cls ≠ "java/lang/invoke/VarHandle" ∧ (parseMethodDescriptor m_M_findAll.1.desc).map (fun d => d.parameters.length) = some 0) := ⟨⟨rfl, by decide +kernel, by decide +kernel⟩, by decide +kernel⟩
theorem k_M_find : (m_M_find.2.2.2.2.2 = some [] ∧ Cond.code m_M_find.1 m_M_find.2.1 m_M_find.2.2.1 m_M_find.2.2.2.1 ∈ gt ∧ Cond.initialized m_M_find.1.cls ∈ gt) ∧ (m_M_find.1.cls ≠ "java/lang/invoke/MethodHandle" ∧ m_M_find.1.cls ≠ "java/lang/invoke/VarHandle" ∧ (parseMethodDescriptor m_M_find.1.desc).map (fun d => d.parameters.length) = some 1) := ⟨⟨rfl, by decide +kernel, by decide +kernel⟩, by decide +kernel⟩
theorem k_M_ownOne : (m_M_ownOne.2.2.2.2.2 = some [] ∧ Cond.code m_M_ownOne.1 m_M_ownOne.2.1 m_M_ownOne.2.2.1 m_M_ownOne.2.2.2.1 ∈ gt ∧ Cond.initialized m_M_ownOne.1.cls ∈ gt) ∧ (m_M_ownOne.1.cls ≠ "java/lang/invoke/MethodHandle" ∧ m_M_ownOne.1.cls ≠ "java/lang/invoke/VarHandle" ∧ (parseMethodDescriptor m_M_ownOne.1.desc).map (fun d => d.parameters.length) = some 2) := ⟨⟨rfl, by decide +kernel, by decide +kernel⟩, by decide +kernel⟩
theorem k_M_keptOne : (m_M_keptOne.2.2.2.2.2 = some [] ∧ Cond.code m_M_keptOne.1 m_M_keptOne.2.1 m_M_keptOne.2.2.1 m_M_keptOne.2.2.2.1 ∈ gt ∧ Cond.initialized m_M_keptOne.1.cls ∈ gt) ∧ (m_M_keptOne.1.cls ≠ "java/lang/invoke/MethodHandle" ∧ m_M_keptOne.1.cls ≠ "java/lang/invoke/VarHandle" ∧ (parseMethodDescriptor m_M_keptOne.1.desc).map (fun d => d.parameters.length) = some 1) := ⟨⟨rfl, by decide +kernel, by decide +kernel⟩, by decide +kernel⟩
theorem k_M_turnRound : (m_M_turnRound.2.2.2.2.2 = some [] ∧ Cond.code m_M_turnRound.1 m_M_turnRound.2.1 m_M_turnRound.2.2.1 m_M_turnRound.2.2.2.1 ∈ gt ∧ Cond.initialized m_M_turnRound.1.cls ∈ gt) ∧ (m_M_turnRound.1.cls ≠ "java/lang/invoke/MethodHandle" ∧ m_M_turnRound.1.cls ≠ "java/lang/invoke/VarHandle" ∧ (parseMethodDescriptor m_M_turnRound.1.desc).map (fun d => d.parameters.length) = some 0) := ⟨⟨rfl, by decide +kernel, by decide +kernel⟩, by decide +kernel⟩
theorem k_M_better : (m_M_better.2.2.2.2.2 = some [] ∧ Cond.code m_M_better.1 m_M_better.2.1 m_M_better.2.2.1 m_M_better.2.2.2.1 ∈ gt ∧ Cond.initialized m_M_better.1.cls ∈ gt) ∧ (m_M_better.1.cls ≠ "java/lang/invoke/MethodHandle" ∧ m_M_better.1.cls ≠ "java/lang/invoke/VarHandle" ∧ (parseMethodDescriptor m_M_better.1.desc).map (fun d => d.parameters.length) = some 0) := ⟨⟨rfl, by decide +kernel, by decide +kernel⟩, by decide +kernel⟩
theorem k_M_toldOne : (m_M_toldOne.2.2.2.2.2 = some [] ∧ Cond.code m_M_toldOne.1 m_M_toldOne.2.1 m_M_toldOne.2.2.1 m_M_toldOne.2.2.2.1 ∈ gt ∧ Cond.initialized m_M_toldOne.1.cls ∈ gt) ∧ (m_M_toldOne.1.cls ≠ "java/lang/invoke/MethodHandle" ∧ m_M_toldOne.1.cls ≠ "java/lang/invoke/VarHandle" ∧ (parseMethodDescriptor m_M_toldOne.1.desc).map (fun d => d.parameters.length) = some 1) := ⟨⟨rfl, by decide +kernel, by decide +kernel⟩, by decide +kernel⟩
theorem k_M_link : (m_M_link.2.2.2.2.2 = some [] ∧ Cond.code m_M_link.1 m_M_link.2.1 m_M_link.2.2.1 m_M_link.2.2.2.1 ∈ gt ∧ Cond.initialized m_M_link.1.cls ∈ gt) ∧ (m_M_link.1.cls ≠ "java/lang/invoke/MethodHandle" ∧ m_M_link.1.cls ≠ "java/lang/invoke/VarHandle" ∧ (parseMethodDescriptor m_M_link.1.desc).map (fun d => d.parameters.length) = some 6) := ⟨⟨rfl, by decide +kernel, by decide +kernel⟩, by decide +kernel⟩
theorem k_M_noPort : (m_M_noPort.2.2.2.2.2 = some [] ∧ Cond.code m_M_noPort.1 m_M_noPort.2.1 m_M_noPort.2.2.1 m_M_noPort.2.2.2.1 ∈ gt ∧ Cond.initialized m_M_noPort.1.cls ∈ gt) ∧ (m_M_noPort.1.cls ≠ "java/lang/invoke/MethodHandle" ∧ m_M_noPort.1.cls ≠ "java/lang/invoke/VarHandle" ∧ (parseMethodDescriptor m_M_noPort.1.desc).map (fun d => d.parameters.length) = some 2) := ⟨⟨rfl, by decide +kernel, by decide +kernel⟩, by decide +kernel⟩
theorem k_M_noNode : (m_M_noNode.2.2.2.2.2 = some [] ∧ Cond.code m_M_noNode.1 m_M_noNode.2.1 m_M_noNode.2.2.1 m_M_noNode.2.2.2.1 ∈ gt ∧ Cond.initialized m_M_noNode.1.cls ∈ gt) ∧ (m_M_noNode.1.cls ≠ "java/lang/invoke/MethodHandle" ∧ m_M_noNode.1.cls ≠ "java/lang/invoke/VarHandle" ∧ (parseMethodDescriptor m_M_noNode.1.desc).map (fun d => d.parameters.length) = some 1) := ⟨⟨rfl, by decide +kernel, by decide +kernel⟩, by decide +kernel⟩
theorem k_M_noDelay : (m_M_noDelay.2.2.2.2.2 = some [] ∧ Cond.code m_M_noDelay.1 m_M_noDelay.2.1 m_M_noDelay.2.2.1 m_M_noDelay.2.2.2.1 ∈ gt ∧ Cond.initialized m_M_noDelay.1.cls ∈ gt) ∧ (m_M_noDelay.1.cls ≠ "java/lang/invoke/MethodHandle" ∧ m_M_noDelay.1.cls ≠ "java/lang/invoke/VarHandle" ∧ (parseMethodDescriptor m_M_noDelay.1.desc).map (fun d => d.parameters.length) = some 1) := ⟨⟨rfl, by decide +kernel, by decide +kernel⟩, by decide +kernel⟩
theorem k_M_up : (m_M_up.2.2.2.2.2 = some [] ∧ Cond.code m_M_up.1 m_M_up.2.1 m_M_up.2.2.1 m_M_up.2.2.2.1 ∈ gt ∧ Cond.initialized m_M_up.1.cls ∈ gt) ∧ (m_M_up.1.cls ≠ "java/lang/invoke/MethodHandle" ∧ m_M_up.1.cls ≠ "java/lang/invoke/VarHandle" ∧ (parseMethodDescriptor m_M_up.1.desc).map (fun d => d.parameters.length) = some 2) := ⟨⟨rfl, by decide +kernel, by decide +kernel⟩, by decide +kernel⟩
theorem k_M_priority : (m_M_priority.2.2.2.2.2 = some [] ∧ Cond.code m_M_priority.1 m_M_priority.2.1 m_M_priority.2.2.1 m_M_priority.2.2.2.1 ∈ gt ∧ Cond.initialized m_M_priority.1.cls ∈ gt) ∧ (m_M_priority.1.cls ≠ "java/lang/invoke/MethodHandle" ∧ m_M_priority.1.cls ≠ "java/lang/invoke/VarHandle" ∧ (parseMethodDescriptor m_M_priority.1.desc).map (fun d => d.parameters.length) = some 2) := ⟨⟨rfl, by decide +kernel, by decide +kernel⟩, by decide +kernel⟩
theorem k_M_round : (m_M_round.2.2.2.2.2 = some [] ∧ Cond.code m_M_round.1 m_M_round.2.1 m_M_round.2.2.1 m_M_round.2.2.2.1 ∈ gt ∧ Cond.initialized m_M_round.1.cls ∈ gt) ∧ (m_M_round.1.cls ≠ "java/lang/invoke/MethodHandle" ∧ m_M_round.1.cls ≠ "java/lang/invoke/VarHandle" ∧ (parseMethodDescriptor m_M_round.1.desc).map (fun d => d.parameters.length) = some 1) := ⟨⟨rfl, by decide +kernel, by decide +kernel⟩, by decide +kernel⟩
theorem k_M_pass : (m_M_pass.2.2.2.2.2 = some [] ∧ Cond.code m_M_pass.1 m_M_pass.2.1 m_M_pass.2.2.1 m_M_pass.2.2.2.1 ∈ gt ∧ Cond.initialized m_M_pass.1.cls ∈ gt) ∧ (m_M_pass.1.cls ≠ "java/lang/invoke/MethodHandle" ∧ m_M_pass.1.cls ≠ "java/lang/invoke/VarHandle" ∧ (parseMethodDescriptor m_M_pass.1.desc).map (fun d => d.parameters.length) = some 0) := ⟨⟨rfl, by decide +kernel, by decide +kernel⟩, by decide +kernel⟩
theorem k_M_sendAll : (m_M_sendAll.2.2.2.2.2 = some [] ∧ Cond.code m_M_sendAll.1 m_M_sendAll.2.1 m_M_sendAll.2.2.1 m_M_sendAll.2.2.2.1 ∈ gt ∧ Cond.initialized m_M_sendAll.1.cls ∈ gt) ∧ (m_M_sendAll.1.cls ≠ "java/lang/invoke/MethodHandle" ∧ m_M_sendAll.1.cls ≠ "java/lang/invoke/VarHandle" ∧ (parseMethodDescriptor m_M_sendAll.1.desc).map (fun d => d.parameters.length) = some 0) := ⟨⟨rfl, by decide +kernel, by decide +kernel⟩, by decide +kernel⟩
theorem k_M_across : (m_M_across.2.2.2.2.2 = some [] ∧ Cond.code m_M_across.1 m_M_across.2.1 m_M_across.2.2.1 m_M_across.2.2.2.1 ∈ gt ∧ Cond.initialized m_M_across.1.cls ∈ gt) ∧ (m_M_across.1.cls ≠ "java/lang/invoke/MethodHandle" ∧ m_M_across.1.cls ≠ "java/lang/invoke/VarHandle" ∧ (parseMethodDescriptor m_M_across.1.desc).map (fun d => d.parameters.length) = some 1) := ⟨⟨rfl, by decide +kernel, by decide +kernel⟩, by decide +kernel⟩
theorem k_M_endOf : (m_M_endOf.2.2.2.2.2 = some [] ∧ Cond.code m_M_endOf.1 m_M_endOf.2.1 m_M_endOf.2.2.1 m_M_endOf.2.2.2.1 ∈ gt ∧ Cond.initialized m_M_endOf.1.cls ∈ gt) ∧ (m_M_endOf.1.cls ≠ "java/lang/invoke/MethodHandle" ∧ m_M_endOf.1.cls ≠ "java/lang/invoke/VarHandle" ∧ (parseMethodDescriptor m_M_endOf.1.desc).map (fun d => d.parameters.length) = some 1) := ⟨⟨rfl, by decide +kernel, by decide +kernel⟩, by decide +kernel⟩
theorem k_M_hear : (m_M_hear.2.2.2.2.2 = some [] ∧ Cond.code m_M_hear.1 m_M_hear.2.1 m_M_hear.2.2.1 m_M_hear.2.2.2.1 ∈ gt ∧ Cond.initialized m_M_hear.1.cls ∈ gt) ∧ (m_M_hear.1.cls ≠ "java/lang/invoke/MethodHandle" ∧ m_M_hear.1.cls ≠ "java/lang/invoke/VarHandle" ∧ (parseMethodDescriptor m_M_hear.1.desc).map (fun d => d.parameters.length) = some 1) := ⟨⟨rfl, by decide +kernel, by decide +kernel⟩, by decide +kernel⟩
theorem k_M_settle : (m_M_settle.2.2.2.2.2 = some [] ∧ Cond.code m_M_settle.1 m_M_settle.2.1 m_M_settle.2.2.1 m_M_settle.2.2.2.1 ∈ gt ∧ Cond.initialized m_M_settle.1.cls ∈ gt) ∧ (m_M_settle.1.cls ≠ "java/lang/invoke/MethodHandle" ∧ m_M_settle.1.cls ≠ "java/lang/invoke/VarHandle" ∧ (parseMethodDescriptor m_M_settle.1.desc).map (fun d => d.parameters.length) = some 0) := ⟨⟨rfl, by decide +kernel, by decide +kernel⟩, by decide +kernel⟩
theorem k_M_remember : (m_M_remember.2.2.2.2.2 = some [] ∧ Cond.code m_M_remember.1 m_M_remember.2.1 m_M_remember.2.2.1 m_M_remember.2.2.2.1 ∈ gt ∧ Cond.initialized m_M_remember.1.cls ∈ gt) ∧ (m_M_remember.1.cls ≠ "java/lang/invoke/MethodHandle" ∧ m_M_remember.1.cls ≠ "java/lang/invoke/VarHandle" ∧ (parseMethodDescriptor m_M_remember.1.desc).map (fun d => d.parameters.length) = some 0) := ⟨⟨rfl, by decide +kernel, by decide +kernel⟩, by decide +kernel⟩
theorem k_M_isAsBefore : (m_M_isAsBefore.2.2.2.2.2 = some [] ∧ Cond.code m_M_isAsBefore.1 m_M_isAsBefore.2.1 m_M_isAsBefore.2.2.1 m_M_isAsBefore.2.2.2.1 ∈ gt ∧ Cond.initialized m_M_isAsBefore.1.cls ∈ gt) ∧ (m_M_isAsBefore.1.cls ≠ "java/lang/invoke/MethodHandle" ∧ m_M_isAsBefore.1.cls ≠ "java/lang/invoke/VarHandle" ∧ (parseMethodDescriptor m_M_isAsBefore.1.desc).map (fun d => d.parameters.length) = some 0) := ⟨⟨rfl, by decide +kernel, by decide +kernel⟩, by decide +kernel⟩
theorem k_M_state : (m_M_state.2.2.2.2.2 = some [] ∧ Cond.code m_M_state.1 m_M_state.2.1 m_M_state.2.2.1 m_M_state.2.2.2.1 ∈ gt ∧ Cond.initialized m_M_state.1.cls ∈ gt) ∧ (m_M_state.1.cls ≠ "java/lang/invoke/MethodHandle" ∧ m_M_state.1.cls ≠ "java/lang/invoke/VarHandle" ∧ (parseMethodDescriptor m_M_state.1.desc).map (fun d => d.parameters.length) = some 2) := ⟨⟨rfl, by decide +kernel, by decide +kernel⟩, by decide +kernel⟩
theorem k_M_root : (m_M_root.2.2.2.2.2 = some [] ∧ Cond.code m_M_root.1 m_M_root.2.1 m_M_root.2.2.1 m_M_root.2.2.2.1 ∈ gt ∧ Cond.initialized m_M_root.1.cls ∈ gt) ∧ (m_M_root.1.cls ≠ "java/lang/invoke/MethodHandle" ∧ m_M_root.1.cls ≠ "java/lang/invoke/VarHandle" ∧ (parseMethodDescriptor m_M_root.1.desc).map (fun d => d.parameters.length) = some 1) := ⟨⟨rfl, by decide +kernel, by decide +kernel⟩, by decide +kernel⟩
theorem k_M_steps : (m_M_steps.2.2.2.2.2 = some [] ∧ Cond.code m_M_steps.1 m_M_steps.2.1 m_M_steps.2.2.1 m_M_steps.2.2.2.1 ∈ gt ∧ Cond.initialized m_M_steps.1.cls ∈ gt) ∧ (m_M_steps.1.cls ≠ "java/lang/invoke/MethodHandle" ∧ m_M_steps.1.cls ≠ "java/lang/invoke/VarHandle" ∧ (parseMethodDescriptor m_M_steps.1.desc).map (fun d => d.parameters.length) = some 1) := ⟨⟨rfl, by decide +kernel, by decide +kernel⟩, by decide +kernel⟩
theorem k_M_stepsOf : (m_M_stepsOf.2.2.2.2.2 = some [] ∧ Cond.code m_M_stepsOf.1 m_M_stepsOf.2.1 m_M_stepsOf.2.2.1 m_M_stepsOf.2.2.2.1 ∈ gt ∧ Cond.initialized m_M_stepsOf.1.cls ∈ gt) ∧ (m_M_stepsOf.1.cls ≠ "java/lang/invoke/MethodHandle" ∧ m_M_stepsOf.1.cls ≠ "java/lang/invoke/VarHandle" ∧ (parseMethodDescriptor m_M_stepsOf.1.desc).map (fun d => d.parameters.length) = some 1) := ⟨⟨rfl, by decide +kernel, by decide +kernel⟩, by decide +kernel⟩
theorem k_M_kept : (m_M_kept.2.2.2.2.2 = some [] ∧ Cond.code m_M_kept.1 m_M_kept.2.1 m_M_kept.2.2.1 m_M_kept.2.2.2.1 ∈ gt ∧ Cond.initialized m_M_kept.1.cls ∈ gt) ∧ (m_M_kept.1.cls ≠ "java/lang/invoke/MethodHandle" ∧ m_M_kept.1.cls ≠ "java/lang/invoke/VarHandle" ∧ (parseMethodDescriptor m_M_kept.1.desc).map (fun d => d.parameters.length) = some 2) := ⟨⟨rfl, by decide +kernel, by decide +kernel⟩, by decide +kernel⟩
theorem k_M_exchange : (m_M_exchange.2.2.2.2.2 = some [] ∧ Cond.code m_M_exchange.1 m_M_exchange.2.1 m_M_exchange.2.2.1 m_M_exchange.2.2.2.1 ∈ gt ∧ Cond.initialized m_M_exchange.1.cls ∈ gt) ∧ (m_M_exchange.1.cls ≠ "java/lang/invoke/MethodHandle" ∧ m_M_exchange.1.cls ≠ "java/lang/invoke/VarHandle" ∧ (parseMethodDescriptor m_M_exchange.1.desc).map (fun d => d.parameters.length) = some 4) := ⟨⟨rfl, by decide +kernel, by decide +kernel⟩, by decide +kernel⟩
theorem k_M_noRest : (m_M_noRest.2.2.2.2.2 = some [] ∧ Cond.code m_M_noRest.1 m_M_noRest.2.1 m_M_noRest.2.2.1 m_M_noRest.2.2.2.1 ∈ gt ∧ Cond.initialized m_M_noRest.1.cls ∈ gt) ∧ (m_M_noRest.1.cls ≠ "java/lang/invoke/MethodHandle" ∧ m_M_noRest.1.cls ≠ "java/lang/invoke/VarHandle" ∧ (parseMethodDescriptor m_M_noRest.1.desc).map (fun d => d.parameters.length) = some 1) := ⟨⟨rfl, by decide +kernel, by decide +kernel⟩, by decide +kernel⟩
theorem k_M_canSwap : (m_M_canSwap.2.2.2.2.2 = some [] ∧ Cond.code m_M_canSwap.1 m_M_canSwap.2.1 m_M_canSwap.2.2.1 m_M_canSwap.2.2.2.1 ∈ gt ∧ Cond.initialized m_M_canSwap.1.cls ∈ gt) ∧ (m_M_canSwap.1.cls ≠ "java/lang/invoke/MethodHandle" ∧ m_M_canSwap.1.cls ≠ "java/lang/invoke/VarHandle" ∧ (parseMethodDescriptor m_M_canSwap.1.desc).map (fun d => d.parameters.length) = some 1) := ⟨⟨rfl, by decide +kernel, by decide +kernel⟩, by decide +kernel⟩
theorem k_M_swap : (m_M_swap.2.2.2.2.2 = some [] ∧ Cond.code m_M_swap.1 m_M_swap.2.1 m_M_swap.2.2.1 m_M_swap.2.2.2.1 ∈ gt ∧ Cond.initialized m_M_swap.1.cls ∈ gt) ∧ (m_M_swap.1.cls ≠ "java/lang/invoke/MethodHandle" ∧ m_M_swap.1.cls ≠ "java/lang/invoke/VarHandle" ∧ (parseMethodDescriptor m_M_swap.1.desc).map (fun d => d.parameters.length) = some 4) := ⟨⟨rfl, by decide +kernel, by decide +kernel⟩, by decide +kernel⟩
theorem k_M_sum : (m_M_sum.2.2.2.2.2 = some [] ∧ Cond.code m_M_sum.1 m_M_sum.2.1 m_M_sum.2.2.1 m_M_sum.2.2.2.1 ∈ gt ∧ Cond.initialized m_M_sum.1.cls ∈ gt) ∧ (m_M_sum.1.cls ≠ "java/lang/invoke/MethodHandle" ∧ m_M_sum.1.cls ≠ "java/lang/invoke/VarHandle" ∧ (parseMethodDescriptor m_M_sum.1.desc).map (fun d => d.parameters.length) = some 2) := ⟨⟨rfl, by decide +kernel, by decide +kernel⟩, by decide +kernel⟩
theorem k_M_difference : (m_M_difference.2.2.2.2.2 = some [] ∧ Cond.code m_M_difference.1 m_M_difference.2.1 m_M_difference.2.2.1 m_M_difference.2.2.2.1 ∈ gt ∧ Cond.initialized m_M_difference.1.cls ∈ gt) ∧ (m_M_difference.1.cls ≠ "java/lang/invoke/MethodHandle" ∧ m_M_difference.1.cls ≠ "java/lang/invoke/VarHandle" ∧ (parseMethodDescriptor m_M_difference.1.desc).map (fun d => d.parameters.length) = some 2) := ⟨⟨rfl, by decide +kernel, by decide +kernel⟩, by decide +kernel⟩
theorem k_M_delay : (m_M_delay.2.2.2.2.2 = some [] ∧ Cond.code m_M_delay.1 m_M_delay.2.1 m_M_delay.2.2.1 m_M_delay.2.2.2.1 ∈ gt ∧ Cond.initialized m_M_delay.1.cls ∈ gt) ∧ (m_M_delay.1.cls ≠ "java/lang/invoke/MethodHandle" ∧ m_M_delay.1.cls ≠ "java/lang/invoke/VarHandle" ∧ (parseMethodDescriptor m_M_delay.1.desc).map (fun d => d.parameters.length) = some 1) := ⟨⟨rfl, by decide +kernel, by decide +kernel⟩, by decide +kernel⟩
theorem k_M_offset : (m_M_offset.2.2.2.2.2 = some [] ∧ Cond.code m_M_offset.1 m_M_offset.2.1 m_M_offset.2.2.1 m_M_offset.2.2.2.1 ∈ gt ∧ Cond.initialized m_M_offset.1.cls ∈ gt) ∧ (m_M_offset.1.cls ≠ "java/lang/invoke/MethodHandle" ∧ m_M_offset.1.cls ≠ "java/lang/invoke/VarHandle" ∧ (parseMethodDescriptor m_M_offset.1.desc).map (fun d => d.parameters.length) = some 1) := ⟨⟨rfl, by decide +kernel, by decide +kernel⟩, by decide +kernel⟩
theorem k_M_discipline : (m_M_discipline.2.2.2.2.2 = some [] ∧ Cond.code m_M_discipline.1 m_M_discipline.2.1 m_M_discipline.2.2.1 m_M_discipline.2.2.2.1 ∈ gt ∧ Cond.initialized m_M_discipline.1.cls ∈ gt) ∧ (m_M_discipline.1.cls ≠ "java/lang/invoke/MethodHandle" ∧ m_M_discipline.1.cls ≠ "java/lang/invoke/VarHandle" ∧ (parseMethodDescriptor m_M_discipline.1.desc).map (fun d => d.parameters.length) = some 1) := ⟨⟨rfl, by decide +kernel, by decide +kernel⟩, by decide +kernel⟩
theorem ol_T_1 : Cond.methodLink R_T 1 Lib.objectInit ∈ gt := by decide +kernel
theorem ii_R_init : Cond.instanceMethod m_R_init.1 ∈ gt ∧ m_R_init.1.name = "<init>" ∧ m_R_init.2.2.2.1 = none := ⟨by decide +kernel, rfl, rfl⟩
theorem nl_T_23 : ∃ host, Cond.methodLinkNest R_T 23 m_R_init.1 host ∈ nstT := ⟨"ClockTree", by decide +kernel⟩
theorem ol_R_3 : Cond.methodLink R_R 3 Lib.objectInit ∈ gt := by decide +kernel
theorem iv_T_playRound : Cond.instanceMethod m_T_playRound.1 ∈ gt ∧ Cond.selects m_T_playRound.1.cls m_T_playRound.1 m_T_playRound.1 ∈ gt := by decide +kernel
theorem ml_T_119 : Cond.methodLink R_T 119 m_T_playRound.1 ∈ gt := by decide +kernel
theorem cb_T_settle_119 : CB m_T_settle m_T_playRound 119 0 := ⟨ml_T_119, k_T_playRound.1, k_T_playRound.2, by decide⟩
theorem iv_T_hearAtPorts : Cond.instanceMethod m_T_hearAtPorts.1 ∈ gt ∧ Cond.selects m_T_hearAtPorts.1.cls m_T_hearAtPorts.1 m_T_hearAtPorts.1 ∈ gt := by decide +kernel
theorem ml_T_181 : Cond.methodLink R_T 181 m_T_hearAtPorts.1 ∈ gt := by decide +kernel
theorem cb_T_playRound_181 : CB m_T_playRound m_T_hearAtPorts 181 1 := ⟨ml_T_181, k_T_hearAtPorts.1, k_T_hearAtPorts.2, by decide⟩
theorem iv_N_findStates : Cond.instanceMethod m_N_findStates.1 ∈ gt ∧ Cond.selects m_N_findStates.1.cls m_N_findStates.1 m_N_findStates.1 ∈ gt := by decide +kernel
theorem ml_T_74 : Cond.methodLink R_T 74 m_N_findStates.1 ∈ gt := by decide +kernel
theorem cb_T_playRound_74 : CB m_T_playRound m_N_findStates 74 0 := ⟨ml_T_74, k_N_findStates.1, k_N_findStates.2, by decide⟩
theorem iv_P_findSender : Cond.instanceMethod m_P_findSender.1 ∈ gt ∧ Cond.selects m_P_findSender.1.cls m_P_findSender.1 m_P_findSender.1 ∈ gt := by decide +kernel
theorem ml_T_185 : Cond.methodLink R_T 185 m_P_findSender.1 ∈ gt := by decide +kernel
theorem cb_T_hearAtPorts_185 : CB m_T_hearAtPorts m_P_findSender 185 0 := ⟨ml_T_185, k_P_findSender.1, k_P_findSender.2, by decide⟩
theorem iv_N_accepts : Cond.instanceMethod m_N_accepts.1 ∈ gt ∧ Cond.selects m_N_accepts.1.cls m_N_accepts.1 m_N_accepts.1 ∈ gt := by decide +kernel
theorem ml_T_192 : Cond.methodLink R_T 192 m_N_accepts.1 ∈ gt := by decide +kernel
theorem cb_T_hearAtPorts_192 : CB m_T_hearAtPorts m_N_accepts 192 1 := ⟨ml_T_192, k_N_accepts.1, k_N_accepts.2, by decide⟩
theorem iv_P_keep : Cond.instanceMethod m_P_keep.1 ∈ gt ∧ Cond.selects m_P_keep.1.cls m_P_keep.1 m_P_keep.1 ∈ gt := by decide +kernel
theorem ml_T_196 : Cond.methodLink R_T 196 m_P_keep.1 ∈ gt := by decide +kernel
theorem cb_T_hearAtPorts_196 : CB m_T_hearAtPorts m_P_keep 196 1 := ⟨ml_T_196, k_P_keep.1, k_P_keep.2, by decide⟩
theorem iv_P_growOlder : Cond.instanceMethod m_P_growOlder.1 ∈ gt ∧ Cond.selects m_P_growOlder.1.cls m_P_growOlder.1 m_P_growOlder.1 ∈ gt := by decide +kernel
theorem ml_T_199 : Cond.methodLink R_T 199 m_P_growOlder.1 ∈ gt := by decide +kernel
theorem cb_T_hearAtPorts_199 : CB m_T_hearAtPorts m_P_growOlder 199 0 := ⟨ml_T_199, k_P_growOlder.1, k_P_growOlder.2, by decide⟩
theorem iv_K_farFrom : Cond.instanceMethod m_K_farFrom.1 ∈ gt ∧ Cond.selects m_K_farFrom.1.cls m_K_farFrom.1 m_K_farFrom.1 ∈ gt := by decide +kernel
theorem ml_P_47 : Cond.methodLink R_P 47 m_K_farFrom.1 ∈ gt := by decide +kernel
theorem cb_P_findSender_47 : CB m_P_findSender m_K_farFrom 47 1 := ⟨ml_P_47, k_K_farFrom.1, k_K_farFrom.2, by decide⟩
theorem iv_D_tellsSameAs : Cond.instanceMethod m_D_tellsSameAs.1 ∈ gt ∧ Cond.selects m_D_tellsSameAs.1.cls m_D_tellsSameAs.1 m_D_tellsSameAs.1 ∈ gt := by decide +kernel
theorem ml_P_51 : Cond.methodLink R_P 51 m_D_tellsSameAs.1 ∈ gt := by decide +kernel
theorem cb_P_keep_51 : CB m_P_keep m_D_tellsSameAs 51 1 := ⟨ml_P_51, k_D_tellsSameAs.1, k_D_tellsSameAs.2, by decide⟩
theorem iv_D_setRootOf : Cond.instanceMethod m_D_setRootOf.1 ∈ gt ∧ Cond.selects m_D_setRootOf.1.cls m_D_setRootOf.1 m_D_setRootOf.1 ∈ gt := by decide +kernel
theorem ml_P_55 : Cond.methodLink R_P 55 m_D_setRootOf.1 ∈ gt := by decide +kernel
theorem cb_P_keep_55 : CB m_P_keep m_D_setRootOf 55 1 := ⟨ml_P_55, k_D_setRootOf.1, k_D_setRootOf.2, by decide⟩
theorem iv_N_findBest : Cond.instanceMethod m_N_findBest.1 ∈ gt ∧ Cond.selects m_N_findBest.1.cls m_N_findBest.1 m_N_findBest.1 ∈ gt := by decide +kernel
theorem ml_N_49 : Cond.methodLink R_N 49 m_N_findBest.1 ∈ gt := by decide +kernel
theorem cb_N_findStates_49 : CB m_N_findStates m_N_findBest 49 0 := ⟨ml_N_49, k_N_findBest.1, k_N_findBest.2, by decide⟩
theorem iv_P_tell : Cond.instanceMethod m_P_tell.1 ∈ gt ∧ Cond.selects m_P_tell.1.cls m_P_tell.1 m_P_tell.1 ∈ gt := by decide +kernel
theorem ml_N_53 : Cond.methodLink R_N 53 m_P_tell.1 ∈ gt := by decide +kernel
theorem cb_N_findStates_53 : CB m_N_findStates m_P_tell 53 2 := ⟨ml_N_53, k_P_tell.1, k_P_tell.2, by decide⟩
theorem iv_P_findState : Cond.instanceMethod m_P_findState.1 ∈ gt ∧ Cond.selects m_P_findState.1.cls m_P_findState.1 m_P_findState.1 ∈ gt := by decide +kernel
theorem ml_N_57 : Cond.methodLink R_N 57 m_P_findState.1 ∈ gt := by decide +kernel
theorem cb_N_findStates_57 : CB m_N_findStates m_P_findState 57 1 := ⟨ml_N_57, k_P_findState.1, k_P_findState.2, by decide⟩
theorem iv_D_betterThan : Cond.instanceMethod m_D_betterThan.1 ∈ gt ∧ Cond.selects m_D_betterThan.1.cls m_D_betterThan.1 m_D_betterThan.1 ∈ gt := by decide +kernel
theorem ml_N_71 : Cond.methodLink R_N 71 m_D_betterThan.1 ∈ gt := by decide +kernel
theorem cb_N_findBest_71 : CB m_N_findBest m_D_betterThan 71 1 := ⟨ml_N_71, k_D_betterThan.1, k_D_betterThan.2, by decide⟩
theorem cb_P_tell_55 : CB m_P_tell m_D_setRootOf 55 1 := ⟨ml_P_55, k_D_setRootOf.1, k_D_setRootOf.2, by decide⟩
theorem ml_P_74 : Cond.methodLink R_P 74 m_D_betterThan.1 ∈ gt := by decide +kernel
theorem cb_P_findState_74 : CB m_P_findState m_D_betterThan 74 1 := ⟨ml_P_74, k_D_betterThan.1, k_D_betterThan.2, by decide⟩
theorem iv_T_setsClock : Cond.instanceMethod m_T_setsClock.1 ∈ gt ∧ Cond.selects m_T_setsClock.1.cls m_T_setsClock.1 m_T_setsClock.1 ∈ gt := by decide +kernel
theorem ml_T_169 : Cond.methodLink R_T 169 m_T_setsClock.1 ∈ gt := by decide +kernel
theorem cb_T_discipline_169 : CB m_T_discipline m_T_setsClock 169 2 := ⟨ml_T_169, k_T_setsClock.1, k_T_setsClock.2, by decide⟩
theorem is_T_openSlaveOf : Cond.static m_T_openSlaveOf.1 ∈ gt := by decide +kernel
theorem ml_T_144 : Cond.methodLink R_T 144 m_T_openSlaveOf.1 ∈ gt := by decide +kernel
theorem cb_T_setsClock_144 : CB m_T_setsClock m_T_openSlaveOf 144 1 := ⟨ml_T_144, k_T_openSlaveOf.1, k_T_openSlaveOf.2, by decide⟩
theorem iv_T_setClock : Cond.instanceMethod m_T_setClock.1 ∈ gt ∧ Cond.selects m_T_setClock.1.cls m_T_setClock.1 m_T_setClock.1 ∈ gt := by decide +kernel
theorem ml_T_150 : Cond.methodLink R_T 150 m_T_setClock.1 ∈ gt := by decide +kernel
theorem cb_T_setsClock_150 : CB m_T_setsClock m_T_setClock 150 5 := ⟨ml_T_150, k_T_setClock.1, k_T_setClock.2, by decide⟩
theorem ml_T_205 : Cond.methodLink R_T 205 m_K_farFrom.1 ∈ gt := by decide +kernel
theorem cb_T_setClock_205 : CB m_T_setClock m_K_farFrom 205 1 := ⟨ml_T_205, k_K_farFrom.1, k_K_farFrom.2, by decide⟩
theorem iv_K_delayTo : Cond.instanceMethod m_K_delayTo.1 ∈ gt ∧ Cond.selects m_K_delayTo.1.cls m_K_delayTo.1 m_K_delayTo.1 ∈ gt := by decide +kernel
theorem ml_T_212 : Cond.methodLink R_T 212 m_K_delayTo.1 ∈ gt := by decide +kernel
theorem cb_T_setClock_212 : CB m_T_setClock m_K_delayTo 212 1 := ⟨ml_T_212, k_K_delayTo.1, k_K_delayTo.2, by decide⟩
theorem iv_K_delayFrom : Cond.instanceMethod m_K_delayFrom.1 ∈ gt ∧ Cond.selects m_K_delayFrom.1.cls m_K_delayFrom.1 m_K_delayFrom.1 ∈ gt := by decide +kernel
theorem ml_T_216 : Cond.methodLink R_T 216 m_K_delayFrom.1 ∈ gt := by decide +kernel
theorem cb_T_setClock_216 : CB m_T_setClock m_K_delayFrom 216 1 := ⟨ml_T_216, k_K_delayFrom.1, k_K_delayFrom.2, by decide⟩
theorem iv_R_noteTimes : Cond.instanceMethod m_R_noteTimes.1 ∈ gt ∧ Cond.selects m_R_noteTimes.1.cls m_R_noteTimes.1 m_R_noteTimes.1 ∈ gt := by decide +kernel
theorem ml_T_219 : Cond.methodLink R_T 219 m_R_noteTimes.1 ∈ gt := by decide +kernel
theorem cb_T_setClock_219 : CB m_T_setClock m_R_noteTimes 219 3 := ⟨ml_T_219, k_R_noteTimes.1, k_R_noteTimes.2, by decide⟩
theorem iv_R_noteClocks : Cond.instanceMethod m_R_noteClocks.1 ∈ gt ∧ Cond.selects m_R_noteClocks.1.cls m_R_noteClocks.1 m_R_noteClocks.1 ∈ gt := by decide +kernel
theorem ml_T_223 : Cond.methodLink R_T 223 m_R_noteClocks.1 ∈ gt := by decide +kernel
theorem cb_T_setClock_223 : CB m_T_setClock m_R_noteClocks 223 2 := ⟨ml_T_223, k_R_noteClocks.1, k_R_noteClocks.2, by decide⟩
theorem iv_R_find : Cond.instanceMethod m_R_find.1 ∈ gt ∧ Cond.selects m_R_find.1.cls m_R_find.1 m_R_find.1 ∈ gt := by decide +kernel
theorem ml_T_227 : Cond.methodLink R_T 227 m_R_find.1 ∈ gt := by decide +kernel
theorem cb_T_setClock_227 : CB m_T_setClock m_R_find 227 3 := ⟨ml_T_227, k_R_find.1, k_R_find.2, by decide⟩
theorem iv_R_plus : Cond.instanceMethod m_R_plus.1 ∈ gt ∧ Cond.selects m_R_plus.1.cls m_R_plus.1 m_R_plus.1 ∈ gt := by decide +kernel
theorem ml_R_19 : Cond.methodLink R_R 19 m_R_plus.1 ∈ gt := by decide +kernel
theorem cb_R_noteTimes_19 : CB m_R_noteTimes m_R_plus 19 2 := ⟨ml_R_19, k_R_plus.1, k_R_plus.2, by decide⟩
theorem cb_R_noteClocks_19 : CB m_R_noteClocks m_R_plus 19 2 := ⟨ml_R_19, k_R_plus.1, k_R_plus.2, by decide⟩
theorem iv_R_minus : Cond.instanceMethod m_R_minus.1 ∈ gt ∧ Cond.selects m_R_minus.1.cls m_R_minus.1 m_R_minus.1 ∈ gt := by decide +kernel
theorem ml_R_46 : Cond.methodLink R_R 46 m_R_minus.1 ∈ gt := by decide +kernel
theorem cb_R_find_46 : CB m_R_find m_R_minus 46 2 := ⟨ml_R_46, k_R_minus.1, k_R_minus.2, by decide⟩
theorem cb_R_find_19 : CB m_R_find m_R_plus 19 2 := ⟨ml_R_19, k_R_plus.1, k_R_plus.2, by decide⟩
theorem iv_T_node : Cond.instanceMethod m_T_node.1 ∈ gt ∧ Cond.selects m_T_node.1.cls m_T_node.1 m_T_node.1 ∈ gt := by decide +kernel
theorem ml_L_7 : Cond.methodLink R_L 7 m_T_node.1 ∈ gt := by decide +kernel
theorem cb_L_node_7 : CB m_L_node m_T_node 7 5 := ⟨ml_L_7, k_T_node.1, k_T_node.2, by decide⟩
theorem is_T_isWithin : Cond.static m_T_isWithin.1 ∈ gt := by decide +kernel
theorem ml_T_39 : Cond.methodLink R_T 39 m_T_isWithin.1 ∈ gt := by decide +kernel
theorem cb_T_node_39 : CB m_T_node m_T_isWithin 39 2 := ⟨ml_T_39, k_T_isWithin.1, k_T_isWithin.2, by decide⟩
theorem iv_T_hasIdentity : Cond.instanceMethod m_T_hasIdentity.1 ∈ gt ∧ Cond.selects m_T_hasIdentity.1.cls m_T_hasIdentity.1 m_T_hasIdentity.1 ∈ gt := by decide +kernel
theorem ml_T_50 : Cond.methodLink R_T 50 m_T_hasIdentity.1 ∈ gt := by decide +kernel
theorem cb_T_node_50 : CB m_T_node m_T_hasIdentity 50 1 := ⟨ml_T_50, k_T_hasIdentity.1, k_T_hasIdentity.2, by decide⟩
theorem ii_N_init : Cond.instanceMethod m_N_init.1 ∈ gt ∧ m_N_init.1.name = "<init>" ∧ m_N_init.2.2.2.1 = none := ⟨by decide +kernel, rfl, rfl⟩
theorem ml_T_61 : Cond.methodLink R_T 61 m_N_init.1 ∈ gt := by decide +kernel
theorem cb_T_node_61 : CB m_T_node m_N_init 61 2 := ⟨ml_T_61, k_N_init.1, k_N_init.2, by decide⟩
theorem iv_D_setOwn : Cond.instanceMethod m_D_setOwn.1 ∈ gt ∧ Cond.selects m_D_setOwn.1.cls m_D_setOwn.1 m_D_setOwn.1 ∈ gt := by decide +kernel
theorem ml_T_68 : Cond.methodLink R_T 68 m_D_setOwn.1 ∈ gt := by decide +kernel
theorem cb_T_node_68 : CB m_T_node m_D_setOwn 68 4 := ⟨ml_T_68, k_D_setOwn.1, k_D_setOwn.2, by decide⟩
theorem cb_T_node_74 : CB m_T_node m_N_findStates 74 0 := ⟨ml_T_74, k_N_findStates.1, k_N_findStates.2, by decide⟩
theorem ol_N_3 : Cond.methodLink R_N 3 Lib.objectInit ∈ gt := by decide +kernel
theorem ii_D_init : Cond.instanceMethod m_D_init.1 ∈ gt ∧ m_D_init.1.name = "<init>" ∧ m_D_init.2.2.2.1 = none := ⟨by decide +kernel, rfl, rfl⟩
theorem nl_N_26 : ∃ host, Cond.methodLinkNest R_N 26 m_D_init.1 host ∈ nstT := ⟨"ClockTree", by decide +kernel⟩
theorem ii_P_init : Cond.instanceMethod m_P_init.1 ∈ gt ∧ m_P_init.1.name = "<init>" ∧ m_P_init.2.2.2.1 = none := ⟨by decide +kernel, rfl, rfl⟩
theorem ml_N_40 : Cond.methodLink R_N 40 m_P_init.1 ∈ gt := by decide +kernel
theorem cb_N_init_40 : CB m_N_init m_P_init 40 2 := ⟨ml_N_40, k_P_init.1, k_P_init.2, by decide⟩
theorem ol_D_3 : Cond.methodLink R_D 3 Lib.objectInit ∈ gt := by decide +kernel
theorem ol_P_3 : Cond.methodLink R_P 3 Lib.objectInit ∈ gt := by decide +kernel
theorem nl_P_20 : ∃ host, Cond.methodLinkNest R_P 20 m_D_init.1 host ∈ nstT := ⟨"ClockTree", by decide +kernel⟩
theorem iv_T_link : Cond.instanceMethod m_T_link.1 ∈ gt ∧ Cond.selects m_T_link.1.cls m_T_link.1 m_T_link.1 ∈ gt := by decide +kernel
theorem ml_L_17 : Cond.methodLink R_L 17 m_T_link.1 ∈ gt := by decide +kernel
theorem cb_L_link_17 : CB m_L_link m_T_link 17 6 := ⟨ml_L_17, k_T_link.1, k_T_link.2, by decide⟩
theorem iv_T_portAt : Cond.instanceMethod m_T_portAt.1 ∈ gt ∧ Cond.selects m_T_portAt.1.cls m_T_portAt.1 m_T_portAt.1 ∈ gt := by decide +kernel
theorem ml_T_81 : Cond.methodLink R_T 81 m_T_portAt.1 ∈ gt := by decide +kernel
theorem cb_T_link_81 : CB m_T_link m_T_portAt 81 2 := ⟨ml_T_81, k_T_portAt.1, k_T_portAt.2, by decide⟩
theorem cb_T_link_39 : CB m_T_link m_T_isWithin 39 2 := ⟨ml_T_39, k_T_isWithin.1, k_T_isWithin.2, by decide⟩
theorem ii_K_init : Cond.instanceMethod m_K_init.1 ∈ gt ∧ m_K_init.1.name = "<init>" ∧ m_K_init.2.2.2.1 = none := ⟨by decide +kernel, rfl, rfl⟩
theorem ml_T_100 : Cond.methodLink R_T 100 m_K_init.1 ∈ gt := by decide +kernel
theorem cb_T_link_100 : CB m_T_link m_K_init 100 4 := ⟨ml_T_100, k_K_init.1, k_K_init.2, by decide⟩
theorem cb_T_link_74 : CB m_T_link m_N_findStates 74 0 := ⟨ml_T_74, k_N_findStates.1, k_N_findStates.2, by decide⟩
theorem iv_T_nodeAt : Cond.instanceMethod m_T_nodeAt.1 ∈ gt ∧ Cond.selects m_T_nodeAt.1.cls m_T_nodeAt.1 m_T_nodeAt.1 ∈ gt := by decide +kernel
theorem ml_T_108 : Cond.methodLink R_T 108 m_T_nodeAt.1 ∈ gt := by decide +kernel
theorem cb_T_portAt_108 : CB m_T_portAt m_T_nodeAt 108 1 := ⟨ml_T_108, k_T_nodeAt.1, k_T_nodeAt.2, by decide⟩
theorem ol_K_1 : Cond.methodLink R_K 1 Lib.objectInit ∈ gt := by decide +kernel
theorem iv_T_up : Cond.instanceMethod m_T_up.1 ∈ gt ∧ Cond.selects m_T_up.1.cls m_T_up.1 m_T_up.1 ∈ gt := by decide +kernel
theorem ml_L_21 : Cond.methodLink R_L 21 m_T_up.1 ∈ gt := by decide +kernel
theorem cb_L_up_21 : CB m_L_up m_T_up 21 2 := ⟨ml_L_21, k_T_up.1, k_T_up.2, by decide⟩
theorem iv_T_priority : Cond.instanceMethod m_T_priority.1 ∈ gt ∧ Cond.selects m_T_priority.1.cls m_T_priority.1 m_T_priority.1 ∈ gt := by decide +kernel
theorem ml_L_25 : Cond.methodLink R_L 25 m_T_priority.1 ∈ gt := by decide +kernel
theorem cb_L_priority_25 : CB m_L_priority m_T_priority 25 2 := ⟨ml_L_25, k_T_priority.1, k_T_priority.2, by decide⟩
theorem cb_T_priority_108 : CB m_T_priority m_T_nodeAt 108 1 := ⟨ml_T_108, k_T_nodeAt.1, k_T_nodeAt.2, by decide⟩
theorem cb_T_priority_39 : CB m_T_priority m_T_isWithin 39 2 := ⟨ml_T_39, k_T_isWithin.1, k_T_isWithin.2, by decide⟩
theorem cb_T_priority_74 : CB m_T_priority m_N_findStates 74 0 := ⟨ml_T_74, k_N_findStates.1, k_N_findStates.2, by decide⟩
theorem iv_T_round : Cond.instanceMethod m_T_round.1 ∈ gt ∧ Cond.selects m_T_round.1.cls m_T_round.1 m_T_round.1 ∈ gt := by decide +kernel
theorem ml_L_29 : Cond.methodLink R_L 29 m_T_round.1 ∈ gt := by decide +kernel
theorem cb_L_round_29 : CB m_L_round m_T_round 29 1 := ⟨ml_L_29, k_T_round.1, k_T_round.2, by decide⟩
theorem cb_T_round_119 : CB m_T_round m_T_playRound 119 0 := ⟨ml_T_119, k_T_playRound.1, k_T_playRound.2, by decide⟩
theorem iv_T_state : Cond.instanceMethod m_T_state.1 ∈ gt ∧ Cond.selects m_T_state.1.cls m_T_state.1 m_T_state.1 ∈ gt := by decide +kernel
theorem ml_L_33 : Cond.methodLink R_L 33 m_T_state.1 ∈ gt := by decide +kernel
theorem cb_L_state_33 : CB m_L_state m_T_state 33 2 := ⟨ml_L_33, k_T_state.1, k_T_state.2, by decide⟩
theorem cb_T_state_81 : CB m_T_state m_T_portAt 81 2 := ⟨ml_T_81, k_T_portAt.1, k_T_portAt.2, by decide⟩
theorem iv_T_root : Cond.instanceMethod m_T_root.1 ∈ gt ∧ Cond.selects m_T_root.1.cls m_T_root.1 m_T_root.1 ∈ gt := by decide +kernel
theorem ml_L_37 : Cond.methodLink R_L 37 m_T_root.1 ∈ gt := by decide +kernel
theorem cb_L_root_37 : CB m_L_root m_T_root 37 1 := ⟨ml_L_37, k_T_root.1, k_T_root.2, by decide⟩
theorem cb_T_root_108 : CB m_T_root m_T_nodeAt 108 1 := ⟨ml_T_108, k_T_nodeAt.1, k_T_nodeAt.2, by decide⟩
theorem iv_T_steps : Cond.instanceMethod m_T_steps.1 ∈ gt ∧ Cond.selects m_T_steps.1.cls m_T_steps.1 m_T_steps.1 ∈ gt := by decide +kernel
theorem ml_L_40 : Cond.methodLink R_L 40 m_T_steps.1 ∈ gt := by decide +kernel
theorem cb_L_steps_40 : CB m_L_steps m_T_steps 40 1 := ⟨ml_L_40, k_T_steps.1, k_T_steps.2, by decide⟩
theorem cb_T_steps_108 : CB m_T_steps m_T_nodeAt 108 1 := ⟨ml_T_108, k_T_nodeAt.1, k_T_nodeAt.2, by decide⟩
theorem iv_T_kept : Cond.instanceMethod m_T_kept.1 ∈ gt ∧ Cond.selects m_T_kept.1.cls m_T_kept.1 m_T_kept.1 ∈ gt := by decide +kernel
theorem ml_L_43 : Cond.methodLink R_L 43 m_T_kept.1 ∈ gt := by decide +kernel
theorem cb_L_kept_43 : CB m_L_kept m_T_kept 43 2 := ⟨ml_L_43, k_T_kept.1, k_T_kept.2, by decide⟩
theorem cb_T_kept_81 : CB m_T_kept m_T_portAt 81 2 := ⟨ml_T_81, k_T_portAt.1, k_T_portAt.2, by decide⟩
theorem iv_T_exchange : Cond.instanceMethod m_T_exchange.1 ∈ gt ∧ Cond.selects m_T_exchange.1.cls m_T_exchange.1 m_T_exchange.1 ∈ gt := by decide +kernel
theorem ml_L_46 : Cond.methodLink R_L 46 m_T_exchange.1 ∈ gt := by decide +kernel
theorem cb_L_exchange_46 : CB m_L_exchange m_T_exchange 46 4 := ⟨ml_L_46, k_T_exchange.1, k_T_exchange.2, by decide⟩
theorem cb_T_exchange_108 : CB m_T_exchange m_T_nodeAt 108 1 := ⟨ml_T_108, k_T_nodeAt.1, k_T_nodeAt.2, by decide⟩
theorem cb_T_exchange_39 : CB m_T_exchange m_T_isWithin 39 2 := ⟨ml_T_39, k_T_isWithin.1, k_T_isWithin.2, by decide⟩
theorem cb_T_exchange_144 : CB m_T_exchange m_T_openSlaveOf 144 1 := ⟨ml_T_144, k_T_openSlaveOf.1, k_T_openSlaveOf.2, by decide⟩
theorem cb_T_exchange_150 : CB m_T_exchange m_T_setClock 150 5 := ⟨ml_T_150, k_T_setClock.1, k_T_setClock.2, by decide⟩
theorem iv_T_delay : Cond.instanceMethod m_T_delay.1 ∈ gt ∧ Cond.selects m_T_delay.1.cls m_T_delay.1 m_T_delay.1 ∈ gt := by decide +kernel
theorem ml_L_52 : Cond.methodLink R_L 52 m_T_delay.1 ∈ gt := by decide +kernel
theorem cb_L_delay_52 : CB m_L_delay m_T_delay 52 1 := ⟨ml_L_52, k_T_delay.1, k_T_delay.2, by decide⟩
theorem cb_T_delay_108 : CB m_T_delay m_T_nodeAt 108 1 := ⟨ml_T_108, k_T_nodeAt.1, k_T_nodeAt.2, by decide⟩
theorem iv_T_offset : Cond.instanceMethod m_T_offset.1 ∈ gt ∧ Cond.selects m_T_offset.1.cls m_T_offset.1 m_T_offset.1 ∈ gt := by decide +kernel
theorem ml_L_56 : Cond.methodLink R_L 56 m_T_offset.1 ∈ gt := by decide +kernel
theorem cb_L_offset_56 : CB m_L_offset m_T_offset 56 1 := ⟨ml_L_56, k_T_offset.1, k_T_offset.2, by decide⟩
theorem cb_T_offset_108 : CB m_T_offset m_T_nodeAt 108 1 := ⟨ml_T_108, k_T_nodeAt.1, k_T_nodeAt.2, by decide⟩
theorem ol_M_1 : Cond.methodLink R_M 1 Lib.objectInit ∈ gt := by decide +kernel
theorem iv_M_byteSized : Cond.instanceMethod m_M_byteSized.1 ∈ gt ∧ Cond.selects m_M_byteSized.1.cls m_M_byteSized.1 m_M_byteSized.1 ∈ gt := by decide +kernel
theorem ml_M_106 : Cond.methodLink R_M 106 m_M_byteSized.1 ∈ gt := by decide +kernel
theorem cb_M_node_106 : CB m_M_node m_M_byteSized 106 1 := ⟨ml_M_106, k_M_byteSized.1, k_M_byteSized.2, by decide⟩
theorem iv_M_findAll : Cond.instanceMethod m_M_findAll.1 ∈ gt ∧ Cond.selects m_M_findAll.1.cls m_M_findAll.1 m_M_findAll.1 ∈ gt := by decide +kernel
theorem ml_M_112 : Cond.methodLink R_M 112 m_M_findAll.1 ∈ gt := by decide +kernel
theorem cb_M_node_112 : CB m_M_node m_M_findAll 112 0 := ⟨ml_M_112, k_M_findAll.1, k_M_findAll.2, by decide⟩
theorem iv_M_find : Cond.instanceMethod m_M_find.1 ∈ gt ∧ Cond.selects m_M_find.1.cls m_M_find.1 m_M_find.1 ∈ gt := by decide +kernel
theorem ml_M_103 : Cond.methodLink R_M 103 m_M_find.1 ∈ gt := by decide +kernel
theorem cb_M_findAll_103 : CB m_M_findAll m_M_find 103 1 := ⟨ml_M_103, k_M_find.1, k_M_find.2, by decide⟩
theorem iv_M_ownOne : Cond.instanceMethod m_M_ownOne.1 ∈ gt ∧ Cond.selects m_M_ownOne.1.cls m_M_ownOne.1 m_M_ownOne.1 ∈ gt := by decide +kernel
theorem ml_M_82 : Cond.methodLink R_M 82 m_M_ownOne.1 ∈ gt := by decide +kernel
theorem cb_M_find_82 : CB m_M_find m_M_ownOne 82 2 := ⟨ml_M_82, k_M_ownOne.1, k_M_ownOne.2, by decide⟩
theorem iv_M_keptOne : Cond.instanceMethod m_M_keptOne.1 ∈ gt ∧ Cond.selects m_M_keptOne.1.cls m_M_keptOne.1 m_M_keptOne.1 ∈ gt := by decide +kernel
theorem ml_M_86 : Cond.methodLink R_M 86 m_M_keptOne.1 ∈ gt := by decide +kernel
theorem cb_M_find_86 : CB m_M_find m_M_keptOne 86 1 := ⟨ml_M_86, k_M_keptOne.1, k_M_keptOne.2, by decide⟩
theorem iv_M_turnRound : Cond.instanceMethod m_M_turnRound.1 ∈ gt ∧ Cond.selects m_M_turnRound.1.cls m_M_turnRound.1 m_M_turnRound.1 ∈ gt := by decide +kernel
theorem ml_M_90 : Cond.methodLink R_M 90 m_M_turnRound.1 ∈ gt := by decide +kernel
theorem cb_M_find_90 : CB m_M_find m_M_turnRound 90 0 := ⟨ml_M_90, k_M_turnRound.1, k_M_turnRound.2, by decide⟩
theorem iv_M_better : Cond.instanceMethod m_M_better.1 ∈ gt ∧ Cond.selects m_M_better.1.cls m_M_better.1 m_M_better.1 ∈ gt := by decide +kernel
theorem ml_M_93 : Cond.methodLink R_M 93 m_M_better.1 ∈ gt := by decide +kernel
theorem cb_M_find_93 : CB m_M_find m_M_better 93 0 := ⟨ml_M_93, k_M_better.1, k_M_better.2, by decide⟩
theorem iv_M_toldOne : Cond.instanceMethod m_M_toldOne.1 ∈ gt ∧ Cond.selects m_M_toldOne.1.cls m_M_toldOne.1 m_M_toldOne.1 ∈ gt := by decide +kernel
theorem ml_M_97 : Cond.methodLink R_M 97 m_M_toldOne.1 ∈ gt := by decide +kernel
theorem cb_M_find_97 : CB m_M_find m_M_toldOne 97 1 := ⟨ml_M_97, k_M_toldOne.1, k_M_toldOne.2, by decide⟩
theorem cb_M_toldOne_82 : CB m_M_toldOne m_M_ownOne 82 2 := ⟨ml_M_82, k_M_ownOne.1, k_M_ownOne.2, by decide⟩
theorem cb_M_toldOne_86 : CB m_M_toldOne m_M_keptOne 86 1 := ⟨ml_M_86, k_M_keptOne.1, k_M_keptOne.2, by decide⟩
theorem iv_M_noPort : Cond.instanceMethod m_M_noPort.1 ∈ gt ∧ Cond.selects m_M_noPort.1.cls m_M_noPort.1 m_M_noPort.1 ∈ gt := by decide +kernel
theorem ml_M_119 : Cond.methodLink R_M 119 m_M_noPort.1 ∈ gt := by decide +kernel
theorem cb_M_link_119 : CB m_M_link m_M_noPort 119 2 := ⟨ml_M_119, k_M_noPort.1, k_M_noPort.2, by decide⟩
theorem iv_M_noDelay : Cond.instanceMethod m_M_noDelay.1 ∈ gt ∧ Cond.selects m_M_noDelay.1.cls m_M_noDelay.1 m_M_noDelay.1 ∈ gt := by decide +kernel
theorem ml_M_123 : Cond.methodLink R_M 123 m_M_noDelay.1 ∈ gt := by decide +kernel
theorem cb_M_link_123 : CB m_M_link m_M_noDelay 123 1 := ⟨ml_M_123, k_M_noDelay.1, k_M_noDelay.2, by decide⟩
theorem cb_M_link_112 : CB m_M_link m_M_findAll 112 0 := ⟨ml_M_112, k_M_findAll.1, k_M_findAll.2, by decide⟩
theorem iv_M_noNode : Cond.instanceMethod m_M_noNode.1 ∈ gt ∧ Cond.selects m_M_noNode.1.cls m_M_noNode.1 m_M_noNode.1 ∈ gt := by decide +kernel
theorem ml_M_115 : Cond.methodLink R_M 115 m_M_noNode.1 ∈ gt := by decide +kernel
theorem cb_M_noPort_115 : CB m_M_noPort m_M_noNode 115 1 := ⟨ml_M_115, k_M_noNode.1, k_M_noNode.2, by decide⟩
theorem cb_M_priority_115 : CB m_M_priority m_M_noNode 115 1 := ⟨ml_M_115, k_M_noNode.1, k_M_noNode.2, by decide⟩
theorem cb_M_priority_106 : CB m_M_priority m_M_byteSized 106 1 := ⟨ml_M_106, k_M_byteSized.1, k_M_byteSized.2, by decide⟩
theorem cb_M_priority_112 : CB m_M_priority m_M_findAll 112 0 := ⟨ml_M_112, k_M_findAll.1, k_M_findAll.2, by decide⟩
theorem iv_M_pass : Cond.instanceMethod m_M_pass.1 ∈ gt ∧ Cond.selects m_M_pass.1.cls m_M_pass.1 m_M_pass.1 ∈ gt := by decide +kernel
theorem ml_M_143 : Cond.methodLink R_M 143 m_M_pass.1 ∈ gt := by decide +kernel
theorem cb_M_round_143 : CB m_M_round m_M_pass 143 0 := ⟨ml_M_143, k_M_pass.1, k_M_pass.2, by decide⟩
theorem iv_M_sendAll : Cond.instanceMethod m_M_sendAll.1 ∈ gt ∧ Cond.selects m_M_sendAll.1.cls m_M_sendAll.1 m_M_sendAll.1 ∈ gt := by decide +kernel
theorem ml_M_136 : Cond.methodLink R_M 136 m_M_sendAll.1 ∈ gt := by decide +kernel
theorem cb_M_pass_136 : CB m_M_pass m_M_sendAll 136 0 := ⟨ml_M_136, k_M_sendAll.1, k_M_sendAll.2, by decide⟩
theorem iv_M_hear : Cond.instanceMethod m_M_hear.1 ∈ gt ∧ Cond.selects m_M_hear.1.cls m_M_hear.1 m_M_hear.1 ∈ gt := by decide +kernel
theorem ml_M_140 : Cond.methodLink R_M 140 m_M_hear.1 ∈ gt := by decide +kernel
theorem cb_M_pass_140 : CB m_M_pass m_M_hear 140 1 := ⟨ml_M_140, k_M_hear.1, k_M_hear.2, by decide⟩
theorem cb_M_pass_112 : CB m_M_pass m_M_findAll 112 0 := ⟨ml_M_112, k_M_findAll.1, k_M_findAll.2, by decide⟩
theorem iv_M_across : Cond.instanceMethod m_M_across.1 ∈ gt ∧ Cond.selects m_M_across.1.cls m_M_across.1 m_M_across.1 ∈ gt := by decide +kernel
theorem ml_M_133 : Cond.methodLink R_M 133 m_M_across.1 ∈ gt := by decide +kernel
theorem cb_M_sendAll_133 : CB m_M_sendAll m_M_across 133 1 := ⟨ml_M_133, k_M_across.1, k_M_across.2, by decide⟩
theorem cb_M_sendAll_97 : CB m_M_sendAll m_M_toldOne 97 1 := ⟨ml_M_97, k_M_toldOne.1, k_M_toldOne.2, by decide⟩
theorem iv_M_endOf : Cond.instanceMethod m_M_endOf.1 ∈ gt ∧ Cond.selects m_M_endOf.1.cls m_M_endOf.1 m_M_endOf.1 ∈ gt := by decide +kernel
theorem ml_M_129 : Cond.methodLink R_M 129 m_M_endOf.1 ∈ gt := by decide +kernel
theorem cb_M_across_129 : CB m_M_across m_M_endOf 129 1 := ⟨ml_M_129, k_M_endOf.1, k_M_endOf.2, by decide⟩
theorem iv_M_remember : Cond.instanceMethod m_M_remember.1 ∈ gt ∧ Cond.selects m_M_remember.1.cls m_M_remember.1 m_M_remember.1 ∈ gt := by decide +kernel
theorem ml_M_146 : Cond.methodLink R_M 146 m_M_remember.1 ∈ gt := by decide +kernel
theorem cb_M_settle_146 : CB m_M_settle m_M_remember 146 0 := ⟨ml_M_146, k_M_remember.1, k_M_remember.2, by decide⟩
theorem cb_M_settle_143 : CB m_M_settle m_M_pass 143 0 := ⟨ml_M_143, k_M_pass.1, k_M_pass.2, by decide⟩
theorem iv_M_isAsBefore : Cond.instanceMethod m_M_isAsBefore.1 ∈ gt ∧ Cond.selects m_M_isAsBefore.1.cls m_M_isAsBefore.1 m_M_isAsBefore.1 ∈ gt := by decide +kernel
theorem ml_M_149 : Cond.methodLink R_M 149 m_M_isAsBefore.1 ∈ gt := by decide +kernel
theorem cb_M_settle_149 : CB m_M_settle m_M_isAsBefore 149 0 := ⟨ml_M_149, k_M_isAsBefore.1, k_M_isAsBefore.2, by decide⟩
theorem cb_M_state_119 : CB m_M_state m_M_noPort 119 2 := ⟨ml_M_119, k_M_noPort.1, k_M_noPort.2, by decide⟩
theorem cb_M_root_115 : CB m_M_root m_M_noNode 115 1 := ⟨ml_M_115, k_M_noNode.1, k_M_noNode.2, by decide⟩
theorem cb_M_steps_115 : CB m_M_steps m_M_noNode 115 1 := ⟨ml_M_115, k_M_noNode.1, k_M_noNode.2, by decide⟩
theorem iv_M_stepsOf : Cond.instanceMethod m_M_stepsOf.1 ∈ gt ∧ Cond.selects m_M_stepsOf.1.cls m_M_stepsOf.1 m_M_stepsOf.1 ∈ gt := by decide +kernel
theorem ml_M_152 : Cond.methodLink R_M 152 m_M_stepsOf.1 ∈ gt := by decide +kernel
theorem cb_M_steps_152 : CB m_M_steps m_M_stepsOf 152 1 := ⟨ml_M_152, k_M_stepsOf.1, k_M_stepsOf.2, by decide⟩
theorem cb_M_kept_119 : CB m_M_kept m_M_noPort 119 2 := ⟨ml_M_119, k_M_noPort.1, k_M_noPort.2, by decide⟩
theorem cb_M_exchange_115 : CB m_M_exchange m_M_noNode 115 1 := ⟨ml_M_115, k_M_noNode.1, k_M_noNode.2, by decide⟩
theorem iv_M_noRest : Cond.instanceMethod m_M_noRest.1 ∈ gt ∧ Cond.selects m_M_noRest.1.cls m_M_noRest.1 m_M_noRest.1 ∈ gt := by decide +kernel
theorem ml_M_178 : Cond.methodLink R_M 178 m_M_noRest.1 ∈ gt := by decide +kernel
theorem cb_M_exchange_178 : CB m_M_exchange m_M_noRest 178 1 := ⟨ml_M_178, k_M_noRest.1, k_M_noRest.2, by decide⟩
theorem iv_M_canSwap : Cond.instanceMethod m_M_canSwap.1 ∈ gt ∧ Cond.selects m_M_canSwap.1.cls m_M_canSwap.1 m_M_canSwap.1 ∈ gt := by decide +kernel
theorem ml_M_181 : Cond.methodLink R_M 181 m_M_canSwap.1 ∈ gt := by decide +kernel
theorem cb_M_exchange_181 : CB m_M_exchange m_M_canSwap 181 1 := ⟨ml_M_181, k_M_canSwap.1, k_M_canSwap.2, by decide⟩
theorem iv_M_swap : Cond.instanceMethod m_M_swap.1 ∈ gt ∧ Cond.selects m_M_swap.1.cls m_M_swap.1 m_M_swap.1 ∈ gt := by decide +kernel
theorem ml_M_184 : Cond.methodLink R_M 184 m_M_swap.1 ∈ gt := by decide +kernel
theorem cb_M_exchange_184 : CB m_M_exchange m_M_swap 184 4 := ⟨ml_M_184, k_M_swap.1, k_M_swap.2, by decide⟩
theorem cb_M_swap_129 : CB m_M_swap m_M_endOf 129 1 := ⟨ml_M_129, k_M_endOf.1, k_M_endOf.2, by decide⟩
theorem cb_M_swap_133 : CB m_M_swap m_M_across 133 1 := ⟨ml_M_133, k_M_across.1, k_M_across.2, by decide⟩
theorem iv_M_sum : Cond.instanceMethod m_M_sum.1 ∈ gt ∧ Cond.selects m_M_sum.1.cls m_M_sum.1 m_M_sum.1 ∈ gt := by decide +kernel
theorem ml_M_159 : Cond.methodLink R_M 159 m_M_sum.1 ∈ gt := by decide +kernel
theorem cb_M_swap_159 : CB m_M_swap m_M_sum 159 2 := ⟨ml_M_159, k_M_sum.1, k_M_sum.2, by decide⟩
theorem iv_M_difference : Cond.instanceMethod m_M_difference.1 ∈ gt ∧ Cond.selects m_M_difference.1.cls m_M_difference.1 m_M_difference.1 ∈ gt := by decide +kernel
theorem ml_M_165 : Cond.methodLink R_M 165 m_M_difference.1 ∈ gt := by decide +kernel
theorem cb_M_swap_165 : CB m_M_swap m_M_difference 165 2 := ⟨ml_M_165, k_M_difference.1, k_M_difference.2, by decide⟩
theorem cb_M_delay_115 : CB m_M_delay m_M_noNode 115 1 := ⟨ml_M_115, k_M_noNode.1, k_M_noNode.2, by decide⟩
theorem cb_M_offset_115 : CB m_M_offset m_M_noNode 115 1 := ⟨ml_M_115, k_M_noNode.1, k_M_noNode.2, by decide⟩
theorem cb_M_discipline_181 : CB m_M_discipline m_M_canSwap 181 1 := ⟨ml_M_181, k_M_canSwap.1, k_M_canSwap.2, by decide⟩
theorem cb_M_discipline_152 : CB m_M_discipline m_M_stepsOf 152 1 := ⟨ml_M_152, k_M_stepsOf.1, k_M_stepsOf.2, by decide⟩
theorem cb_M_discipline_184 : CB m_M_discipline m_M_swap 184 4 := ⟨ml_M_184, k_M_swap.1, k_M_swap.2, by decide⟩
theorem fl_T_11 : FL R_T 11 (R_T, F_T, 6) 0 := ⟨by decide +kernel, rfl⟩
theorem fl_T_17 : FL R_T 17 (R_T, F_T, 6) 1 := ⟨by decide +kernel, rfl⟩
theorem fl_T_24 : FL R_T 24 (R_T, F_T, 6) 2 := ⟨by decide +kernel, rfl⟩
theorem fl_T_28 : FL R_T 28 (R_T, F_T, 6) 3 := ⟨by decide +kernel, rfl⟩
theorem fl_T_32 : FL R_T 32 (R_T, F_T, 6) 4 := ⟨by decide +kernel, rfl⟩
theorem fl_T_35 : FL R_T 35 (R_T, F_T, 6) 5 := ⟨by decide +kernel, rfl⟩
theorem fl_T_177 : FL R_T 177 (R_N, F_N, 6) 2 := ⟨by decide +kernel, rfl⟩
theorem fl_T_189 : FL R_T 189 (R_P, F_P, 8) 3 := ⟨by decide +kernel, rfl⟩
theorem fl_P_38 : FL R_P 38 (R_P, F_P, 8) 7 := ⟨by decide +kernel, rfl⟩
theorem fl_P_42 : FL R_P 42 (R_K, F_K, 5) 4 := ⟨by decide +kernel, rfl⟩
theorem fl_P_35 : FL R_P 35 (R_P, F_P, 8) 6 := ⟨by decide +kernel, rfl⟩
theorem fl_K_7 : FL R_K 7 (R_K, F_K, 5) 0 := ⟨by decide +kernel, rfl⟩
theorem fl_K_13 : FL R_K 13 (R_K, F_K, 5) 1 := ⟨by decide +kernel, rfl⟩
theorem fl_N_43 : FL R_N 43 (R_D, F_D, 8) 4 := ⟨by decide +kernel, rfl⟩
theorem fl_N_46 : FL R_N 46 (R_D, F_D, 8) 3 := ⟨by decide +kernel, rfl⟩
theorem fl_N_27 : FL R_N 27 (R_N, F_N, 6) 1 := ⟨by decide +kernel, rfl⟩
theorem fl_P_28 : FL R_P 28 (R_P, F_P, 8) 4 := ⟨by decide +kernel, rfl⟩
theorem fl_P_21 : FL R_P 21 (R_P, F_P, 8) 2 := ⟨by decide +kernel, rfl⟩
theorem fl_P_59 : FL R_P 59 (R_D, F_D, 8) 4 := ⟨by decide +kernel, rfl⟩
theorem fl_P_62 : FL R_P 62 (R_D, F_D, 8) 5 := ⟨by decide +kernel, rfl⟩
theorem fl_P_65 : FL R_P 65 (R_D, F_D, 8) 6 := ⟨by decide +kernel, rfl⟩
theorem fl_P_15 : FL R_P 15 (R_P, F_P, 8) 1 := ⟨by decide +kernel, rfl⟩
theorem fl_P_68 : FL R_P 68 (R_D, F_D, 8) 7 := ⟨by decide +kernel, rfl⟩
theorem fl_P_32 : FL R_P 32 (R_P, F_P, 8) 5 := ⟨by decide +kernel, rfl⟩
theorem fl_D_9 : FL R_D 9 (R_D, F_D, 8) 0 := ⟨by decide +kernel, rfl⟩
theorem fl_D_15 : FL R_D 15 (R_D, F_D, 8) 1 := ⟨by decide +kernel, rfl⟩
theorem fl_D_18 : FL R_D 18 (R_D, F_D, 8) 2 := ⟨by decide +kernel, rfl⟩
theorem fl_D_21 : FL R_D 21 (R_D, F_D, 8) 3 := ⟨by decide +kernel, rfl⟩
theorem fl_D_24 : FL R_D 24 (R_D, F_D, 8) 4 := ⟨by decide +kernel, rfl⟩
theorem fl_D_27 : FL R_D 27 (R_D, F_D, 8) 5 := ⟨by decide +kernel, rfl⟩
theorem fl_D_30 : FL R_D 30 (R_D, F_D, 8) 6 := ⟨by decide +kernel, rfl⟩
theorem fl_N_31 : FL R_N 31 (R_N, F_N, 6) 3 := ⟨by decide +kernel, rfl⟩
theorem fl_N_36 : FL R_N 36 (R_N, F_N, 6) 2 := ⟨by decide +kernel, rfl⟩
theorem fl_N_61 : FL R_N 61 (R_P, F_P, 8) 6 := ⟨by decide +kernel, rfl⟩
theorem fl_N_64 : FL R_N 64 (R_P, F_P, 8) 4 := ⟨by decide +kernel, rfl⟩
theorem fl_N_68 : FL R_N 68 (R_P, F_P, 8) 2 := ⟨by decide +kernel, rfl⟩
theorem fl_D_33 : FL R_D 33 (R_D, F_D, 8) 7 := ⟨by decide +kernel, rfl⟩
theorem fl_P_25 : FL R_P 25 (R_P, F_P, 8) 3 := ⟨by decide +kernel, rfl⟩
theorem fl_P_71 : FL R_P 71 (R_D, F_D, 8) 3 := ⟨by decide +kernel, rfl⟩
theorem fl_T_126 : FL R_T 126 (R_N, F_N, 6) 3 := ⟨by decide +kernel, rfl⟩
theorem fl_T_132 : FL R_T 132 (R_D, F_D, 8) 4 := ⟨by decide +kernel, rfl⟩
theorem fl_T_202 : FL R_T 202 (R_D, F_D, 8) 7 := ⟨by decide +kernel, rfl⟩
theorem fl_T_92 : FL R_T 92 (R_P, F_P, 8) 7 := ⟨by decide +kernel, rfl⟩
theorem fl_T_105 : FL R_T 105 (R_K, F_K, 5) 4 := ⟨by decide +kernel, rfl⟩
theorem fl_T_209 : FL R_T 209 (R_P, F_P, 8) 0 := ⟨by decide +kernel, rfl⟩
theorem fl_T_166 : FL R_T 166 (R_N, F_N, 6) 4 := ⟨by decide +kernel, rfl⟩
theorem fl_T_230 : FL R_T 230 (R_R, F_R, 12) 0 := ⟨by decide +kernel, rfl⟩
theorem fl_T_233 : FL R_T 233 (R_R, F_R, 12) 3 := ⟨by decide +kernel, rfl⟩
theorem fl_T_236 : FL R_T 236 (R_R, F_R, 12) 2 := ⟨by decide +kernel, rfl⟩
theorem fl_T_163 : FL R_T 163 (R_N, F_N, 6) 5 := ⟨by decide +kernel, rfl⟩
theorem fl_K_20 : FL R_K 20 (R_K, F_K, 5) 3 := ⟨by decide +kernel, rfl⟩
theorem fl_K_16 : FL R_K 16 (R_K, F_K, 5) 2 := ⟨by decide +kernel, rfl⟩
theorem fl_R_9 : FL R_R 9 (R_R, F_R, 12) 0 := ⟨by decide +kernel, rfl⟩
theorem fl_R_15 : FL R_R 15 (R_R, F_R, 12) 4 := ⟨by decide +kernel, rfl⟩
theorem fl_R_23 : FL R_R 23 (R_R, F_R, 12) 5 := ⟨by decide +kernel, rfl⟩
theorem fl_R_28 : FL R_R 28 (R_R, F_R, 12) 6 := ⟨by decide +kernel, rfl⟩
theorem fl_R_31 : FL R_R 31 (R_R, F_R, 12) 7 := ⟨by decide +kernel, rfl⟩
theorem fl_R_34 : FL R_R 34 (R_R, F_R, 12) 8 := ⟨by decide +kernel, rfl⟩
theorem fl_R_37 : FL R_R 37 (R_R, F_R, 12) 9 := ⟨by decide +kernel, rfl⟩
theorem fl_R_40 : FL R_R 40 (R_R, F_R, 12) 10 := ⟨by decide +kernel, rfl⟩
theorem fl_R_43 : FL R_R 43 (R_R, F_R, 12) 11 := ⟨by decide +kernel, rfl⟩
theorem fl_R_51 : FL R_R 51 (R_R, F_R, 12) 1 := ⟨by decide +kernel, rfl⟩
theorem fl_R_54 : FL R_R 54 (R_R, F_R, 12) 2 := ⟨by decide +kernel, rfl⟩
theorem fl_R_57 : FL R_R 57 (R_R, F_R, 12) 3 := ⟨by decide +kernel, rfl⟩
theorem fl_T_64 : FL R_T 64 (R_N, F_N, 6) 1 := ⟨by decide +kernel, rfl⟩
theorem fl_T_78 : FL R_T 78 (R_N, F_N, 6) 0 := ⟨by decide +kernel, rfl⟩
theorem fl_T_129 : FL R_T 129 (R_D, F_D, 8) 3 := ⟨by decide +kernel, rfl⟩
theorem fl_N_9 : FL R_N 9 (R_N, F_N, 6) 0 := ⟨by decide +kernel, rfl⟩
theorem fl_N_15 : FL R_N 15 (R_N, F_N, 6) 4 := ⟨by decide +kernel, rfl⟩
theorem fl_N_21 : FL R_N 21 (R_N, F_N, 6) 5 := ⟨by decide +kernel, rfl⟩
theorem fl_P_9 : FL R_P 9 (R_P, F_P, 8) 0 := ⟨by decide +kernel, rfl⟩
theorem fl_K_23 : FL R_K 23 (R_K, F_K, 5) 4 := ⟨by decide +kernel, rfl⟩
theorem fl_T_114 : FL R_T 114 (R_D, F_D, 8) 0 := ⟨by decide +kernel, rfl⟩
theorem fl_T_123 : FL R_T 123 (R_P, F_P, 8) 6 := ⟨by decide +kernel, rfl⟩
theorem fl_T_135 : FL R_T 135 (R_P, F_P, 8) 4 := ⟨by decide +kernel, rfl⟩
theorem fl_T_138 : FL R_T 138 (R_P, F_P, 8) 2 := ⟨by decide +kernel, rfl⟩
theorem fl_T_159 : FL R_T 159 (R_R, F_R, 12) 1 := ⟨by decide +kernel, rfl⟩
theorem fl_M_7 : FL R_M 7 (R_M, F_M, 28) 2 := ⟨by decide +kernel, rfl⟩
theorem fl_M_13 : FL R_M 13 (R_M, F_M, 28) 3 := ⟨by decide +kernel, rfl⟩
theorem fl_M_16 : FL R_M 16 (R_M, F_M, 28) 4 := ⟨by decide +kernel, rfl⟩
theorem fl_M_19 : FL R_M 19 (R_M, F_M, 28) 5 := ⟨by decide +kernel, rfl⟩
theorem fl_M_22 : FL R_M 22 (R_M, F_M, 28) 6 := ⟨by decide +kernel, rfl⟩
theorem fl_M_26 : FL R_M 26 (R_M, F_M, 28) 7 := ⟨by decide +kernel, rfl⟩
theorem fl_M_29 : FL R_M 29 (R_M, F_M, 28) 9 := ⟨by decide +kernel, rfl⟩
theorem fl_M_32 : FL R_M 32 (R_M, F_M, 28) 10 := ⟨by decide +kernel, rfl⟩
theorem fl_M_35 : FL R_M 35 (R_M, F_M, 28) 11 := ⟨by decide +kernel, rfl⟩
theorem fl_M_39 : FL R_M 39 (R_M, F_M, 28) 12 := ⟨by decide +kernel, rfl⟩
theorem fl_M_42 : FL R_M 42 (R_M, F_M, 28) 13 := ⟨by decide +kernel, rfl⟩
theorem fl_M_45 : FL R_M 45 (R_M, F_M, 28) 14 := ⟨by decide +kernel, rfl⟩
theorem fl_M_48 : FL R_M 48 (R_M, F_M, 28) 15 := ⟨by decide +kernel, rfl⟩
theorem fl_M_51 : FL R_M 51 (R_M, F_M, 28) 16 := ⟨by decide +kernel, rfl⟩
theorem fl_M_54 : FL R_M 54 (R_M, F_M, 28) 17 := ⟨by decide +kernel, rfl⟩
theorem fl_M_57 : FL R_M 57 (R_M, F_M, 28) 18 := ⟨by decide +kernel, rfl⟩
theorem fl_M_60 : FL R_M 60 (R_M, F_M, 28) 19 := ⟨by decide +kernel, rfl⟩
theorem fl_M_63 : FL R_M 63 (R_M, F_M, 28) 20 := ⟨by decide +kernel, rfl⟩
theorem fl_M_66 : FL R_M 66 (R_M, F_M, 28) 21 := ⟨by decide +kernel, rfl⟩
theorem fl_M_69 : FL R_M 69 (R_M, F_M, 28) 22 := ⟨by decide +kernel, rfl⟩
theorem fl_M_72 : FL R_M 72 (R_M, F_M, 28) 23 := ⟨by decide +kernel, rfl⟩
theorem fl_M_75 : FL R_M 75 (R_M, F_M, 28) 24 := ⟨by decide +kernel, rfl⟩
theorem fl_M_78 : FL R_M 78 (R_M, F_M, 28) 0 := ⟨by decide +kernel, rfl⟩
theorem fl_M_100 : FL R_M 100 (R_M, F_M, 28) 1 := ⟨by decide +kernel, rfl⟩
theorem fl_M_126 : FL R_M 126 (R_M, F_M, 28) 8 := ⟨by decide +kernel, rfl⟩
theorem fl_M_155 : FL R_M 155 (R_M, F_M, 28) 25 := ⟨by decide +kernel, rfl⟩
theorem fl_M_170 : FL R_M 170 (R_M, F_M, 28) 26 := ⟨by decide +kernel, rfl⟩
theorem fl_M_174 : FL R_M 174 (R_M, F_M, 28) 27 := ⟨by decide +kernel, rfl⟩
theorem cl_L_8 : Cond.classLink R_L 8 R_T ∈ gt := by decide +kernel
theorem cl_T_9 : Cond.classLink R_T 9 R_N ∈ gt := by decide +kernel
theorem cl_T_15 : Cond.classLink R_T 15 R_K ∈ gt := by decide +kernel
theorem cl_T_21 : Cond.classLink R_T 21 R_R ∈ gt := by decide +kernel
theorem kc_R_26 : Cond.constantLong R_R 26 (1000) ∈ gt := by decide +kernel
theorem kc_R_49 : Cond.constantLong R_R 49 (2) ∈ gt := by decide +kernel
theorem cl_L_13 : Cond.classLink R_L 13 "java/lang/IllegalArgumentException" ∈ gt := by decide +kernel
theorem cl_L_15 : Cond.classLink R_L 15 "java/lang/IllegalStateException" ∈ gt := by decide +kernel
theorem cl_T_43 : Cond.classLink R_T 43 "java/lang/IllegalArgumentException" ∈ gt := by decide +kernel
theorem cl_T_56 : Cond.classLink R_T 56 "java/lang/IllegalStateException" ∈ gt := by decide +kernel
theorem kc_N_19 : Cond.constantLong R_N 19 (-1) ∈ gt := by decide +kernel
theorem cl_N_24 : Cond.classLink R_N 24 R_D ∈ gt := by decide +kernel
theorem cl_N_34 : Cond.classLink R_N 34 R_P ∈ gt := by decide +kernel
theorem cl_P_18 : Cond.classLink R_P 18 R_D ∈ gt := by decide +kernel
theorem kc_T_87 : Cond.constant R_T 87 (1000000000) ∈ gt := by decide +kernel
theorem cl_L_50 : Cond.classLink R_L 50 "java/lang/ArithmeticException" ∈ gt := by decide +kernel
theorem kc_T_141 : Cond.constant R_T 141 (1000000) ∈ gt := by decide +kernel
theorem cl_T_154 : Cond.classLink R_T 154 "java/lang/ArithmeticException" ∈ gt := by decide +kernel
theorem cl_L_60 : Cond.classLink R_L 60 R_M ∈ gt := by decide +kernel
theorem kc_M_110 : Cond.constantLong R_M 110 (-1) ∈ gt := by decide +kernel
theorem kc_M_118 : Cond.constant R_M 118 (1000000000) ∈ gt := by decide +kernel
theorem kc_M_177 : Cond.constant R_M 177 (1000000) ∈ gt := by decide +kernel
theorem kc_M_163 : Cond.constantLong R_M 163 (1000) ∈ gt := by decide +kernel
theorem kc_M_168 : Cond.constantLong R_M 168 (2) ∈ gt := by decide +kernel
theorem kc_L_63 : Cond.constantLong R_L 63 (4294967295) ∈ gt := by decide +kernel
theorem ki_D : Cond.instantiable R_D 8 ∈ gt ∧ Cond.initialized R_D ∈ gt := by decide +kernel
theorem ki_P : Cond.instantiable R_P 8 ∈ gt ∧ Cond.initialized R_P ∈ gt := by decide +kernel
theorem ki_N : Cond.instantiable R_N 6 ∈ gt ∧ Cond.initialized R_N ∈ gt := by decide +kernel
theorem ki_K : Cond.instantiable R_K 5 ∈ gt ∧ Cond.initialized R_K ∈ gt := by decide +kernel
theorem ki_R : Cond.instantiable R_R 12 ∈ gt ∧ Cond.initialized R_R ∈ gt := by decide +kernel
theorem ki_T : Cond.instantiable R_T 6 ∈ gt ∧ Cond.initialized R_T ∈ gt := by decide +kernel
theorem ki_M : Cond.instantiable R_M 28 ∈ gt ∧ Cond.initialized R_M ∈ gt := by decide +kernel
theorem ac_in : Cond.arrayClass .int ∈ gt ∧ Cond.arrayClass .boolean ∈ gt ∧ Cond.arrayClass .long ∈ gt := by decide +kernel
