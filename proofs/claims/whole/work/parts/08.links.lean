set_option maxRecDepth 20000 in
theorem ci_Orb : CI 0 R_Orb T_Orb 7 ty_Orb := by
  refine ⟨rfl, ?_, tk_Orb, nm_Orb⟩
  intro w hw
  obtain ⟨k, hk, rfl⟩ := List.mem_map.mp hw
  have hk := List.mem_range.mp hk
  match k, hk with
  | 0, _ => exact tb_in 325 (by decide +kernel) (by decide +kernel)
  | 1, _ => exact tb_in 327 (by decide +kernel) (by decide +kernel)
  | 2, _ => exact tb_in 329 (by decide +kernel) (by decide +kernel)
  | 3, _ => exact tb_in 331 (by decide +kernel) (by decide +kernel)
  | 4, _ => exact tb_in 333 (by decide +kernel) (by decide +kernel)
  | 5, _ => exact tb_in 335 (by decide +kernel) (by decide +kernel)
  | 6, _ => exact tb_in 337 (by decide +kernel) (by decide +kernel)
  | k + 7, hk => omega
set_option maxRecDepth 20000 in
theorem ci_Win : CI 1 R_Win T_Win 3 ty_Win := by
  refine ⟨rfl, ?_, tk_Win, nm_Win⟩
  intro w hw
  obtain ⟨k, hk, rfl⟩ := List.mem_map.mp hw
  have hk := List.mem_range.mp hk
  match k, hk with
  | 0, _ => exact tb_in 92 (by decide +kernel) (by decide +kernel)
  | 1, _ => exact tb_in 94 (by decide +kernel) (by decide +kernel)
  | 2, _ => exact tb_in 96 (by decide +kernel) (by decide +kernel)
  | k + 3, hk => omega
set_option maxRecDepth 20000 in
theorem ci_Sto : CI 2 R_Sto T_Sto 10 ty_Sto := by
  refine ⟨rfl, ?_, tk_Sto, nm_Sto⟩
  intro w hw
  obtain ⟨k, hk, rfl⟩ := List.mem_map.mp hw
  have hk := List.mem_range.mp hk
  match k, hk with
  | 0, _ => exact tb_in 165 (by decide +kernel) (by decide +kernel)
  | 1, _ => exact tb_in 167 (by decide +kernel) (by decide +kernel)
  | 2, _ => exact tb_in 169 (by decide +kernel) (by decide +kernel)
  | 3, _ => exact tb_in 171 (by decide +kernel) (by decide +kernel)
  | 4, _ => exact tb_in 173 (by decide +kernel) (by decide +kernel)
  | 5, _ => exact tb_in 175 (by decide +kernel) (by decide +kernel)
  | 6, _ => exact tb_in 177 (by decide +kernel) (by decide +kernel)
  | 7, _ => exact tb_in 179 (by decide +kernel) (by decide +kernel)
  | 8, _ => exact tb_in 181 (by decide +kernel) (by decide +kernel)
  | 9, _ => exact tb_in 183 (by decide +kernel) (by decide +kernel)
  | k + 10, hk => omega
set_option maxRecDepth 20000 in
theorem ci_Pkt : CI 3 R_Pkt T_Pkt 5 ty_Pkt := by
  refine ⟨rfl, ?_, tk_Pkt, nm_Pkt⟩
  intro w hw
  obtain ⟨k, hk, rfl⟩ := List.mem_map.mp hw
  have hk := List.mem_range.mp hk
  match k, hk with
  | 0, _ => exact tb_in 133 (by decide +kernel) (by decide +kernel)
  | 1, _ => exact tb_in 135 (by decide +kernel) (by decide +kernel)
  | 2, _ => exact tb_in 137 (by decide +kernel) (by decide +kernel)
  | 3, _ => exact tb_in 139 (by decide +kernel) (by decide +kernel)
  | 4, _ => exact tb_in 141 (by decide +kernel) (by decide +kernel)
  | k + 5, hk => omega
set_option maxRecDepth 20000 in
theorem ci_Ses : CI 4 R_Ses T_Ses 10 ty_Ses := by
  refine ⟨rfl, ?_, tk_Ses, nm_Ses⟩
  intro w hw
  obtain ⟨k, hk, rfl⟩ := List.mem_map.mp hw
  have hk := List.mem_range.mp hk
  match k, hk with
  | 0, _ => exact tb_in 250 (by decide +kernel) (by decide +kernel)
  | 1, _ => exact tb_in 252 (by decide +kernel) (by decide +kernel)
  | 2, _ => exact tb_in 254 (by decide +kernel) (by decide +kernel)
  | 3, _ => exact tb_in 256 (by decide +kernel) (by decide +kernel)
  | 4, _ => exact tb_in 258 (by decide +kernel) (by decide +kernel)
  | 5, _ => exact tb_in 260 (by decide +kernel) (by decide +kernel)
  | 6, _ => exact tb_in 262 (by decide +kernel) (by decide +kernel)
  | 7, _ => exact tb_in 264 (by decide +kernel) (by decide +kernel)
  | 8, _ => exact tb_in 266 (by decide +kernel) (by decide +kernel)
  | 9, _ => exact tb_in 268 (by decide +kernel) (by decide +kernel)
  | k + 10, hk => omega
set_option maxRecDepth 20000 in
theorem ci_Har : CI 5 R_Har T_Har 5 ty_Har := by
  refine ⟨rfl, ?_, tk_Har, nm_Har⟩
  intro w hw
  obtain ⟨k, hk, rfl⟩ := List.mem_map.mp hw
  have hk := List.mem_range.mp hk
  match k, hk with
  | 0, _ => exact tb_in 209 (by decide +kernel) (by decide +kernel)
  | 1, _ => exact tb_in 211 (by decide +kernel) (by decide +kernel)
  | 2, _ => exact tb_in 213 (by decide +kernel) (by decide +kernel)
  | 3, _ => exact tb_in 215 (by decide +kernel) (by decide +kernel)
  | 4, _ => exact tb_in 217 (by decide +kernel) (by decide +kernel)
  | k + 5, hk => omega
set_option maxRecDepth 20000 in
theorem ci_Str : CI 6 R_Str T_Str 3 ty_Str := by
  refine ⟨rfl, ?_, tk_Str, nm_Str⟩
  intro w hw
  obtain ⟨k, hk, rfl⟩ := List.mem_map.mp hw
  have hk := List.mem_range.mp hk
  match k, hk with
  | 0, _ => exact tb_in 233 (by decide +kernel) (by decide +kernel)
  | 1, _ => exact tb_in 235 (by decide +kernel) (by decide +kernel)
  | 2, _ => exact tb_in 237 (by decide +kernel) (by decide +kernel)
  | k + 3, hk => omega
set_option maxRecDepth 20000 in
theorem ci_Lan : CI 7 R_Lan T_Lan 3 ty_Lan := by
  refine ⟨rfl, ?_, tk_Lan, nm_Lan⟩
  intro w hw
  obtain ⟨k, hk, rfl⟩ := List.mem_map.mp hw
  have hk := List.mem_range.mp hk
  match k, hk with
  | 0, _ => exact tb_in 294 (by decide +kernel) (by decide +kernel)
  | 1, _ => exact tb_in 296 (by decide +kernel) (by decide +kernel)
  | 2, _ => exact tb_in 298 (by decide +kernel) (by decide +kernel)
  | k + 3, hk => omega
set_option maxRecDepth 20000 in
theorem ci_Frm : CI 8 R_Frm T_Frm 2 ty_Frm := by
  refine ⟨rfl, ?_, tk_Frm, nm_Frm⟩
  intro w hw
  obtain ⟨k, hk, rfl⟩ := List.mem_map.mp hw
  have hk := List.mem_range.mp hk
  match k, hk with
  | 0, _ => exact tb_in 285 (by decide +kernel) (by decide +kernel)
  | 1, _ => exact tb_in 287 (by decide +kernel) (by decide +kernel)
  | k + 2, hk => omega
set_option maxRecDepth 20000 in
theorem ci_Ear : CI 9 R_Ear T_Ear 3 ty_Ear := by
  refine ⟨rfl, ?_, tk_Ear, nm_Ear⟩
  intro w hw
  obtain ⟨k, hk, rfl⟩ := List.mem_map.mp hw
  have hk := List.mem_range.mp hk
  match k, hk with
  | 0, _ => exact tb_in 311 (by decide +kernel) (by decide +kernel)
  | 1, _ => exact tb_in 313 (by decide +kernel) (by decide +kernel)
  | 2, _ => exact tb_in 315 (by decide +kernel) (by decide +kernel)
  | k + 3, hk => omega
set_option maxRecDepth 20000 in
theorem ci_Mod : CI 10 R_Mod T_Mod 27 ty_Mod := by
  refine ⟨rfl, ?_, tk_Mod, nm_Mod⟩
  intro w hw
  obtain ⟨k, hk, rfl⟩ := List.mem_map.mp hw
  have hk := List.mem_range.mp hk
  match k, hk with
  | 0, _ => exact tb_in 1119 (by decide +kernel) (by decide +kernel)
  | 1, _ => exact tb_in 1121 (by decide +kernel) (by decide +kernel)
  | 2, _ => exact tb_in 1123 (by decide +kernel) (by decide +kernel)
  | 3, _ => exact tb_in 1125 (by decide +kernel) (by decide +kernel)
  | 4, _ => exact tb_in 1127 (by decide +kernel) (by decide +kernel)
  | 5, _ => exact tb_in 1129 (by decide +kernel) (by decide +kernel)
  | 6, _ => exact tb_in 1131 (by decide +kernel) (by decide +kernel)
  | 7, _ => exact tb_in 1133 (by decide +kernel) (by decide +kernel)
  | 8, _ => exact tb_in 1135 (by decide +kernel) (by decide +kernel)
  | 9, _ => exact tb_in 1137 (by decide +kernel) (by decide +kernel)
  | 10, _ => exact tb_in 1139 (by decide +kernel) (by decide +kernel)
  | 11, _ => exact tb_in 1141 (by decide +kernel) (by decide +kernel)
  | 12, _ => exact tb_in 1143 (by decide +kernel) (by decide +kernel)
  | 13, _ => exact tb_in 1145 (by decide +kernel) (by decide +kernel)
  | 14, _ => exact tb_in 1147 (by decide +kernel) (by decide +kernel)
  | 15, _ => exact tb_in 1149 (by decide +kernel) (by decide +kernel)
  | 16, _ => exact tb_in 1151 (by decide +kernel) (by decide +kernel)
  | 17, _ => exact tb_in 1153 (by decide +kernel) (by decide +kernel)
  | 18, _ => exact tb_in 1155 (by decide +kernel) (by decide +kernel)
  | 19, _ => exact tb_in 1157 (by decide +kernel) (by decide +kernel)
  | 20, _ => exact tb_in 1159 (by decide +kernel) (by decide +kernel)
  | 21, _ => exact tb_in 1161 (by decide +kernel) (by decide +kernel)
  | 22, _ => exact tb_in 1163 (by decide +kernel) (by decide +kernel)
  | 23, _ => exact tb_in 1165 (by decide +kernel) (by decide +kernel)
  | 24, _ => exact tb_in 1167 (by decide +kernel) (by decide +kernel)
  | 25, _ => exact tb_in 1169 (by decide +kernel) (by decide +kernel)
  | 26, _ => exact tb_in 1171 (by decide +kernel) (by decide +kernel)
  | k + 27, hk => omega
abbrev y_Orb_init : MethodName := ⟨"RelayOrbiter", "<init>", "()V"⟩
abbrev k_Orb_init : zK := (y_Orb_init, prog_1_method_1_code, 1, none)
abbrev y_Win_init : MethodName := ⟨"RelayOrbiter$Window", "<init>", "()V"⟩
abbrev k_Win_init : zK := (y_Win_init, prog_10_method_1_code, 1, none)
abbrev y_Sto_init : MethodName := ⟨"RelayOrbiter$Store", "<init>", "()V"⟩
abbrev k_Sto_init : zK := (y_Sto_init, prog_8_method_1_code, 2, none)
abbrev y_Pkt_init : MethodName := ⟨"RelayOrbiter$Packet", "<init>", "()V"⟩
abbrev k_Pkt_init : zK := (y_Pkt_init, prog_6_method_1_code, 1, none)
abbrev y_Sto_blocksFor : MethodName := ⟨"RelayOrbiter$Store", "blocksFor", "(I)I"⟩
abbrev k_Sto_blocksFor : zK := (y_Sto_blocksFor, prog_8_method_2_code, 1, some .int)
abbrev y_Ses_init : MethodName := ⟨"RelayOrbiter$Session", "<init>", "(LRelayOrbiter$Store;)V"⟩
abbrev k_Ses_init : zK := (y_Ses_init, prog_7_method_1_code, 3, none)
abbrev y_Har_init : MethodName := ⟨"RelayOrbiter$Harvest", "<init>", "()V"⟩
abbrev k_Har_init : zK := (y_Har_init, prog_4_method_1_code, 1, none)
abbrev y_Str_init : MethodName := ⟨"RelayOrbiter$Stream", "<init>", "()V"⟩
abbrev k_Str_init : zK := (y_Str_init, prog_9_method_1_code, 1, none)
abbrev y_Lan_init : MethodName := ⟨"RelayOrbiter$LanderLink", "<init>", "()V"⟩
abbrev k_Lan_init : zK := (y_Lan_init, prog_5_method_1_code, 1, none)
abbrev y_Frm_init : MethodName := ⟨"RelayOrbiter$Frame", "<init>", "()V"⟩
abbrev k_Frm_init : zK := (y_Frm_init, prog_3_method_1_code, 1, none)
abbrev y_Ear_init : MethodName := ⟨"RelayOrbiter$EarthLink", "<init>", "()V"⟩
abbrev k_Ear_init : zK := (y_Ear_init, prog_2_method_1_code, 1, none)
abbrev y_Orb_power : MethodName := ⟨"RelayOrbiter", "power", "()I"⟩
abbrev k_Orb_power : zK := (y_Orb_power, prog_1_method_10_code, 1, some .int)
abbrev y_Sto_restart : MethodName := ⟨"RelayOrbiter$Store", "restart", "()V"⟩
abbrev k_Sto_restart : zK := (y_Sto_restart, prog_8_method_6_code, 2, none)
abbrev y_Ses_restart : MethodName := ⟨"RelayOrbiter$Session", "restart", "()V"⟩
abbrev k_Ses_restart : zK := (y_Ses_restart, prog_7_method_2_code, 1, none)
abbrev y_Ses_forgetSegments : MethodName := ⟨"RelayOrbiter$Session", "forgetSegments", "()V"⟩
abbrev k_Ses_forgetSegments : zK := (y_Ses_forgetSegments, prog_7_method_8_code, 2, none)
abbrev y_Str_forget : MethodName := ⟨"RelayOrbiter$Stream", "forget", "()V"⟩
abbrev k_Str_forget : zK := (y_Str_forget, prog_9_method_2_code, 1, none)
abbrev y_Lan_forgetAll : MethodName := ⟨"RelayOrbiter$LanderLink", "forgetAll", "()V"⟩
abbrev k_Lan_forgetAll : zK := (y_Lan_forgetAll, prog_5_method_3_code, 1, none)
abbrev y_Orb_out : MethodName := ⟨"RelayOrbiter", "out", "()Z"⟩
abbrev k_Orb_out : zK := (y_Orb_out, prog_1_method_11_code, 1, some .boolean)
abbrev y_Law_window : MethodName := ⟨"RelayOrbiterLaw", "window", "(LRelayOrbiter;IIII)I"⟩
abbrev k_Law_window : zK := (y_Law_window, method_3_code, 6, some .int)
abbrev y_Orb_window : MethodName := ⟨"RelayOrbiter", "window", "(IIII)V"⟩
abbrev k_Orb_window : zK := (y_Orb_window, prog_1_method_2_code, 5, none)
abbrev y_Orb_isNoPair : MethodName := ⟨"RelayOrbiter", "isNoPair", "(I)Z"⟩
abbrev k_Orb_isNoPair : zK := (y_Orb_isNoPair, prog_1_method_15_code, 1, some .boolean)
abbrev y_Orb_windowOf : MethodName := ⟨"RelayOrbiter", "windowOf", "(I)LRelayOrbiter$Window;"⟩
abbrev k_Orb_windowOf : zK := (y_Orb_windowOf, prog_1_method_16_code, 2, some (.object "RelayOrbiter$Window"))
abbrev y_Win_set : MethodName := ⟨"RelayOrbiter$Window", "set", "(III)V"⟩
abbrev k_Win_set : zK := (y_Win_set, prog_10_method_2_code, 4, none)
abbrev y_Law_minute : MethodName := ⟨"RelayOrbiterLaw", "minute", "(LRelayOrbiter;I[J)I"⟩
abbrev k_Law_minute : zK := (y_Law_minute, method_4_code, 4, some .int)
abbrev y_Orb_minute : MethodName := ⟨"RelayOrbiter", "minute", "(I)I"⟩
abbrev k_Orb_minute : zK := (y_Orb_minute, prog_1_method_3_code, 2, some .int)
abbrev y_Law_seen : MethodName := ⟨"RelayOrbiterLaw", "seen", "(LRelayOrbiter;I[J)I"⟩
abbrev k_Law_seen : zK := (y_Law_seen, method_5_code, 4, some .int)
abbrev y_Orb_seen : MethodName := ⟨"RelayOrbiter", "seen", "(I)Z"⟩
abbrev k_Orb_seen : zK := (y_Orb_seen, prog_1_method_4_code, 2, some .boolean)
abbrev y_Win_isOpen : MethodName := ⟨"RelayOrbiter$Window", "isOpen", "(I)Z"⟩
abbrev k_Win_isOpen : zK := (y_Win_isOpen, prog_10_method_3_code, 2, some .boolean)
abbrev y_Law_receive : MethodName := ⟨"RelayOrbiterLaw", "receive", "(LRelayOrbiter;II[J)I"⟩
abbrev k_Law_receive : zK := (y_Law_receive, method_6_code, 5, some .int)
abbrev y_Orb_receive : MethodName := ⟨"RelayOrbiter", "receive", "(II)I"⟩
abbrev k_Orb_receive : zK := (y_Orb_receive, prog_1_method_5_code, 5, some .int)
abbrev y_Lan_put : MethodName := ⟨"RelayOrbiter$LanderLink", "put", "(I)V"⟩
abbrev k_Lan_put : zK := (y_Lan_put, prog_5_method_2_code, 2, none)
abbrev y_Orb_takeFrames : MethodName := ⟨"RelayOrbiter", "takeFrames", "()I"⟩
abbrev k_Orb_takeFrames : zK := (y_Orb_takeFrames, prog_1_method_17_code, 4, some .int)
abbrev y_Lan_look : MethodName := ⟨"RelayOrbiter$LanderLink", "look", "()I"⟩
abbrev k_Lan_look : zK := (y_Lan_look, prog_5_method_5_code, 2, some .int)
abbrev y_Lan_toldLength : MethodName := ⟨"RelayOrbiter$LanderLink", "toldLength", "()I"⟩
abbrev k_Lan_toldLength : zK := (y_Lan_toldLength, prog_5_method_7_code, 1, some .int)
abbrev y_Lan_checkHolds : MethodName := ⟨"RelayOrbiter$LanderLink", "checkHolds", "(I)Z"⟩
abbrev k_Lan_checkHolds : zK := (y_Lan_checkHolds, prog_5_method_8_code, 5, some .boolean)
abbrev y_Orb_check : MethodName := ⟨"RelayOrbiter", "check", "([IIIIII)I"⟩
abbrev k_Orb_check : zK := (y_Orb_check, prog_1_method_18_code, 10, some .int)
abbrev y_Lan_giveUp : MethodName := ⟨"RelayOrbiter$LanderLink", "giveUp", "(I)V"⟩
abbrev k_Lan_giveUp : zK := (y_Lan_giveUp, prog_5_method_4_code, 3, none)
abbrev y_Lan_takeFrame : MethodName := ⟨"RelayOrbiter$LanderLink", "takeFrame", "()V"⟩
abbrev k_Lan_takeFrame : zK := (y_Lan_takeFrame, prog_5_method_6_code, 2, none)
abbrev y_Frm_copy : MethodName := ⟨"RelayOrbiter$Frame", "copy", "([III)V"⟩
abbrev k_Frm_copy : zK := (y_Frm_copy, prog_3_method_2_code, 4, none)
abbrev y_Ses_heed : MethodName := ⟨"RelayOrbiter$Session", "heed", "(LRelayOrbiter$Frame;)V"⟩
abbrev k_Ses_heed : zK := (y_Ses_heed, prog_7_method_4_code, 2, none)
abbrev y_Frm_spacecraft : MethodName := ⟨"RelayOrbiter$Frame", "spacecraft", "()I"⟩
abbrev k_Frm_spacecraft : zK := (y_Frm_spacecraft, prog_3_method_6_code, 1, some .int)
abbrev y_Frm_isDirective : MethodName := ⟨"RelayOrbiter$Frame", "isDirective", "()Z"⟩
abbrev k_Frm_isDirective : zK := (y_Frm_isDirective, prog_3_method_4_code, 1, some .boolean)
abbrev y_Ses_obey : MethodName := ⟨"RelayOrbiter$Session", "obey", "(LRelayOrbiter$Frame;)V"⟩
abbrev k_Ses_obey : zK := (y_Ses_obey, prog_7_method_6_code, 2, none)
abbrev y_Frm_dataLength : MethodName := ⟨"RelayOrbiter$Frame", "dataLength", "()I"⟩
abbrev k_Frm_dataLength : zK := (y_Frm_dataLength, prog_3_method_9_code, 1, some .int)
abbrev y_Frm_data : MethodName := ⟨"RelayOrbiter$Frame", "data", "(I)I"⟩
abbrev k_Frm_data : zK := (y_Frm_data, prog_3_method_10_code, 2, some .int)
abbrev y_Frm_channel : MethodName := ⟨"RelayOrbiter$Frame", "channel", "()I"⟩
abbrev k_Frm_channel : zK := (y_Frm_channel, prog_3_method_7_code, 1, some .int)
abbrev y_Ses_begin : MethodName := ⟨"RelayOrbiter$Session", "begin", "(I)V"⟩
abbrev k_Ses_begin : zK := (y_Ses_begin, prog_7_method_7_code, 2, none)
abbrev y_Ses_isOnFor : MethodName := ⟨"RelayOrbiter$Session", "isOnFor", "(LRelayOrbiter$Frame;)Z"⟩
abbrev k_Ses_isOnFor : zK := (y_Ses_isOnFor, prog_7_method_5_code, 2, some .boolean)
abbrev y_Ses_gather : MethodName := ⟨"RelayOrbiter$Session", "gather", "(LRelayOrbiter$Frame;)V"⟩
abbrev k_Ses_gather : zK := (y_Ses_gather, prog_7_method_12_code, 2, none)
abbrev y_Har_clear : MethodName := ⟨"RelayOrbiter$Harvest", "clear", "()V"⟩
abbrev k_Har_clear : zK := (y_Har_clear, prog_4_method_2_code, 1, none)
abbrev y_Frm_form : MethodName := ⟨"RelayOrbiter$Frame", "form", "()I"⟩
abbrev k_Frm_form : zK := (y_Frm_form, prog_3_method_5_code, 1, some .int)
abbrev y_Ses_appendData : MethodName := ⟨"RelayOrbiter$Session", "appendData", "(LRelayOrbiter$Frame;I)V"⟩
abbrev k_Ses_appendData : zK := (y_Ses_appendData, prog_7_method_14_code, 4, none)
abbrev y_Har_append : MethodName := ⟨"RelayOrbiter$Harvest", "append", "(I)V"⟩
abbrev k_Har_append : zK := (y_Har_append, prog_4_method_3_code, 2, none)
abbrev y_Har_findPackets : MethodName := ⟨"RelayOrbiter$Harvest", "findPackets", "()V"⟩
abbrev k_Har_findPackets : zK := (y_Har_findPackets, prog_4_method_4_code, 4, none)
abbrev y_Har_packetLengthAt : MethodName := ⟨"RelayOrbiter$Harvest", "packetLengthAt", "(I)I"⟩
abbrev k_Har_packetLengthAt : zK := (y_Har_packetLengthAt, prog_4_method_7_code, 3, some .int)
abbrev y_Ses_gatherSegment : MethodName := ⟨"RelayOrbiter$Session", "gatherSegment", "(LRelayOrbiter$Frame;)V"⟩
abbrev k_Ses_gatherSegment : zK := (y_Ses_gatherSegment, prog_7_method_13_code, 6, none)
abbrev y_Har_findOneWholePacket : MethodName := ⟨"RelayOrbiter$Harvest", "findOneWholePacket", "()V"⟩
abbrev k_Har_findOneWholePacket : zK := (y_Har_findOneWholePacket, prog_4_method_5_code, 1, none)
abbrev y_Frm_isExpedited : MethodName := ⟨"RelayOrbiter$Frame", "isExpedited", "()Z"⟩
abbrev k_Frm_isExpedited : zK := (y_Frm_isExpedited, prog_3_method_3_code, 1, some .boolean)
abbrev y_Ses_admitExpedited : MethodName := ⟨"RelayOrbiter$Session", "admitExpedited", "()Z"⟩
abbrev k_Ses_admitExpedited : zK := (y_Ses_admitExpedited, prog_7_method_9_code, 1, some .boolean)
abbrev y_Frm_number : MethodName := ⟨"RelayOrbiter$Frame", "number", "()I"⟩
abbrev k_Frm_number : zK := (y_Frm_number, prog_3_method_8_code, 1, some .int)
abbrev y_Ses_admitSequenced : MethodName := ⟨"RelayOrbiter$Session", "admitSequenced", "(I)Z"⟩
abbrev k_Ses_admitSequenced : zK := (y_Ses_admitSequenced, prog_7_method_10_code, 4, some .boolean)
abbrev y_Har_blocksOfAll : MethodName := ⟨"RelayOrbiter$Harvest", "blocksOfAll", "()I"⟩
abbrev k_Har_blocksOfAll : zK := (y_Har_blocksOfAll, prog_4_method_6_code, 3, some .int)
abbrev y_Sto_hasRoom : MethodName := ⟨"RelayOrbiter$Store", "hasRoom", "(I)Z"⟩
abbrev k_Sto_hasRoom : zK := (y_Sto_hasRoom, prog_8_method_3_code, 2, some .boolean)
abbrev y_Ses_settleStream : MethodName := ⟨"RelayOrbiter$Session", "settleStream", "()V"⟩
abbrev k_Ses_settleStream : zK := (y_Ses_settleStream, prog_7_method_15_code, 1, none)
abbrev y_Str_hold : MethodName := ⟨"RelayOrbiter$Stream", "hold", "(LRelayOrbiter$Harvest;)V"⟩
abbrev k_Str_hold : zK := (y_Str_hold, prog_9_method_3_code, 2, none)
abbrev y_Ses_keepWhatFits : MethodName := ⟨"RelayOrbiter$Session", "keepWhatFits", "()V"⟩
abbrev k_Ses_keepWhatFits : zK := (y_Ses_keepWhatFits, prog_7_method_11_code, 2, none)
abbrev y_Sto_add : MethodName := ⟨"RelayOrbiter$Store", "add", "([III)V"⟩
abbrev k_Sto_add : zK := (y_Sto_add, prog_8_method_7_code, 5, none)
abbrev y_Sto_writeBlocks : MethodName := ⟨"RelayOrbiter$Store", "writeBlocks", "(LRelayOrbiter$Packet;[II)V"⟩
abbrev k_Sto_writeBlocks : zK := (y_Sto_writeBlocks, prog_8_method_9_code, 7, none)
abbrev y_Sto_write : MethodName := ⟨"RelayOrbiter$Store", "write", "()V"⟩
abbrev k_Sto_write : zK := (y_Sto_write, prog_8_method_14_code, 1, none)
abbrev y_Sto_renewFullJournal : MethodName := ⟨"RelayOrbiter$Store", "renewFullJournal", "()V"⟩
abbrev k_Sto_renewFullJournal : zK := (y_Sto_renewFullJournal, prog_8_method_10_code, 1, none)
abbrev y_Sto_enterAdded : MethodName := ⟨"RelayOrbiter$Store", "enterAdded", "(LRelayOrbiter$Packet;)V"⟩
abbrev k_Sto_enterAdded : zK := (y_Sto_enterAdded, prog_8_method_11_code, 2, none)
abbrev y_Sto_markBlocks : MethodName := ⟨"RelayOrbiter$Store", "markBlocks", "(LRelayOrbiter$Packet;Z)V"⟩
abbrev k_Sto_markBlocks : zK := (y_Sto_markBlocks, prog_8_method_13_code, 5, none)
abbrev y_Law_report : MethodName := ⟨"RelayOrbiterLaw", "report", "(LRelayOrbiter;[J)I"⟩
abbrev k_Law_report : zK := (y_Law_report, method_7_code, 3, some .int)
abbrev y_Orb_report : MethodName := ⟨"RelayOrbiter", "report", "()I"⟩
abbrev k_Orb_report : zK := (y_Orb_report, prog_1_method_6_code, 1, some .int)
abbrev y_Ses_reportWord : MethodName := ⟨"RelayOrbiter$Session", "reportWord", "()I"⟩
abbrev k_Ses_reportWord : zK := (y_Ses_reportWord, prog_7_method_3_code, 1, some .int)
abbrev y_Law_send : MethodName := ⟨"RelayOrbiterLaw", "send", "(LRelayOrbiter;I[J)I"⟩
abbrev k_Law_send : zK := (y_Law_send, method_8_code, 4, some .int)
abbrev y_Orb_send : MethodName := ⟨"RelayOrbiter", "send", "(I)I"⟩
abbrev k_Orb_send : zK := (y_Orb_send, prog_1_method_7_code, 2, some .int)
abbrev y_Ear_emit : MethodName := ⟨"RelayOrbiter$EarthLink", "emit", "(ILRelayOrbiter$Store;)I"⟩
abbrev k_Ear_emit : zK := (y_Ear_emit, prog_2_method_3_code, 4, some .int)
abbrev y_Ear_putNumber : MethodName := ⟨"RelayOrbiter$EarthLink", "putNumber", "(III)V"⟩
abbrev k_Ear_putNumber : zK := (y_Ear_putNumber, prog_2_method_4_code, 5, none)
abbrev y_Ear_fillZone : MethodName := ⟨"RelayOrbiter$EarthLink", "fillZone", "(ILRelayOrbiter$Store;)I"⟩
abbrev k_Ear_fillZone : zK := (y_Ear_fillZone, prog_2_method_5_code, 7, some .int)
abbrev y_Ear_pointerWith : MethodName := ⟨"RelayOrbiter$EarthLink", "pointerWith", "(LRelayOrbiter$Packet;II)I"⟩
abbrev k_Ear_pointerWith : zK := (y_Ear_pointerWith, prog_2_method_6_code, 4, some .int)
abbrev y_Ear_emitPart : MethodName := ⟨"RelayOrbiter$EarthLink", "emitPart", "(LRelayOrbiter$Packet;ILRelayOrbiter$Store;)I"⟩
abbrev k_Ear_emitPart : zK := (y_Ear_emitPart, prog_2_method_7_code, 5, some .int)
abbrev y_Sto_byteOf : MethodName := ⟨"RelayOrbiter$Store", "byteOf", "(LRelayOrbiter$Packet;I)I"⟩
abbrev k_Sto_byteOf : zK := (y_Sto_byteOf, prog_8_method_5_code, 3, some .int)
abbrev y_Sto_dropEmitted : MethodName := ⟨"RelayOrbiter$Store", "dropEmitted", "()V"⟩
abbrev k_Sto_dropEmitted : zK := (y_Sto_dropEmitted, prog_8_method_8_code, 3, none)
abbrev y_Sto_enterDropped : MethodName := ⟨"RelayOrbiter$Store", "enterDropped", "(I)V"⟩
abbrev k_Sto_enterDropped : zK := (y_Sto_enterDropped, prog_8_method_12_code, 4, none)
abbrev y_Law_sent : MethodName := ⟨"RelayOrbiterLaw", "sent", "(LRelayOrbiter;I[J)I"⟩
abbrev k_Law_sent : zK := (y_Law_sent, method_9_code, 4, some .int)
abbrev y_Orb_sent : MethodName := ⟨"RelayOrbiter", "sent", "(I)I"⟩
abbrev k_Orb_sent : zK := (y_Orb_sent, prog_1_method_8_code, 2, some .int)
abbrev y_Ear_hasByte : MethodName := ⟨"RelayOrbiter$EarthLink", "hasByte", "(I)Z"⟩
abbrev k_Ear_hasByte : zK := (y_Ear_hasByte, prog_2_method_2_code, 2, some .boolean)
abbrev y_Law_fail : MethodName := ⟨"RelayOrbiterLaw", "fail", "(LRelayOrbiter;I)I"⟩
abbrev k_Law_fail : zK := (y_Law_fail, method_10_code, 3, some .int)
abbrev y_Orb_fail : MethodName := ⟨"RelayOrbiter", "fail", "(I)V"⟩
abbrev k_Orb_fail : zK := (y_Orb_fail, prog_1_method_9_code, 2, none)
abbrev y_Law_store : MethodName := ⟨"RelayOrbiterLaw", "store", "(LRelayOrbiter;I[J)I"⟩
abbrev k_Law_store : zK := (y_Law_store, method_11_code, 4, some .int)
abbrev y_Orb_store : MethodName := ⟨"RelayOrbiter", "store", "(I)I"⟩
abbrev k_Orb_store : zK := (y_Orb_store, prog_1_method_12_code, 2, some .int)
abbrev y_Law_packet : MethodName := ⟨"RelayOrbiterLaw", "packet", "(LRelayOrbiter;II[J)I"⟩
abbrev k_Law_packet : zK := (y_Law_packet, method_12_code, 5, some .int)
abbrev y_Orb_packet : MethodName := ⟨"RelayOrbiter", "packet", "(II)I"⟩
abbrev k_Orb_packet : zK := (y_Orb_packet, prog_1_method_13_code, 4, some .int)
abbrev y_Sto_has : MethodName := ⟨"RelayOrbiter$Store", "has", "(I)Z"⟩
abbrev k_Sto_has : zK := (y_Sto_has, prog_8_method_4_code, 2, some .boolean)
abbrev y_Law_content : MethodName := ⟨"RelayOrbiterLaw", "content", "(LRelayOrbiter;II[J)I"⟩
abbrev k_Law_content : zK := (y_Law_content, method_13_code, 5, some .int)
abbrev y_Orb_content : MethodName := ⟨"RelayOrbiter", "content", "(II)I"⟩
abbrev k_Orb_content : zK := (y_Orb_content, prog_1_method_14_code, 3, some .int)
abbrev y_Mod_init : MethodName := ⟨"RelayOrbiterModel", "<init>", "()V"⟩
abbrev k_Mod_init : zK := (y_Mod_init, prog_12_method_1_code, 2, none)
abbrev y_Mod_thrown : MethodName := ⟨"RelayOrbiterModel", "thrown", "()I"⟩
abbrev k_Mod_thrown : zK := (y_Mod_thrown, prog_12_method_22_code, 1, some .int)
abbrev y_Mod_window : MethodName := ⟨"RelayOrbiterModel", "window", "(IIII)V"⟩
abbrev k_Mod_window : zK := (y_Mod_window, prog_12_method_23_code, 5, none)
abbrev y_Mod_minute : MethodName := ⟨"RelayOrbiterModel", "minute", "(I)I"⟩
abbrev k_Mod_minute : zK := (y_Mod_minute, prog_12_method_24_code, 2, some .int)
abbrev y_Mod_seen : MethodName := ⟨"RelayOrbiterModel", "seen", "(I)Z"⟩
abbrev k_Mod_seen : zK := (y_Mod_seen, prog_12_method_25_code, 2, some .boolean)
abbrev y_Mod_seenBy : MethodName := ⟨"RelayOrbiterModel", "seenBy", "(I)Z"⟩
abbrev k_Mod_seenBy : zK := (y_Mod_seenBy, prog_12_method_19_code, 4, some .boolean)
abbrev y_Mod_receive : MethodName := ⟨"RelayOrbiterModel", "receive", "(II)I"⟩
abbrev k_Mod_receive : zK := (y_Mod_receive, prog_12_method_26_code, 5, some .int)
abbrev y_Mod_byteIn : MethodName := ⟨"RelayOrbiterModel", "byteIn", "(I)I"⟩
abbrev k_Mod_byteIn : zK := (y_Mod_byteIn, prog_12_method_18_code, 5, some .int)
abbrev y_Mod_look : MethodName := ⟨"RelayOrbiterModel", "look", "()I"⟩
abbrev k_Mod_look : zK := (y_Mod_look, prog_12_method_17_code, 2, some .int)
abbrev y_Mod_checked : MethodName := ⟨"RelayOrbiterModel", "checked", "(I)Z"⟩
abbrev k_Mod_checked : zK := (y_Mod_checked, prog_12_method_15_code, 6, some .boolean)
abbrev y_Mod_taken : MethodName := ⟨"RelayOrbiterModel", "taken", "(I)V"⟩
abbrev k_Mod_taken : zK := (y_Mod_taken, prog_12_method_14_code, 7, none)
abbrev y_Mod_directive : MethodName := ⟨"RelayOrbiterModel", "directive", "(III)V"⟩
abbrev k_Mod_directive : zK := (y_Mod_directive, prog_12_method_13_code, 5, none)
abbrev y_Mod_packetsIn : MethodName := ⟨"RelayOrbiterModel", "packetsIn", "(IIZ)Z"⟩
abbrev k_Mod_packetsIn : zK := (y_Mod_packetsIn, prog_12_method_10_code, 7, some .boolean)
abbrev y_Mod_packetAt : MethodName := ⟨"RelayOrbiterModel", "packetAt", "([III)I"⟩
abbrev k_Mod_packetAt : zK := (y_Mod_packetAt, prog_12_method_8_code, 4, some .int)
abbrev y_Mod_blocksOf : MethodName := ⟨"RelayOrbiterModel", "blocksOf", "(I)I"⟩
abbrev k_Mod_blocksOf : zK := (y_Mod_blocksOf, prog_12_method_9_code, 1, some .int)
abbrev y_Mod_freeBlocks : MethodName := ⟨"RelayOrbiterModel", "freeBlocks", "()I"⟩
abbrev k_Mod_freeBlocks : zK := (y_Mod_freeBlocks, prog_12_method_5_code, 3, some .int)
abbrev y_Mod_isFree : MethodName := ⟨"RelayOrbiterModel", "isFree", "(I)Z"⟩
abbrev k_Mod_isFree : zK := (y_Mod_isFree, prog_12_method_4_code, 4, some .boolean)
abbrev y_Mod_keepPacket : MethodName := ⟨"RelayOrbiterModel", "keepPacket", "([III)V"⟩
abbrev k_Mod_keepPacket : zK := (y_Mod_keepPacket, prog_12_method_6_code, 6, none)
abbrev y_Mod_write : MethodName := ⟨"RelayOrbiterModel", "write", "()Z"⟩
abbrev k_Mod_write : zK := (y_Mod_write, prog_12_method_2_code, 1, some .boolean)
abbrev y_Mod_journal : MethodName := ⟨"RelayOrbiterModel", "journal", "()Z"⟩
abbrev k_Mod_journal : zK := (y_Mod_journal, prog_12_method_3_code, 1, some .boolean)
abbrev y_Mod_segmentIn : MethodName := ⟨"RelayOrbiterModel", "segmentIn", "(IIZ)Z"⟩
abbrev k_Mod_segmentIn : zK := (y_Mod_segmentIn, prog_12_method_12_code, 10, some .boolean)
abbrev y_Mod_goesOn : MethodName := ⟨"RelayOrbiterModel", "goesOn", "(III)Z"⟩
abbrev k_Mod_goesOn : zK := (y_Mod_goesOn, prog_12_method_11_code, 5, some .boolean)
abbrev y_Mod_leave : MethodName := ⟨"RelayOrbiterModel", "leave", "(I)V"⟩
abbrev k_Mod_leave : zK := (y_Mod_leave, prog_12_method_16_code, 3, none)
abbrev y_Mod_report : MethodName := ⟨"RelayOrbiterModel", "report", "()I"⟩
abbrev k_Mod_report : zK := (y_Mod_report, prog_12_method_27_code, 1, some .int)
abbrev y_Mod_send : MethodName := ⟨"RelayOrbiterModel", "send", "(I)I"⟩
abbrev k_Mod_send : zK := (y_Mod_send, prog_12_method_28_code, 4, some .int)
abbrev y_Mod_fill : MethodName := ⟨"RelayOrbiterModel", "fill", "(I)V"⟩
abbrev k_Mod_fill : zK := (y_Mod_fill, prog_12_method_20_code, 6, none)
abbrev y_Mod_check16 : MethodName := ⟨"RelayOrbiterModel", "check16", "()V"⟩
abbrev k_Mod_check16 : zK := (y_Mod_check16, prog_12_method_21_code, 5, none)
abbrev y_Mod_drop : MethodName := ⟨"RelayOrbiterModel", "drop", "(I)V"⟩
abbrev k_Mod_drop : zK := (y_Mod_drop, prog_12_method_7_code, 4, none)
abbrev y_Mod_sent : MethodName := ⟨"RelayOrbiterModel", "sent", "(I)I"⟩
abbrev k_Mod_sent : zK := (y_Mod_sent, prog_12_method_29_code, 2, some .int)
abbrev y_Mod_fail : MethodName := ⟨"RelayOrbiterModel", "fail", "(I)V"⟩
abbrev k_Mod_fail : zK := (y_Mod_fail, prog_12_method_30_code, 2, none)
abbrev y_Mod_power : MethodName := ⟨"RelayOrbiterModel", "power", "()I"⟩
abbrev k_Mod_power : zK := (y_Mod_power, prog_12_method_31_code, 2, some .int)
abbrev y_Mod_out : MethodName := ⟨"RelayOrbiterModel", "out", "()Z"⟩
abbrev k_Mod_out : zK := (y_Mod_out, prog_12_method_32_code, 1, some .boolean)
abbrev y_Mod_store : MethodName := ⟨"RelayOrbiterModel", "store", "(I)I"⟩
abbrev k_Mod_store : zK := (y_Mod_store, prog_12_method_33_code, 2, some .int)
abbrev y_Mod_packet : MethodName := ⟨"RelayOrbiterModel", "packet", "(II)I"⟩
abbrev k_Mod_packet : zK := (y_Mod_packet, prog_12_method_34_code, 3, some .int)
abbrev y_Mod_content : MethodName := ⟨"RelayOrbiterModel", "content", "(II)I"⟩
abbrev k_Mod_content : zK := (y_Mod_content, prog_12_method_35_code, 3, some .int)
abbrev y_Law_law : MethodName := ⟨"RelayOrbiterLaw", "law", "([I)Z"⟩
abbrev k_Law_law : zK := (y_Law_law, code, 7, some .boolean)
set_option maxRecDepth 20000 in
theorem l_Law_56 : ML "RelayOrbiterLaw" 56 k_Orb_init 0 := ⟨Or.inl (tb_in 77 (by decide +kernel) (by decide +kernel)), tb_in 79 (by decide +kernel) (by decide +kernel), tb_in 45 (by decide +kernel) (by decide +kernel), ⟨by decide, by decide⟩, by decide +kernel⟩
set_option maxRecDepth 20000 in
theorem l_Orb_9 : ML "RelayOrbiter" 9 k_Win_init 0 := ⟨Or.inr ⟨"RelayOrbiter", tb_in 85 (by decide +kernel) (by decide +kernel)⟩, tb_in 87 (by decide +kernel) (by decide +kernel), tb_in 46 (by decide +kernel) (by decide +kernel), ⟨by decide, by decide⟩, by decide +kernel⟩
set_option maxRecDepth 20000 in
theorem f_Win_7 : FG "RelayOrbiter$Window" 7 1 0 false .int := ⟨R_Win, T_Win, 3, ty_Win, ci_Win, by decide, rfl, rfl, rfl, Or.inl (tb_in 89 (by decide +kernel) (by decide +kernel))⟩
set_option maxRecDepth 20000 in
theorem f_Win_13 : FG "RelayOrbiter$Window" 13 1 1 false .int := ⟨R_Win, T_Win, 3, ty_Win, ci_Win, by decide, rfl, rfl, rfl, Or.inl (tb_in 90 (by decide +kernel) (by decide +kernel))⟩
set_option maxRecDepth 20000 in
theorem f_Win_16 : FG "RelayOrbiter$Window" 16 1 2 false .int := ⟨R_Win, T_Win, 3, ty_Win, ci_Win, by decide, rfl, rfl, rfl, Or.inl (tb_in 91 (by decide +kernel) (by decide +kernel))⟩
set_option maxRecDepth 20000 in
theorem l_Orb_21 : ML "RelayOrbiter" 21 k_Sto_init 0 := ⟨Or.inl (tb_in 101 (by decide +kernel) (by decide +kernel)), tb_in 103 (by decide +kernel) (by decide +kernel), tb_in 47 (by decide +kernel) (by decide +kernel), ⟨by decide, by decide⟩, by decide +kernel⟩
set_option maxRecDepth 20000 in
theorem l_Sto_46 : ML "RelayOrbiter$Store" 46 k_Pkt_init 0 := ⟨Or.inr ⟨"RelayOrbiter", tb_in 108 (by decide +kernel) (by decide +kernel)⟩, tb_in 110 (by decide +kernel) (by decide +kernel), tb_in 48 (by decide +kernel) (by decide +kernel), ⟨by decide, by decide⟩, by decide +kernel⟩
set_option maxRecDepth 20000 in
theorem l_Pkt_9 : ML "RelayOrbiter$Packet" 9 k_Sto_blocksFor 1 := ⟨Or.inl (tb_in 112 (by decide +kernel) (by decide +kernel)), tb_in 114 (by decide +kernel) (by decide +kernel), tb_in 47 (by decide +kernel) (by decide +kernel), ⟨by decide, by decide⟩, by decide +kernel⟩
set_option maxRecDepth 20000 in
theorem f_Pkt_15 : FG "RelayOrbiter$Packet" 15 3 0 true (.array .int) := ⟨R_Pkt, T_Pkt, 5, ty_Pkt, ci_Pkt, by decide, rfl, rfl, rfl, Or.inl (tb_in 115 (by decide +kernel) (by decide +kernel))⟩
set_option maxRecDepth 20000 in
theorem f_Sto_47 : FG "RelayOrbiter$Store" 47 3 0 true (.array .int) := ⟨R_Pkt, T_Pkt, 5, ty_Pkt, ci_Pkt, by decide, rfl, rfl, rfl, Or.inr ⟨"RelayOrbiter", tb_in 116 (by decide +kernel) (by decide +kernel)⟩⟩
set_option maxRecDepth 20000 in
theorem f_Orb_146 : FG "RelayOrbiter" 146 3 0 true (.array .int) := ⟨R_Pkt, T_Pkt, 5, ty_Pkt, ci_Pkt, by decide, rfl, rfl, rfl, Or.inr ⟨"RelayOrbiter", tb_in 117 (by decide +kernel) (by decide +kernel)⟩⟩
set_option maxRecDepth 20000 in
theorem f_Pkt_19 : FG "RelayOrbiter$Packet" 19 3 1 false .int := ⟨R_Pkt, T_Pkt, 5, ty_Pkt, ci_Pkt, by decide, rfl, rfl, rfl, Or.inl (tb_in 118 (by decide +kernel) (by decide +kernel))⟩
set_option maxRecDepth 20000 in
theorem f_Sto_97 : FG "RelayOrbiter$Store" 97 3 1 false .int := ⟨R_Pkt, T_Pkt, 5, ty_Pkt, ci_Pkt, by decide, rfl, rfl, rfl, Or.inr ⟨"RelayOrbiter", tb_in 119 (by decide +kernel) (by decide +kernel)⟩⟩
set_option maxRecDepth 20000 in
theorem f_Orb_135 : FG "RelayOrbiter" 135 3 1 false .int := ⟨R_Pkt, T_Pkt, 5, ty_Pkt, ci_Pkt, by decide, rfl, rfl, rfl, Or.inr ⟨"RelayOrbiter", tb_in 120 (by decide +kernel) (by decide +kernel)⟩⟩
set_option maxRecDepth 20000 in
theorem f_Pkt_23 : FG "RelayOrbiter$Packet" 23 3 2 false .int := ⟨R_Pkt, T_Pkt, 5, ty_Pkt, ci_Pkt, by decide, rfl, rfl, rfl, Or.inl (tb_in 121 (by decide +kernel) (by decide +kernel))⟩
set_option maxRecDepth 20000 in
theorem f_Ear_70 : FG "RelayOrbiter$EarthLink" 70 3 2 false .int := ⟨R_Pkt, T_Pkt, 5, ty_Pkt, ci_Pkt, by decide, rfl, rfl, rfl, Or.inr ⟨"RelayOrbiter", tb_in 122 (by decide +kernel) (by decide +kernel)⟩⟩
set_option maxRecDepth 20000 in
theorem f_Sto_61 : FG "RelayOrbiter$Store" 61 3 2 false .int := ⟨R_Pkt, T_Pkt, 5, ty_Pkt, ci_Pkt, by decide, rfl, rfl, rfl, Or.inr ⟨"RelayOrbiter", tb_in 123 (by decide +kernel) (by decide +kernel)⟩⟩
set_option maxRecDepth 20000 in
theorem f_Orb_140 : FG "RelayOrbiter" 140 3 2 false .int := ⟨R_Pkt, T_Pkt, 5, ty_Pkt, ci_Pkt, by decide, rfl, rfl, rfl, Or.inr ⟨"RelayOrbiter", tb_in 124 (by decide +kernel) (by decide +kernel)⟩⟩
set_option maxRecDepth 20000 in
theorem f_Pkt_26 : FG "RelayOrbiter$Packet" 26 3 3 false .int := ⟨R_Pkt, T_Pkt, 5, ty_Pkt, ci_Pkt, by decide, rfl, rfl, rfl, Or.inl (tb_in 125 (by decide +kernel) (by decide +kernel))⟩
set_option maxRecDepth 20000 in
theorem f_Ear_54 : FG "RelayOrbiter$EarthLink" 54 3 3 false .int := ⟨R_Pkt, T_Pkt, 5, ty_Pkt, ci_Pkt, by decide, rfl, rfl, rfl, Or.inr ⟨"RelayOrbiter", tb_in 126 (by decide +kernel) (by decide +kernel)⟩⟩
set_option maxRecDepth 20000 in
theorem f_Sto_64 : FG "RelayOrbiter$Store" 64 3 3 false .int := ⟨R_Pkt, T_Pkt, 5, ty_Pkt, ci_Pkt, by decide, rfl, rfl, rfl, Or.inr ⟨"RelayOrbiter", tb_in 127 (by decide +kernel) (by decide +kernel)⟩⟩
set_option maxRecDepth 20000 in
theorem f_Orb_143 : FG "RelayOrbiter" 143 3 3 false .int := ⟨R_Pkt, T_Pkt, 5, ty_Pkt, ci_Pkt, by decide, rfl, rfl, rfl, Or.inr ⟨"RelayOrbiter", tb_in 128 (by decide +kernel) (by decide +kernel)⟩⟩
set_option maxRecDepth 20000 in
theorem f_Pkt_29 : FG "RelayOrbiter$Packet" 29 3 4 false .int := ⟨R_Pkt, T_Pkt, 5, ty_Pkt, ci_Pkt, by decide, rfl, rfl, rfl, Or.inl (tb_in 129 (by decide +kernel) (by decide +kernel))⟩
set_option maxRecDepth 20000 in
theorem f_Ear_67 : FG "RelayOrbiter$EarthLink" 67 3 4 false .int := ⟨R_Pkt, T_Pkt, 5, ty_Pkt, ci_Pkt, by decide, rfl, rfl, rfl, Or.inr ⟨"RelayOrbiter", tb_in 130 (by decide +kernel) (by decide +kernel)⟩⟩
set_option maxRecDepth 20000 in
theorem f_Sto_50 : FG "RelayOrbiter$Store" 50 3 4 false .int := ⟨R_Pkt, T_Pkt, 5, ty_Pkt, ci_Pkt, by decide, rfl, rfl, rfl, Or.inr ⟨"RelayOrbiter", tb_in 131 (by decide +kernel) (by decide +kernel)⟩⟩
set_option maxRecDepth 20000 in
theorem f_Orb_149 : FG "RelayOrbiter" 149 3 4 false .int := ⟨R_Pkt, T_Pkt, 5, ty_Pkt, ci_Pkt, by decide, rfl, rfl, rfl, Or.inr ⟨"RelayOrbiter", tb_in 132 (by decide +kernel) (by decide +kernel)⟩⟩
set_option maxRecDepth 20000 in
theorem f_Sto_9 : FG "RelayOrbiter$Store" 9 2 0 true (.array .int) := ⟨R_Sto, T_Sto, 10, ty_Sto, ci_Sto, by decide, rfl, rfl, rfl, Or.inl (tb_in 146 (by decide +kernel) (by decide +kernel))⟩
set_option maxRecDepth 20000 in
theorem f_Sto_13 : FG "RelayOrbiter$Store" 13 2 1 true (.array .boolean) := ⟨R_Sto, T_Sto, 10, ty_Sto, ci_Sto, by decide, rfl, rfl, rfl, Or.inl (tb_in 147 (by decide +kernel) (by decide +kernel))⟩
set_option maxRecDepth 20000 in
theorem f_Sto_19 : FG "RelayOrbiter$Store" 19 2 2 true (.array (.object "RelayOrbiter$Packet")) := ⟨R_Sto, T_Sto, 10, ty_Sto, ci_Sto, by decide, rfl, rfl, rfl, Or.inl (tb_in 148 (by decide +kernel) (by decide +kernel))⟩
set_option maxRecDepth 20000 in
theorem f_Ear_50 : FG "RelayOrbiter$EarthLink" 50 2 2 true (.array (.object "RelayOrbiter$Packet")) := ⟨R_Sto, T_Sto, 10, ty_Sto, ci_Sto, by decide, rfl, rfl, rfl, Or.inr ⟨"RelayOrbiter", tb_in 149 (by decide +kernel) (by decide +kernel)⟩⟩
set_option maxRecDepth 20000 in
theorem f_Orb_131 : FG "RelayOrbiter" 131 2 2 true (.array (.object "RelayOrbiter$Packet")) := ⟨R_Sto, T_Sto, 10, ty_Sto, ci_Sto, by decide, rfl, rfl, rfl, Or.inr ⟨"RelayOrbiter", tb_in 150 (by decide +kernel) (by decide +kernel)⟩⟩
set_option maxRecDepth 20000 in
theorem f_Sto_23 : FG "RelayOrbiter$Store" 23 2 3 false .int := ⟨R_Sto, T_Sto, 10, ty_Sto, ci_Sto, by decide, rfl, rfl, rfl, Or.inl (tb_in 151 (by decide +kernel) (by decide +kernel))⟩
set_option maxRecDepth 20000 in
theorem f_Ear_46 : FG "RelayOrbiter$EarthLink" 46 2 3 false .int := ⟨R_Sto, T_Sto, 10, ty_Sto, ci_Sto, by decide, rfl, rfl, rfl, Or.inr ⟨"RelayOrbiter", tb_in 152 (by decide +kernel) (by decide +kernel)⟩⟩
set_option maxRecDepth 20000 in
theorem f_Orb_116 : FG "RelayOrbiter" 116 2 3 false .int := ⟨R_Sto, T_Sto, 10, ty_Sto, ci_Sto, by decide, rfl, rfl, rfl, Or.inr ⟨"RelayOrbiter", tb_in 153 (by decide +kernel) (by decide +kernel)⟩⟩
set_option maxRecDepth 20000 in
theorem f_Sto_27 : FG "RelayOrbiter$Store" 27 2 4 false .int := ⟨R_Sto, T_Sto, 10, ty_Sto, ci_Sto, by decide, rfl, rfl, rfl, Or.inl (tb_in 154 (by decide +kernel) (by decide +kernel))⟩
set_option maxRecDepth 20000 in
theorem f_Orb_119 : FG "RelayOrbiter" 119 2 4 false .int := ⟨R_Sto, T_Sto, 10, ty_Sto, ci_Sto, by decide, rfl, rfl, rfl, Or.inr ⟨"RelayOrbiter", tb_in 155 (by decide +kernel) (by decide +kernel)⟩⟩
set_option maxRecDepth 20000 in
theorem f_Sto_30 : FG "RelayOrbiter$Store" 30 2 5 false .int := ⟨R_Sto, T_Sto, 10, ty_Sto, ci_Sto, by decide, rfl, rfl, rfl, Or.inl (tb_in 156 (by decide +kernel) (by decide +kernel))⟩
set_option maxRecDepth 20000 in
theorem f_Sto_33 : FG "RelayOrbiter$Store" 33 2 6 false .int := ⟨R_Sto, T_Sto, 10, ty_Sto, ci_Sto, by decide, rfl, rfl, rfl, Or.inl (tb_in 157 (by decide +kernel) (by decide +kernel))⟩
set_option maxRecDepth 20000 in
theorem f_Orb_122 : FG "RelayOrbiter" 122 2 6 false .int := ⟨R_Sto, T_Sto, 10, ty_Sto, ci_Sto, by decide, rfl, rfl, rfl, Or.inr ⟨"RelayOrbiter", tb_in 158 (by decide +kernel) (by decide +kernel)⟩⟩
set_option maxRecDepth 20000 in
theorem f_Sto_36 : FG "RelayOrbiter$Store" 36 2 7 false .int := ⟨R_Sto, T_Sto, 10, ty_Sto, ci_Sto, by decide, rfl, rfl, rfl, Or.inl (tb_in 159 (by decide +kernel) (by decide +kernel))⟩
set_option maxRecDepth 20000 in
theorem f_Orb_125 : FG "RelayOrbiter" 125 2 7 false .int := ⟨R_Sto, T_Sto, 10, ty_Sto, ci_Sto, by decide, rfl, rfl, rfl, Or.inr ⟨"RelayOrbiter", tb_in 160 (by decide +kernel) (by decide +kernel)⟩⟩
set_option maxRecDepth 20000 in
theorem f_Sto_39 : FG "RelayOrbiter$Store" 39 2 8 false .int := ⟨R_Sto, T_Sto, 10, ty_Sto, ci_Sto, by decide, rfl, rfl, rfl, Or.inl (tb_in 161 (by decide +kernel) (by decide +kernel))⟩
set_option maxRecDepth 20000 in
theorem f_Orb_106 : FG "RelayOrbiter" 106 2 8 false .int := ⟨R_Sto, T_Sto, 10, ty_Sto, ci_Sto, by decide, rfl, rfl, rfl, Or.inr ⟨"RelayOrbiter", tb_in 162 (by decide +kernel) (by decide +kernel)⟩⟩
set_option maxRecDepth 20000 in
theorem f_Sto_42 : FG "RelayOrbiter$Store" 42 2 9 false .boolean := ⟨R_Sto, T_Sto, 10, ty_Sto, ci_Sto, by decide, rfl, rfl, rfl, Or.inl (tb_in 163 (by decide +kernel) (by decide +kernel))⟩
set_option maxRecDepth 20000 in
theorem f_Orb_71 : FG "RelayOrbiter" 71 2 9 false .boolean := ⟨R_Sto, T_Sto, 10, ty_Sto, ci_Sto, by decide, rfl, rfl, rfl, Or.inr ⟨"RelayOrbiter", tb_in 164 (by decide +kernel) (by decide +kernel)⟩⟩
set_option maxRecDepth 20000 in
theorem l_Orb_28 : ML "RelayOrbiter" 28 k_Ses_init 1 := ⟨Or.inl (tb_in 188 (by decide +kernel) (by decide +kernel)), tb_in 190 (by decide +kernel) (by decide +kernel), tb_in 49 (by decide +kernel) (by decide +kernel), ⟨by decide, by decide⟩, by decide +kernel⟩
set_option maxRecDepth 20000 in
theorem l_Ses_11 : ML "RelayOrbiter$Session" 11 k_Har_init 0 := ⟨Or.inr ⟨"RelayOrbiter", tb_in 194 (by decide +kernel) (by decide +kernel)⟩, tb_in 196 (by decide +kernel) (by decide +kernel), tb_in 50 (by decide +kernel) (by decide +kernel), ⟨by decide, by decide⟩, by decide +kernel⟩
set_option maxRecDepth 20000 in
theorem f_Har_9 : FG "RelayOrbiter$Harvest" 9 5 0 true (.array .int) := ⟨R_Har, T_Har, 5, ty_Har, ci_Har, by decide, rfl, rfl, rfl, Or.inl (tb_in 198 (by decide +kernel) (by decide +kernel))⟩
set_option maxRecDepth 20000 in
theorem f_Str_26 : FG "RelayOrbiter$Stream" 26 5 0 true (.array .int) := ⟨R_Har, T_Har, 5, ty_Har, ci_Har, by decide, rfl, rfl, rfl, Or.inr ⟨"RelayOrbiter", tb_in 199 (by decide +kernel) (by decide +kernel)⟩⟩
set_option maxRecDepth 20000 in
theorem f_Ses_124 : FG "RelayOrbiter$Session" 124 5 0 true (.array .int) := ⟨R_Har, T_Har, 5, ty_Har, ci_Har, by decide, rfl, rfl, rfl, Or.inr ⟨"RelayOrbiter", tb_in 200 (by decide +kernel) (by decide +kernel)⟩⟩
set_option maxRecDepth 20000 in
theorem f_Har_15 : FG "RelayOrbiter$Harvest" 15 5 1 true (.array .int) := ⟨R_Har, T_Har, 5, ty_Har, ci_Har, by decide, rfl, rfl, rfl, Or.inl (tb_in 201 (by decide +kernel) (by decide +kernel))⟩
set_option maxRecDepth 20000 in
theorem f_Ses_128 : FG "RelayOrbiter$Session" 128 5 1 true (.array .int) := ⟨R_Har, T_Har, 5, ty_Har, ci_Har, by decide, rfl, rfl, rfl, Or.inr ⟨"RelayOrbiter", tb_in 202 (by decide +kernel) (by decide +kernel)⟩⟩
set_option maxRecDepth 20000 in
theorem f_Har_18 : FG "RelayOrbiter$Harvest" 18 5 2 true (.array .int) := ⟨R_Har, T_Har, 5, ty_Har, ci_Har, by decide, rfl, rfl, rfl, Or.inl (tb_in 203 (by decide +kernel) (by decide +kernel))⟩
set_option maxRecDepth 20000 in
theorem f_Ses_131 : FG "RelayOrbiter$Session" 131 5 2 true (.array .int) := ⟨R_Har, T_Har, 5, ty_Har, ci_Har, by decide, rfl, rfl, rfl, Or.inr ⟨"RelayOrbiter", tb_in 204 (by decide +kernel) (by decide +kernel)⟩⟩
set_option maxRecDepth 20000 in
theorem f_Har_21 : FG "RelayOrbiter$Harvest" 21 5 3 false .int := ⟨R_Har, T_Har, 5, ty_Har, ci_Har, by decide, rfl, rfl, rfl, Or.inl (tb_in 205 (by decide +kernel) (by decide +kernel))⟩
set_option maxRecDepth 20000 in
theorem f_Str_23 : FG "RelayOrbiter$Stream" 23 5 3 false .int := ⟨R_Har, T_Har, 5, ty_Har, ci_Har, by decide, rfl, rfl, rfl, Or.inr ⟨"RelayOrbiter", tb_in 206 (by decide +kernel) (by decide +kernel)⟩⟩
set_option maxRecDepth 20000 in
theorem f_Har_25 : FG "RelayOrbiter$Harvest" 25 5 4 false .int := ⟨R_Har, T_Har, 5, ty_Har, ci_Har, by decide, rfl, rfl, rfl, Or.inl (tb_in 207 (by decide +kernel) (by decide +kernel))⟩
set_option maxRecDepth 20000 in
theorem f_Ses_121 : FG "RelayOrbiter$Session" 121 5 4 false .int := ⟨R_Har, T_Har, 5, ty_Har, ci_Har, by decide, rfl, rfl, rfl, Or.inr ⟨"RelayOrbiter", tb_in 208 (by decide +kernel) (by decide +kernel)⟩⟩
set_option maxRecDepth 20000 in
theorem l_Ses_52 : ML "RelayOrbiter$Session" 52 k_Str_init 0 := ⟨Or.inr ⟨"RelayOrbiter", tb_in 223 (by decide +kernel) (by decide +kernel)⟩, tb_in 225 (by decide +kernel) (by decide +kernel), tb_in 51 (by decide +kernel) (by decide +kernel), ⟨by decide, by decide⟩, by decide +kernel⟩
set_option maxRecDepth 20000 in
theorem f_Str_9 : FG "RelayOrbiter$Stream" 9 6 0 true (.array .int) := ⟨R_Str, T_Str, 3, ty_Str, ci_Str, by decide, rfl, rfl, rfl, Or.inl (tb_in 227 (by decide +kernel) (by decide +kernel))⟩
set_option maxRecDepth 20000 in
theorem f_Ses_162 : FG "RelayOrbiter$Session" 162 6 0 true (.array .int) := ⟨R_Str, T_Str, 3, ty_Str, ci_Str, by decide, rfl, rfl, rfl, Or.inr ⟨"RelayOrbiter", tb_in 228 (by decide +kernel) (by decide +kernel)⟩⟩
set_option maxRecDepth 20000 in
theorem f_Str_15 : FG "RelayOrbiter$Stream" 15 6 1 false .int := ⟨R_Str, T_Str, 3, ty_Str, ci_Str, by decide, rfl, rfl, rfl, Or.inl (tb_in 229 (by decide +kernel) (by decide +kernel))⟩
set_option maxRecDepth 20000 in
theorem f_Ses_157 : FG "RelayOrbiter$Session" 157 6 1 false .int := ⟨R_Str, T_Str, 3, ty_Str, ci_Str, by decide, rfl, rfl, rfl, Or.inr ⟨"RelayOrbiter", tb_in 230 (by decide +kernel) (by decide +kernel)⟩⟩
set_option maxRecDepth 20000 in
theorem f_Str_19 : FG "RelayOrbiter$Stream" 19 6 2 false .boolean := ⟨R_Str, T_Str, 3, ty_Str, ci_Str, by decide, rfl, rfl, rfl, Or.inl (tb_in 231 (by decide +kernel) (by decide +kernel))⟩
set_option maxRecDepth 20000 in
theorem f_Ses_154 : FG "RelayOrbiter$Session" 154 6 2 false .boolean := ⟨R_Str, T_Str, 3, ty_Str, ci_Str, by decide, rfl, rfl, rfl, Or.inr ⟨"RelayOrbiter", tb_in 232 (by decide +kernel) (by decide +kernel)⟩⟩
set_option maxRecDepth 20000 in
theorem f_Ses_48 : FG "RelayOrbiter$Session" 48 4 0 true (.object "RelayOrbiter$Store") := ⟨R_Ses, T_Ses, 10, ty_Ses, ci_Ses, by decide, rfl, rfl, rfl, Or.inl (tb_in 240 (by decide +kernel) (by decide +kernel))⟩
set_option maxRecDepth 20000 in
theorem f_Ses_12 : FG "RelayOrbiter$Session" 12 4 1 true (.object "RelayOrbiter$Harvest") := ⟨R_Ses, T_Ses, 10, ty_Ses, ci_Ses, by decide, rfl, rfl, rfl, Or.inl (tb_in 241 (by decide +kernel) (by decide +kernel))⟩
set_option maxRecDepth 20000 in
theorem f_Ses_20 : FG "RelayOrbiter$Session" 20 4 2 true (.array (.object "RelayOrbiter$Stream")) := ⟨R_Ses, T_Ses, 10, ty_Ses, ci_Ses, by decide, rfl, rfl, rfl, Or.inl (tb_in 242 (by decide +kernel) (by decide +kernel))⟩
set_option maxRecDepth 20000 in
theorem f_Ses_24 : FG "RelayOrbiter$Session" 24 4 3 false .boolean := ⟨R_Ses, T_Ses, 10, ty_Ses, ci_Ses, by decide, rfl, rfl, rfl, Or.inl (tb_in 243 (by decide +kernel) (by decide +kernel))⟩
set_option maxRecDepth 20000 in
theorem f_Ses_28 : FG "RelayOrbiter$Session" 28 4 4 false .int := ⟨R_Ses, T_Ses, 10, ty_Ses, ci_Ses, by decide, rfl, rfl, rfl, Or.inl (tb_in 244 (by decide +kernel) (by decide +kernel))⟩
set_option maxRecDepth 20000 in
theorem f_Ses_32 : FG "RelayOrbiter$Session" 32 4 5 false .int := ⟨R_Ses, T_Ses, 10, ty_Ses, ci_Ses, by decide, rfl, rfl, rfl, Or.inl (tb_in 245 (by decide +kernel) (by decide +kernel))⟩
set_option maxRecDepth 20000 in
theorem f_Ses_35 : FG "RelayOrbiter$Session" 35 4 6 false .boolean := ⟨R_Ses, T_Ses, 10, ty_Ses, ci_Ses, by decide, rfl, rfl, rfl, Or.inl (tb_in 246 (by decide +kernel) (by decide +kernel))⟩
set_option maxRecDepth 20000 in
theorem f_Ses_38 : FG "RelayOrbiter$Session" 38 4 7 false .int := ⟨R_Ses, T_Ses, 10, ty_Ses, ci_Ses, by decide, rfl, rfl, rfl, Or.inl (tb_in 247 (by decide +kernel) (by decide +kernel))⟩
set_option maxRecDepth 20000 in
theorem f_Ses_41 : FG "RelayOrbiter$Session" 41 4 8 false (.object "RelayOrbiter$Stream") := ⟨R_Ses, T_Ses, 10, ty_Ses, ci_Ses, by decide, rfl, rfl, rfl, Or.inl (tb_in 248 (by decide +kernel) (by decide +kernel))⟩
set_option maxRecDepth 20000 in
theorem f_Ses_45 : FG "RelayOrbiter$Session" 45 4 9 false .boolean := ⟨R_Ses, T_Ses, 10, ty_Ses, ci_Ses, by decide, rfl, rfl, rfl, Or.inl (tb_in 249 (by decide +kernel) (by decide +kernel))⟩
set_option maxRecDepth 20000 in
theorem l_Orb_37 : ML "RelayOrbiter" 37 k_Lan_init 0 := ⟨Or.inr ⟨"RelayOrbiter", tb_in 273 (by decide +kernel) (by decide +kernel)⟩, tb_in 275 (by decide +kernel) (by decide +kernel), tb_in 52 (by decide +kernel) (by decide +kernel), ⟨by decide, by decide⟩, by decide +kernel⟩
set_option maxRecDepth 20000 in
theorem l_Lan_15 : ML "RelayOrbiter$LanderLink" 15 k_Frm_init 0 := ⟨Or.inr ⟨"RelayOrbiter", tb_in 279 (by decide +kernel) (by decide +kernel)⟩, tb_in 281 (by decide +kernel) (by decide +kernel), tb_in 53 (by decide +kernel) (by decide +kernel), ⟨by decide, by decide⟩, by decide +kernel⟩
set_option maxRecDepth 20000 in
theorem f_Frm_9 : FG "RelayOrbiter$Frame" 9 8 0 true (.array .int) := ⟨R_Frm, T_Frm, 2, ty_Frm, ci_Frm, by decide, rfl, rfl, rfl, Or.inl (tb_in 283 (by decide +kernel) (by decide +kernel))⟩
set_option maxRecDepth 20000 in
theorem f_Frm_13 : FG "RelayOrbiter$Frame" 13 8 1 false .int := ⟨R_Frm, T_Frm, 2, ty_Frm, ci_Frm, by decide, rfl, rfl, rfl, Or.inl (tb_in 284 (by decide +kernel) (by decide +kernel))⟩
set_option maxRecDepth 20000 in
theorem f_Lan_11 : FG "RelayOrbiter$LanderLink" 11 7 0 true (.array .int) := ⟨R_Lan, T_Lan, 3, ty_Lan, ci_Lan, by decide, rfl, rfl, rfl, Or.inl (tb_in 290 (by decide +kernel) (by decide +kernel))⟩
set_option maxRecDepth 20000 in
theorem f_Lan_16 : FG "RelayOrbiter$LanderLink" 16 7 1 true (.object "RelayOrbiter$Frame") := ⟨R_Lan, T_Lan, 3, ty_Lan, ci_Lan, by decide, rfl, rfl, rfl, Or.inl (tb_in 291 (by decide +kernel) (by decide +kernel))⟩
set_option maxRecDepth 20000 in
theorem f_Orb_165 : FG "RelayOrbiter" 165 7 1 true (.object "RelayOrbiter$Frame") := ⟨R_Lan, T_Lan, 3, ty_Lan, ci_Lan, by decide, rfl, rfl, rfl, Or.inr ⟨"RelayOrbiter", tb_in 292 (by decide +kernel) (by decide +kernel)⟩⟩
set_option maxRecDepth 20000 in
theorem f_Lan_20 : FG "RelayOrbiter$LanderLink" 20 7 2 false .int := ⟨R_Lan, T_Lan, 3, ty_Lan, ci_Lan, by decide, rfl, rfl, rfl, Or.inl (tb_in 293 (by decide +kernel) (by decide +kernel))⟩
set_option maxRecDepth 20000 in
theorem l_Orb_44 : ML "RelayOrbiter" 44 k_Ear_init 0 := ⟨Or.inr ⟨"RelayOrbiter", tb_in 303 (by decide +kernel) (by decide +kernel)⟩, tb_in 305 (by decide +kernel) (by decide +kernel), tb_in 54 (by decide +kernel) (by decide +kernel), ⟨by decide, by decide⟩, by decide +kernel⟩
set_option maxRecDepth 20000 in
theorem f_Ear_11 : FG "RelayOrbiter$EarthLink" 11 9 0 true (.array .int) := ⟨R_Ear, T_Ear, 3, ty_Ear, ci_Ear, by decide, rfl, rfl, rfl, Or.inl (tb_in 307 (by decide +kernel) (by decide +kernel))⟩
set_option maxRecDepth 20000 in
theorem f_Orb_102 : FG "RelayOrbiter" 102 9 0 true (.array .int) := ⟨R_Ear, T_Ear, 3, ty_Ear, ci_Ear, by decide, rfl, rfl, rfl, Or.inr ⟨"RelayOrbiter", tb_in 308 (by decide +kernel) (by decide +kernel)⟩⟩
set_option maxRecDepth 20000 in
theorem f_Ear_15 : FG "RelayOrbiter$EarthLink" 15 9 1 true (.array .int) := ⟨R_Ear, T_Ear, 3, ty_Ear, ci_Ear, by decide, rfl, rfl, rfl, Or.inl (tb_in 309 (by decide +kernel) (by decide +kernel))⟩
set_option maxRecDepth 20000 in
theorem f_Ear_18 : FG "RelayOrbiter$EarthLink" 18 9 2 false .boolean := ⟨R_Ear, T_Ear, 3, ty_Ear, ci_Ear, by decide, rfl, rfl, rfl, Or.inl (tb_in 310 (by decide +kernel) (by decide +kernel))⟩
set_option maxRecDepth 20000 in
theorem f_Orb_10 : FG "RelayOrbiter" 10 0 0 true (.object "RelayOrbiter$Window") := ⟨R_Orb, T_Orb, 7, ty_Orb, ci_Orb, by decide, rfl, rfl, rfl, Or.inl (tb_in 318 (by decide +kernel) (by decide +kernel))⟩
set_option maxRecDepth 20000 in
theorem f_Orb_16 : FG "RelayOrbiter" 16 0 1 true (.object "RelayOrbiter$Window") := ⟨R_Orb, T_Orb, 7, ty_Orb, ci_Orb, by decide, rfl, rfl, rfl, Or.inl (tb_in 319 (by decide +kernel) (by decide +kernel))⟩
set_option maxRecDepth 20000 in
theorem f_Orb_22 : FG "RelayOrbiter" 22 0 2 true (.object "RelayOrbiter$Store") := ⟨R_Orb, T_Orb, 7, ty_Orb, ci_Orb, by decide, rfl, rfl, rfl, Or.inl (tb_in 320 (by decide +kernel) (by decide +kernel))⟩
set_option maxRecDepth 20000 in
theorem f_Orb_31 : FG "RelayOrbiter" 31 0 3 true (.object "RelayOrbiter$Session") := ⟨R_Orb, T_Orb, 7, ty_Orb, ci_Orb, by decide, rfl, rfl, rfl, Or.inl (tb_in 321 (by decide +kernel) (by decide +kernel))⟩
set_option maxRecDepth 20000 in
theorem f_Orb_38 : FG "RelayOrbiter" 38 0 4 true (.object "RelayOrbiter$LanderLink") := ⟨R_Orb, T_Orb, 7, ty_Orb, ci_Orb, by decide, rfl, rfl, rfl, Or.inl (tb_in 322 (by decide +kernel) (by decide +kernel))⟩
set_option maxRecDepth 20000 in
theorem f_Orb_45 : FG "RelayOrbiter" 45 0 5 true (.object "RelayOrbiter$EarthLink") := ⟨R_Orb, T_Orb, 7, ty_Orb, ci_Orb, by decide, rfl, rfl, rfl, Or.inl (tb_in 323 (by decide +kernel) (by decide +kernel))⟩
set_option maxRecDepth 20000 in
theorem f_Orb_49 : FG "RelayOrbiter" 49 0 6 false .int := ⟨R_Orb, T_Orb, 7, ty_Orb, ci_Orb, by decide, rfl, rfl, rfl, Or.inl (tb_in 324 (by decide +kernel) (by decide +kernel))⟩
set_option maxRecDepth 20000 in
theorem l_Law_94 : ML "RelayOrbiterLaw" 94 k_Orb_power 0 := ⟨Or.inl (tb_in 340 (by decide +kernel) (by decide +kernel)), tb_in 343 (by decide +kernel) (by decide +kernel), tb_in 45 (by decide +kernel) (by decide +kernel), ⟨by decide, by decide⟩, by decide +kernel⟩
set_option maxRecDepth 20000 in
theorem l_Orb_109 : ML "RelayOrbiter" 109 k_Sto_restart 0 := ⟨Or.inl (tb_in 344 (by decide +kernel) (by decide +kernel)), tb_in 347 (by decide +kernel) (by decide +kernel), tb_in 47 (by decide +kernel) (by decide +kernel), ⟨by decide, by decide⟩, by decide +kernel⟩
set_option maxRecDepth 20000 in
theorem l_Orb_112 : ML "RelayOrbiter" 112 k_Ses_restart 0 := ⟨Or.inl (tb_in 348 (by decide +kernel) (by decide +kernel)), tb_in 351 (by decide +kernel) (by decide +kernel), tb_in 49 (by decide +kernel) (by decide +kernel), ⟨by decide, by decide⟩, by decide +kernel⟩
set_option maxRecDepth 20000 in
theorem l_Ses_53 : ML "RelayOrbiter$Session" 53 k_Ses_forgetSegments 0 := ⟨Or.inl (tb_in 352 (by decide +kernel) (by decide +kernel)), tb_in 355 (by decide +kernel) (by decide +kernel), tb_in 49 (by decide +kernel) (by decide +kernel), ⟨by decide, by decide⟩, by decide +kernel⟩
set_option maxRecDepth 20000 in
theorem l_Ses_110 : ML "RelayOrbiter$Session" 110 k_Str_forget 0 := ⟨Or.inl (tb_in 356 (by decide +kernel) (by decide +kernel)), tb_in 359 (by decide +kernel) (by decide +kernel), tb_in 51 (by decide +kernel) (by decide +kernel), ⟨by decide, by decide⟩, by decide +kernel⟩
set_option maxRecDepth 20000 in
theorem l_Orb_113 : ML "RelayOrbiter" 113 k_Lan_forgetAll 0 := ⟨Or.inl (tb_in 360 (by decide +kernel) (by decide +kernel)), tb_in 363 (by decide +kernel) (by decide +kernel), tb_in 52 (by decide +kernel) (by decide +kernel), ⟨by decide, by decide⟩, by decide +kernel⟩
set_option maxRecDepth 20000 in
theorem l_Law_98 : ML "RelayOrbiterLaw" 98 k_Orb_out 0 := ⟨Or.inl (tb_in 364 (by decide +kernel) (by decide +kernel)), tb_in 367 (by decide +kernel) (by decide +kernel), tb_in 45 (by decide +kernel) (by decide +kernel), ⟨by decide, by decide⟩, by decide +kernel⟩
set_option maxRecDepth 20000 in
theorem l_Law_7 : ML "RelayOrbiterLaw" 7 k_Orb_window 4 := ⟨Or.inl (tb_in 372 (by decide +kernel) (by decide +kernel)), tb_in 375 (by decide +kernel) (by decide +kernel), tb_in 45 (by decide +kernel) (by decide +kernel), ⟨by decide, by decide⟩, by decide +kernel⟩
set_option maxRecDepth 20000 in
theorem l_Orb_53 : ML "RelayOrbiter" 53 k_Orb_isNoPair 1 := ⟨Or.inl (tb_in 376 (by decide +kernel) (by decide +kernel)), tb_in 378 (by decide +kernel) (by decide +kernel), tb_in 45 (by decide +kernel) (by decide +kernel), ⟨by decide, by decide⟩, by decide +kernel⟩
set_option maxRecDepth 20000 in
theorem l_Orb_60 : ML "RelayOrbiter" 60 k_Orb_windowOf 1 := ⟨Or.inl (tb_in 445 (by decide +kernel) (by decide +kernel)), tb_in 448 (by decide +kernel) (by decide +kernel), tb_in 45 (by decide +kernel) (by decide +kernel), ⟨by decide, by decide⟩, by decide +kernel⟩
set_option maxRecDepth 20000 in
theorem l_Orb_64 : ML "RelayOrbiter" 64 k_Win_set 3 := ⟨Or.inl (tb_in 449 (by decide +kernel) (by decide +kernel)), tb_in 452 (by decide +kernel) (by decide +kernel), tb_in 46 (by decide +kernel) (by decide +kernel), ⟨by decide, by decide⟩, by decide +kernel⟩
set_option maxRecDepth 20000 in
theorem l_Law_15 : ML "RelayOrbiterLaw" 15 k_Orb_minute 1 := ⟨Or.inl (tb_in 456 (by decide +kernel) (by decide +kernel)), tb_in 459 (by decide +kernel) (by decide +kernel), tb_in 45 (by decide +kernel) (by decide +kernel), ⟨by decide, by decide⟩, by decide +kernel⟩
set_option maxRecDepth 20000 in
theorem l_Law_19 : ML "RelayOrbiterLaw" 19 k_Orb_seen 1 := ⟨Or.inl (tb_in 463 (by decide +kernel) (by decide +kernel)), tb_in 466 (by decide +kernel) (by decide +kernel), tb_in 45 (by decide +kernel) (by decide +kernel), ⟨by decide, by decide⟩, by decide +kernel⟩
set_option maxRecDepth 20000 in
theorem l_Orb_68 : ML "RelayOrbiter" 68 k_Win_isOpen 1 := ⟨Or.inl (tb_in 467 (by decide +kernel) (by decide +kernel)), tb_in 470 (by decide +kernel) (by decide +kernel), tb_in 46 (by decide +kernel) (by decide +kernel), ⟨by decide, by decide⟩, by decide +kernel⟩
set_option maxRecDepth 20000 in
theorem l_Law_23 : ML "RelayOrbiterLaw" 23 k_Orb_receive 2 := ⟨Or.inl (tb_in 475 (by decide +kernel) (by decide +kernel)), tb_in 478 (by decide +kernel) (by decide +kernel), tb_in 45 (by decide +kernel) (by decide +kernel), ⟨by decide, by decide⟩, by decide +kernel⟩
set_option maxRecDepth 20000 in
theorem l_Orb_78 : ML "RelayOrbiter" 78 k_Lan_put 1 := ⟨Or.inl (tb_in 494 (by decide +kernel) (by decide +kernel)), tb_in 497 (by decide +kernel) (by decide +kernel), tb_in 52 (by decide +kernel) (by decide +kernel), ⟨by decide, by decide⟩, by decide +kernel⟩
set_option maxRecDepth 20000 in
theorem l_Orb_82 : ML "RelayOrbiter" 82 k_Orb_takeFrames 0 := ⟨Or.inl (tb_in 498 (by decide +kernel) (by decide +kernel)), tb_in 501 (by decide +kernel) (by decide +kernel), tb_in 45 (by decide +kernel) (by decide +kernel), ⟨by decide, by decide⟩, by decide +kernel⟩
set_option maxRecDepth 20000 in
theorem l_Orb_156 : ML "RelayOrbiter" 156 k_Lan_look 0 := ⟨Or.inl (tb_in 502 (by decide +kernel) (by decide +kernel)), tb_in 505 (by decide +kernel) (by decide +kernel), tb_in 52 (by decide +kernel) (by decide +kernel), ⟨by decide, by decide⟩, by decide +kernel⟩
set_option maxRecDepth 20000 in
theorem l_Lan_39 : ML "RelayOrbiter$LanderLink" 39 k_Lan_toldLength 0 := ⟨Or.inl (tb_in 508 (by decide +kernel) (by decide +kernel)), tb_in 511 (by decide +kernel) (by decide +kernel), tb_in 52 (by decide +kernel) (by decide +kernel), ⟨by decide, by decide⟩, by decide +kernel⟩
set_option maxRecDepth 20000 in
theorem l_Lan_43 : ML "RelayOrbiter$LanderLink" 43 k_Lan_checkHolds 1 := ⟨Or.inl (tb_in 512 (by decide +kernel) (by decide +kernel)), tb_in 515 (by decide +kernel) (by decide +kernel), tb_in 52 (by decide +kernel) (by decide +kernel), ⟨by decide, by decide⟩, by decide +kernel⟩
set_option maxRecDepth 20000 in
theorem l_Lan_56 : ML "RelayOrbiter$LanderLink" 56 k_Orb_check 6 := ⟨Or.inr ⟨"RelayOrbiter", tb_in 517 (by decide +kernel) (by decide +kernel)⟩, tb_in 519 (by decide +kernel) (by decide +kernel), tb_in 45 (by decide +kernel) (by decide +kernel), ⟨by decide, by decide⟩, by decide +kernel⟩
set_option maxRecDepth 20000 in
theorem l_Orb_159 : ML "RelayOrbiter" 159 k_Lan_giveUp 1 := ⟨Or.inl (tb_in 520 (by decide +kernel) (by decide +kernel)), tb_in 523 (by decide +kernel) (by decide +kernel), tb_in 52 (by decide +kernel) (by decide +kernel), ⟨by decide, by decide⟩, by decide +kernel⟩
set_option maxRecDepth 20000 in
theorem l_Orb_162 : ML "RelayOrbiter" 162 k_Lan_takeFrame 0 := ⟨Or.inl (tb_in 530 (by decide +kernel) (by decide +kernel)), tb_in 533 (by decide +kernel) (by decide +kernel), tb_in 52 (by decide +kernel) (by decide +kernel), ⟨by decide, by decide⟩, by decide +kernel⟩
set_option maxRecDepth 20000 in
theorem l_Lan_47 : ML "RelayOrbiter$LanderLink" 47 k_Frm_copy 3 := ⟨Or.inl (tb_in 534 (by decide +kernel) (by decide +kernel)), tb_in 537 (by decide +kernel) (by decide +kernel), tb_in 53 (by decide +kernel) (by decide +kernel), ⟨by decide, by decide⟩, by decide +kernel⟩
set_option maxRecDepth 20000 in
theorem l_Lan_51 : ML "RelayOrbiter$LanderLink" 51 k_Lan_giveUp 1 := ⟨Or.inl (tb_in 543 (by decide +kernel) (by decide +kernel)), tb_in 523 (by decide +kernel) (by decide +kernel), tb_in 52 (by decide +kernel) (by decide +kernel), ⟨by decide, by decide⟩, by decide +kernel⟩
set_option maxRecDepth 20000 in
theorem l_Orb_168 : ML "RelayOrbiter" 168 k_Ses_heed 1 := ⟨Or.inl (tb_in 544 (by decide +kernel) (by decide +kernel)), tb_in 547 (by decide +kernel) (by decide +kernel), tb_in 49 (by decide +kernel) (by decide +kernel), ⟨by decide, by decide⟩, by decide +kernel⟩
set_option maxRecDepth 20000 in
theorem l_Ses_57 : ML "RelayOrbiter$Session" 57 k_Frm_spacecraft 0 := ⟨Or.inl (tb_in 548 (by decide +kernel) (by decide +kernel)), tb_in 551 (by decide +kernel) (by decide +kernel), tb_in 53 (by decide +kernel) (by decide +kernel), ⟨by decide, by decide⟩, by decide +kernel⟩
set_option maxRecDepth 20000 in
theorem l_Ses_63 : ML "RelayOrbiter$Session" 63 k_Frm_isDirective 0 := ⟨Or.inl (tb_in 552 (by decide +kernel) (by decide +kernel)), tb_in 555 (by decide +kernel) (by decide +kernel), tb_in 53 (by decide +kernel) (by decide +kernel), ⟨by decide, by decide⟩, by decide +kernel⟩
set_option maxRecDepth 20000 in
theorem l_Ses_67 : ML "RelayOrbiter$Session" 67 k_Ses_obey 1 := ⟨Or.inl (tb_in 556 (by decide +kernel) (by decide +kernel)), tb_in 559 (by decide +kernel) (by decide +kernel), tb_in 49 (by decide +kernel) (by decide +kernel), ⟨by decide, by decide⟩, by decide +kernel⟩
set_option maxRecDepth 20000 in
theorem l_Ses_99 : ML "RelayOrbiter$Session" 99 k_Frm_dataLength 0 := ⟨Or.inl (tb_in 560 (by decide +kernel) (by decide +kernel)), tb_in 563 (by decide +kernel) (by decide +kernel), tb_in 53 (by decide +kernel) (by decide +kernel), ⟨by decide, by decide⟩, by decide +kernel⟩
set_option maxRecDepth 20000 in
theorem l_Ses_102 : ML "RelayOrbiter$Session" 102 k_Frm_data 1 := ⟨Or.inl (tb_in 564 (by decide +kernel) (by decide +kernel)), tb_in 567 (by decide +kernel) (by decide +kernel), tb_in 53 (by decide +kernel) (by decide +kernel), ⟨by decide, by decide⟩, by decide +kernel⟩
set_option maxRecDepth 20000 in
theorem l_Ses_97 : ML "RelayOrbiter$Session" 97 k_Frm_channel 0 := ⟨Or.inl (tb_in 568 (by decide +kernel) (by decide +kernel)), tb_in 571 (by decide +kernel) (by decide +kernel), tb_in 53 (by decide +kernel) (by decide +kernel), ⟨by decide, by decide⟩, by decide +kernel⟩
set_option maxRecDepth 20000 in
theorem l_Ses_106 : ML "RelayOrbiter$Session" 106 k_Ses_begin 1 := ⟨Or.inl (tb_in 572 (by decide +kernel) (by decide +kernel)), tb_in 575 (by decide +kernel) (by decide +kernel), tb_in 49 (by decide +kernel) (by decide +kernel), ⟨by decide, by decide⟩, by decide +kernel⟩
set_option maxRecDepth 20000 in
theorem l_Ses_71 : ML "RelayOrbiter$Session" 71 k_Ses_isOnFor 1 := ⟨Or.inl (tb_in 576 (by decide +kernel) (by decide +kernel)), tb_in 579 (by decide +kernel) (by decide +kernel), tb_in 49 (by decide +kernel) (by decide +kernel), ⟨by decide, by decide⟩, by decide +kernel⟩
set_option maxRecDepth 20000 in
theorem l_Ses_75 : ML "RelayOrbiter$Session" 75 k_Ses_gather 1 := ⟨Or.inl (tb_in 580 (by decide +kernel) (by decide +kernel)), tb_in 583 (by decide +kernel) (by decide +kernel), tb_in 49 (by decide +kernel) (by decide +kernel), ⟨by decide, by decide⟩, by decide +kernel⟩
set_option maxRecDepth 20000 in
theorem l_Ses_138 : ML "RelayOrbiter$Session" 138 k_Har_clear 0 := ⟨Or.inl (tb_in 584 (by decide +kernel) (by decide +kernel)), tb_in 587 (by decide +kernel) (by decide +kernel), tb_in 50 (by decide +kernel) (by decide +kernel), ⟨by decide, by decide⟩, by decide +kernel⟩
set_option maxRecDepth 20000 in
theorem l_Ses_141 : ML "RelayOrbiter$Session" 141 k_Frm_form 0 := ⟨Or.inl (tb_in 588 (by decide +kernel) (by decide +kernel)), tb_in 591 (by decide +kernel) (by decide +kernel), tb_in 53 (by decide +kernel) (by decide +kernel), ⟨by decide, by decide⟩, by decide +kernel⟩
set_option maxRecDepth 20000 in
theorem l_Ses_144 : ML "RelayOrbiter$Session" 144 k_Ses_appendData 2 := ⟨Or.inl (tb_in 592 (by decide +kernel) (by decide +kernel)), tb_in 595 (by decide +kernel) (by decide +kernel), tb_in 49 (by decide +kernel) (by decide +kernel), ⟨by decide, by decide⟩, by decide +kernel⟩
set_option maxRecDepth 20000 in
theorem l_Ses_165 : ML "RelayOrbiter$Session" 165 k_Har_append 1 := ⟨Or.inl (tb_in 596 (by decide +kernel) (by decide +kernel)), tb_in 599 (by decide +kernel) (by decide +kernel), tb_in 50 (by decide +kernel) (by decide +kernel), ⟨by decide, by decide⟩, by decide +kernel⟩
set_option maxRecDepth 20000 in
theorem l_Ses_148 : ML "RelayOrbiter$Session" 148 k_Har_findPackets 0 := ⟨Or.inl (tb_in 600 (by decide +kernel) (by decide +kernel)), tb_in 603 (by decide +kernel) (by decide +kernel), tb_in 50 (by decide +kernel) (by decide +kernel), ⟨by decide, by decide⟩, by decide +kernel⟩
set_option maxRecDepth 20000 in
theorem l_Har_28 : ML "RelayOrbiter$Harvest" 28 k_Har_packetLengthAt 1 := ⟨Or.inl (tb_in 604 (by decide +kernel) (by decide +kernel)), tb_in 607 (by decide +kernel) (by decide +kernel), tb_in 50 (by decide +kernel) (by decide +kernel), ⟨by decide, by decide⟩, by decide +kernel⟩
set_option maxRecDepth 20000 in
theorem l_Ses_151 : ML "RelayOrbiter$Session" 151 k_Ses_gatherSegment 1 := ⟨Or.inl (tb_in 608 (by decide +kernel) (by decide +kernel)), tb_in 611 (by decide +kernel) (by decide +kernel), tb_in 49 (by decide +kernel) (by decide +kernel), ⟨by decide, by decide⟩, by decide +kernel⟩
set_option maxRecDepth 20000 in
theorem l_Ses_168 : ML "RelayOrbiter$Session" 168 k_Har_findOneWholePacket 0 := ⟨Or.inl (tb_in 612 (by decide +kernel) (by decide +kernel)), tb_in 615 (by decide +kernel) (by decide +kernel), tb_in 50 (by decide +kernel) (by decide +kernel), ⟨by decide, by decide⟩, by decide +kernel⟩
set_option maxRecDepth 20000 in
theorem l_Ses_78 : ML "RelayOrbiter$Session" 78 k_Frm_isExpedited 0 := ⟨Or.inl (tb_in 616 (by decide +kernel) (by decide +kernel)), tb_in 619 (by decide +kernel) (by decide +kernel), tb_in 53 (by decide +kernel) (by decide +kernel), ⟨by decide, by decide⟩, by decide +kernel⟩
set_option maxRecDepth 20000 in
theorem l_Ses_81 : ML "RelayOrbiter$Session" 81 k_Ses_admitExpedited 0 := ⟨Or.inl (tb_in 620 (by decide +kernel) (by decide +kernel)), tb_in 623 (by decide +kernel) (by decide +kernel), tb_in 49 (by decide +kernel) (by decide +kernel), ⟨by decide, by decide⟩, by decide +kernel⟩
set_option maxRecDepth 20000 in
theorem l_Ses_84 : ML "RelayOrbiter$Session" 84 k_Frm_number 0 := ⟨Or.inl (tb_in 624 (by decide +kernel) (by decide +kernel)), tb_in 627 (by decide +kernel) (by decide +kernel), tb_in 53 (by decide +kernel) (by decide +kernel), ⟨by decide, by decide⟩, by decide +kernel⟩
set_option maxRecDepth 20000 in
theorem l_Ses_87 : ML "RelayOrbiter$Session" 87 k_Ses_admitSequenced 1 := ⟨Or.inl (tb_in 628 (by decide +kernel) (by decide +kernel)), tb_in 631 (by decide +kernel) (by decide +kernel), tb_in 49 (by decide +kernel) (by decide +kernel), ⟨by decide, by decide⟩, by decide +kernel⟩
set_option maxRecDepth 20000 in
theorem l_Ses_113 : ML "RelayOrbiter$Session" 113 k_Har_blocksOfAll 0 := ⟨Or.inl (tb_in 632 (by decide +kernel) (by decide +kernel)), tb_in 635 (by decide +kernel) (by decide +kernel), tb_in 50 (by decide +kernel) (by decide +kernel), ⟨by decide, by decide⟩, by decide +kernel⟩
set_option maxRecDepth 20000 in
theorem l_Har_32 : ML "RelayOrbiter$Harvest" 32 k_Sto_blocksFor 1 := ⟨Or.inl (tb_in 636 (by decide +kernel) (by decide +kernel)), tb_in 114 (by decide +kernel) (by decide +kernel), tb_in 47 (by decide +kernel) (by decide +kernel), ⟨by decide, by decide⟩, by decide +kernel⟩
set_option maxRecDepth 20000 in
theorem l_Ses_116 : ML "RelayOrbiter$Session" 116 k_Sto_hasRoom 1 := ⟨Or.inl (tb_in 637 (by decide +kernel) (by decide +kernel)), tb_in 640 (by decide +kernel) (by decide +kernel), tb_in 47 (by decide +kernel) (by decide +kernel), ⟨by decide, by decide⟩, by decide +kernel⟩
set_option maxRecDepth 20000 in
theorem l_Ses_91 : ML "RelayOrbiter$Session" 91 k_Ses_settleStream 0 := ⟨Or.inl (tb_in 641 (by decide +kernel) (by decide +kernel)), tb_in 644 (by decide +kernel) (by decide +kernel), tb_in 49 (by decide +kernel) (by decide +kernel), ⟨by decide, by decide⟩, by decide +kernel⟩
set_option maxRecDepth 20000 in
theorem l_Ses_171 : ML "RelayOrbiter$Session" 171 k_Str_hold 1 := ⟨Or.inl (tb_in 645 (by decide +kernel) (by decide +kernel)), tb_in 648 (by decide +kernel) (by decide +kernel), tb_in 51 (by decide +kernel) (by decide +kernel), ⟨by decide, by decide⟩, by decide +kernel⟩
set_option maxRecDepth 20000 in
theorem l_Ses_94 : ML "RelayOrbiter$Session" 94 k_Ses_keepWhatFits 0 := ⟨Or.inl (tb_in 650 (by decide +kernel) (by decide +kernel)), tb_in 653 (by decide +kernel) (by decide +kernel), tb_in 49 (by decide +kernel) (by decide +kernel), ⟨by decide, by decide⟩, by decide +kernel⟩
set_option maxRecDepth 20000 in
theorem l_Ses_134 : ML "RelayOrbiter$Session" 134 k_Sto_add 3 := ⟨Or.inl (tb_in 654 (by decide +kernel) (by decide +kernel)), tb_in 657 (by decide +kernel) (by decide +kernel), tb_in 47 (by decide +kernel) (by decide +kernel), ⟨by decide, by decide⟩, by decide +kernel⟩
set_option maxRecDepth 20000 in
theorem l_Sto_53 : ML "RelayOrbiter$Store" 53 k_Sto_blocksFor 1 := ⟨Or.inl (tb_in 658 (by decide +kernel) (by decide +kernel)), tb_in 114 (by decide +kernel) (by decide +kernel), tb_in 47 (by decide +kernel) (by decide +kernel), ⟨by decide, by decide⟩, by decide +kernel⟩
set_option maxRecDepth 20000 in
theorem l_Sto_57 : ML "RelayOrbiter$Store" 57 k_Sto_hasRoom 1 := ⟨Or.inl (tb_in 659 (by decide +kernel) (by decide +kernel)), tb_in 640 (by decide +kernel) (by decide +kernel), tb_in 47 (by decide +kernel) (by decide +kernel), ⟨by decide, by decide⟩, by decide +kernel⟩
set_option maxRecDepth 20000 in
theorem l_Sto_67 : ML "RelayOrbiter$Store" 67 k_Sto_writeBlocks 3 := ⟨Or.inl (tb_in 660 (by decide +kernel) (by decide +kernel)), tb_in 663 (by decide +kernel) (by decide +kernel), tb_in 47 (by decide +kernel) (by decide +kernel), ⟨by decide, by decide⟩, by decide +kernel⟩
set_option maxRecDepth 20000 in
theorem l_Sto_94 : ML "RelayOrbiter$Store" 94 k_Sto_write 0 := ⟨Or.inl (tb_in 666 (by decide +kernel) (by decide +kernel)), tb_in 669 (by decide +kernel) (by decide +kernel), tb_in 47 (by decide +kernel) (by decide +kernel), ⟨by decide, by decide⟩, by decide +kernel⟩
set_option maxRecDepth 20000 in
theorem l_Sto_71 : ML "RelayOrbiter$Store" 71 k_Sto_renewFullJournal 0 := ⟨Or.inl (tb_in 670 (by decide +kernel) (by decide +kernel)), tb_in 673 (by decide +kernel) (by decide +kernel), tb_in 47 (by decide +kernel) (by decide +kernel), ⟨by decide, by decide⟩, by decide +kernel⟩
set_option maxRecDepth 20000 in
theorem l_Sto_74 : ML "RelayOrbiter$Store" 74 k_Sto_enterAdded 1 := ⟨Or.inl (tb_in 674 (by decide +kernel) (by decide +kernel)), tb_in 677 (by decide +kernel) (by decide +kernel), tb_in 47 (by decide +kernel) (by decide +kernel), ⟨by decide, by decide⟩, by decide +kernel⟩
set_option maxRecDepth 20000 in
theorem l_Sto_100 : ML "RelayOrbiter$Store" 100 k_Sto_markBlocks 2 := ⟨Or.inl (tb_in 678 (by decide +kernel) (by decide +kernel)), tb_in 681 (by decide +kernel) (by decide +kernel), tb_in 47 (by decide +kernel) (by decide +kernel), ⟨by decide, by decide⟩, by decide +kernel⟩
set_option maxRecDepth 20000 in
theorem l_Law_29 : ML "RelayOrbiterLaw" 29 k_Orb_report 0 := ⟨Or.inl (tb_in 685 (by decide +kernel) (by decide +kernel)), tb_in 688 (by decide +kernel) (by decide +kernel), tb_in 45 (by decide +kernel) (by decide +kernel), ⟨by decide, by decide⟩, by decide +kernel⟩
set_option maxRecDepth 20000 in
theorem l_Orb_86 : ML "RelayOrbiter" 86 k_Ses_reportWord 0 := ⟨Or.inl (tb_in 689 (by decide +kernel) (by decide +kernel)), tb_in 692 (by decide +kernel) (by decide +kernel), tb_in 49 (by decide +kernel) (by decide +kernel), ⟨by decide, by decide⟩, by decide +kernel⟩
set_option maxRecDepth 20000 in
theorem l_Law_33 : ML "RelayOrbiterLaw" 33 k_Orb_send 1 := ⟨Or.inl (tb_in 698 (by decide +kernel) (by decide +kernel)), tb_in 701 (by decide +kernel) (by decide +kernel), tb_in 45 (by decide +kernel) (by decide +kernel), ⟨by decide, by decide⟩, by decide +kernel⟩
set_option maxRecDepth 20000 in
theorem l_Orb_92 : ML "RelayOrbiter" 92 k_Ear_emit 2 := ⟨Or.inl (tb_in 717 (by decide +kernel) (by decide +kernel)), tb_in 720 (by decide +kernel) (by decide +kernel), tb_in 54 (by decide +kernel) (by decide +kernel), ⟨by decide, by decide⟩, by decide +kernel⟩
set_option maxRecDepth 20000 in
theorem l_Ear_22 : ML "RelayOrbiter$EarthLink" 22 k_Ear_putNumber 3 := ⟨Or.inl (tb_in 721 (by decide +kernel) (by decide +kernel)), tb_in 724 (by decide +kernel) (by decide +kernel), tb_in 54 (by decide +kernel) (by decide +kernel), ⟨by decide, by decide⟩, by decide +kernel⟩
set_option maxRecDepth 20000 in
theorem l_Ear_26 : ML "RelayOrbiter$EarthLink" 26 k_Ear_fillZone 2 := ⟨Or.inl (tb_in 725 (by decide +kernel) (by decide +kernel)), tb_in 728 (by decide +kernel) (by decide +kernel), tb_in 54 (by decide +kernel) (by decide +kernel), ⟨by decide, by decide⟩, by decide +kernel⟩
set_option maxRecDepth 20000 in
theorem l_Ear_59 : ML "RelayOrbiter$EarthLink" 59 k_Ear_pointerWith 3 := ⟨Or.inl (tb_in 1005 (by decide +kernel) (by decide +kernel)), tb_in 1007 (by decide +kernel) (by decide +kernel), tb_in 54 (by decide +kernel) (by decide +kernel), ⟨by decide, by decide⟩, by decide +kernel⟩
set_option maxRecDepth 20000 in
theorem l_Ear_63 : ML "RelayOrbiter$EarthLink" 63 k_Ear_emitPart 3 := ⟨Or.inl (tb_in 1008 (by decide +kernel) (by decide +kernel)), tb_in 1011 (by decide +kernel) (by decide +kernel), tb_in 54 (by decide +kernel) (by decide +kernel), ⟨by decide, by decide⟩, by decide +kernel⟩
set_option maxRecDepth 20000 in
theorem l_Ear_73 : ML "RelayOrbiter$EarthLink" 73 k_Sto_byteOf 2 := ⟨Or.inl (tb_in 1012 (by decide +kernel) (by decide +kernel)), tb_in 1015 (by decide +kernel) (by decide +kernel), tb_in 47 (by decide +kernel) (by decide +kernel), ⟨by decide, by decide⟩, by decide +kernel⟩
set_option maxRecDepth 20000 in
theorem l_Ear_31 : ML "RelayOrbiter$EarthLink" 31 k_Orb_check 6 := ⟨Or.inr ⟨"RelayOrbiter", tb_in 1017 (by decide +kernel) (by decide +kernel)⟩, tb_in 519 (by decide +kernel) (by decide +kernel), tb_in 45 (by decide +kernel) (by decide +kernel), ⟨by decide, by decide⟩, by decide +kernel⟩
set_option maxRecDepth 20000 in
theorem l_Ear_35 : ML "RelayOrbiter$EarthLink" 35 k_Sto_dropEmitted 0 := ⟨Or.inl (tb_in 1018 (by decide +kernel) (by decide +kernel)), tb_in 1021 (by decide +kernel) (by decide +kernel), tb_in 47 (by decide +kernel) (by decide +kernel), ⟨by decide, by decide⟩, by decide +kernel⟩
set_option maxRecDepth 20000 in
theorem l_Sto_78 : ML "RelayOrbiter$Store" 78 k_Sto_enterDropped 1 := ⟨Or.inl (tb_in 1022 (by decide +kernel) (by decide +kernel)), tb_in 1025 (by decide +kernel) (by decide +kernel), tb_in 47 (by decide +kernel) (by decide +kernel), ⟨by decide, by decide⟩, by decide +kernel⟩
set_option maxRecDepth 20000 in
theorem l_Law_38 : ML "RelayOrbiterLaw" 38 k_Orb_sent 1 := ⟨Or.inl (tb_in 1030 (by decide +kernel) (by decide +kernel)), tb_in 1033 (by decide +kernel) (by decide +kernel), tb_in 45 (by decide +kernel) (by decide +kernel), ⟨by decide, by decide⟩, by decide +kernel⟩
set_option maxRecDepth 20000 in
theorem l_Orb_96 : ML "RelayOrbiter" 96 k_Ear_hasByte 1 := ⟨Or.inl (tb_in 1034 (by decide +kernel) (by decide +kernel)), tb_in 1037 (by decide +kernel) (by decide +kernel), tb_in 54 (by decide +kernel) (by decide +kernel), ⟨by decide, by decide⟩, by decide +kernel⟩
set_option maxRecDepth 20000 in
theorem l_Law_43 : ML "RelayOrbiterLaw" 43 k_Orb_fail 1 := ⟨Or.inl (tb_in 1056 (by decide +kernel) (by decide +kernel)), tb_in 1059 (by decide +kernel) (by decide +kernel), tb_in 45 (by decide +kernel) (by decide +kernel), ⟨by decide, by decide⟩, by decide +kernel⟩
set_option maxRecDepth 20000 in
theorem l_Law_47 : ML "RelayOrbiterLaw" 47 k_Orb_store 1 := ⟨Or.inl (tb_in 1063 (by decide +kernel) (by decide +kernel)), tb_in 1066 (by decide +kernel) (by decide +kernel), tb_in 45 (by decide +kernel) (by decide +kernel), ⟨by decide, by decide⟩, by decide +kernel⟩
set_option maxRecDepth 20000 in
theorem l_Law_50 : ML "RelayOrbiterLaw" 50 k_Orb_packet 2 := ⟨Or.inl (tb_in 1070 (by decide +kernel) (by decide +kernel)), tb_in 1073 (by decide +kernel) (by decide +kernel), tb_in 45 (by decide +kernel) (by decide +kernel), ⟨by decide, by decide⟩, by decide +kernel⟩
set_option maxRecDepth 20000 in
theorem l_Orb_128 : ML "RelayOrbiter" 128 k_Sto_has 1 := ⟨Or.inl (tb_in 1074 (by decide +kernel) (by decide +kernel)), tb_in 1077 (by decide +kernel) (by decide +kernel), tb_in 47 (by decide +kernel) (by decide +kernel), ⟨by decide, by decide⟩, by decide +kernel⟩
set_option maxRecDepth 20000 in
theorem l_Law_53 : ML "RelayOrbiterLaw" 53 k_Orb_content 2 := ⟨Or.inl (tb_in 1081 (by decide +kernel) (by decide +kernel)), tb_in 1084 (by decide +kernel) (by decide +kernel), tb_in 45 (by decide +kernel) (by decide +kernel), ⟨by decide, by decide⟩, by decide +kernel⟩
set_option maxRecDepth 20000 in
theorem l_Orb_152 : ML "RelayOrbiter" 152 k_Sto_byteOf 2 := ⟨Or.inl (tb_in 1085 (by decide +kernel) (by decide +kernel)), tb_in 1015 (by decide +kernel) (by decide +kernel), tb_in 47 (by decide +kernel) (by decide +kernel), ⟨by decide, by decide⟩, by decide +kernel⟩
set_option maxRecDepth 20000 in
theorem l_Law_59 : ML "RelayOrbiterLaw" 59 k_Mod_init 0 := ⟨Or.inl (tb_in 1088 (by decide +kernel) (by decide +kernel)), tb_in 1090 (by decide +kernel) (by decide +kernel), tb_in 55 (by decide +kernel) (by decide +kernel), ⟨by decide, by decide⟩, by decide +kernel⟩
set_option maxRecDepth 20000 in
theorem f_Mod_7 : FG "RelayOrbiterModel" 7 10 0 false .int := ⟨R_Mod, T_Mod, 27, ty_Mod, ci_Mod, by decide, rfl, rfl, rfl, Or.inl (tb_in 1092 (by decide +kernel) (by decide +kernel))⟩
set_option maxRecDepth 20000 in
theorem f_Mod_13 : FG "RelayOrbiterModel" 13 10 1 false .int := ⟨R_Mod, T_Mod, 27, ty_Mod, ci_Mod, by decide, rfl, rfl, rfl, Or.inl (tb_in 1093 (by decide +kernel) (by decide +kernel))⟩
set_option maxRecDepth 20000 in
theorem f_Mod_16 : FG "RelayOrbiterModel" 16 10 2 true (.array .int) := ⟨R_Mod, T_Mod, 27, ty_Mod, ci_Mod, by decide, rfl, rfl, rfl, Or.inl (tb_in 1094 (by decide +kernel) (by decide +kernel))⟩
set_option maxRecDepth 20000 in
theorem f_Mod_20 : FG "RelayOrbiterModel" 20 10 3 false .boolean := ⟨R_Mod, T_Mod, 27, ty_Mod, ci_Mod, by decide, rfl, rfl, rfl, Or.inl (tb_in 1095 (by decide +kernel) (by decide +kernel))⟩
set_option maxRecDepth 20000 in
theorem f_Mod_24 : FG "RelayOrbiterModel" 24 10 4 false .int := ⟨R_Mod, T_Mod, 27, ty_Mod, ci_Mod, by decide, rfl, rfl, rfl, Or.inl (tb_in 1096 (by decide +kernel) (by decide +kernel))⟩
set_option maxRecDepth 20000 in
theorem f_Mod_27 : FG "RelayOrbiterModel" 27 10 5 true (.array .int) := ⟨R_Mod, T_Mod, 27, ty_Mod, ci_Mod, by decide, rfl, rfl, rfl, Or.inl (tb_in 1097 (by decide +kernel) (by decide +kernel))⟩
set_option maxRecDepth 20000 in
theorem f_Mod_30 : FG "RelayOrbiterModel" 30 10 6 false .int := ⟨R_Mod, T_Mod, 27, ty_Mod, ci_Mod, by decide, rfl, rfl, rfl, Or.inl (tb_in 1098 (by decide +kernel) (by decide +kernel))⟩
set_option maxRecDepth 20000 in
theorem f_Mod_33 : FG "RelayOrbiterModel" 33 10 7 false .boolean := ⟨R_Mod, T_Mod, 27, ty_Mod, ci_Mod, by decide, rfl, rfl, rfl, Or.inl (tb_in 1099 (by decide +kernel) (by decide +kernel))⟩
set_option maxRecDepth 20000 in
theorem f_Mod_36 : FG "RelayOrbiterModel" 36 10 8 false .int := ⟨R_Mod, T_Mod, 27, ty_Mod, ci_Mod, by decide, rfl, rfl, rfl, Or.inl (tb_in 1100 (by decide +kernel) (by decide +kernel))⟩
set_option maxRecDepth 20000 in
theorem f_Mod_39 : FG "RelayOrbiterModel" 39 10 9 false .int := ⟨R_Mod, T_Mod, 27, ty_Mod, ci_Mod, by decide, rfl, rfl, rfl, Or.inl (tb_in 1101 (by decide +kernel) (by decide +kernel))⟩
set_option maxRecDepth 20000 in
theorem f_Mod_42 : FG "RelayOrbiterModel" 42 10 10 false .int := ⟨R_Mod, T_Mod, 27, ty_Mod, ci_Mod, by decide, rfl, rfl, rfl, Or.inl (tb_in 1102 (by decide +kernel) (by decide +kernel))⟩
set_option maxRecDepth 20000 in
theorem f_Mod_45 : FG "RelayOrbiterModel" 45 10 11 false .int := ⟨R_Mod, T_Mod, 27, ty_Mod, ci_Mod, by decide, rfl, rfl, rfl, Or.inl (tb_in 1103 (by decide +kernel) (by decide +kernel))⟩
set_option maxRecDepth 20000 in
theorem f_Mod_48 : FG "RelayOrbiterModel" 48 10 12 true (.array .boolean) := ⟨R_Mod, T_Mod, 27, ty_Mod, ci_Mod, by decide, rfl, rfl, rfl, Or.inl (tb_in 1104 (by decide +kernel) (by decide +kernel))⟩
set_option maxRecDepth 20000 in
theorem f_Mod_52 : FG "RelayOrbiterModel" 52 10 13 true (.array .int) := ⟨R_Mod, T_Mod, 27, ty_Mod, ci_Mod, by decide, rfl, rfl, rfl, Or.inl (tb_in 1105 (by decide +kernel) (by decide +kernel))⟩
set_option maxRecDepth 20000 in
theorem f_Mod_55 : FG "RelayOrbiterModel" 55 10 14 true (.array .int) := ⟨R_Mod, T_Mod, 27, ty_Mod, ci_Mod, by decide, rfl, rfl, rfl, Or.inl (tb_in 1106 (by decide +kernel) (by decide +kernel))⟩
set_option maxRecDepth 20000 in
theorem f_Mod_58 : FG "RelayOrbiterModel" 58 10 15 false .int := ⟨R_Mod, T_Mod, 27, ty_Mod, ci_Mod, by decide, rfl, rfl, rfl, Or.inl (tb_in 1107 (by decide +kernel) (by decide +kernel))⟩
set_option maxRecDepth 20000 in
theorem f_Mod_61 : FG "RelayOrbiterModel" 61 10 16 true (.array .int) := ⟨R_Mod, T_Mod, 27, ty_Mod, ci_Mod, by decide, rfl, rfl, rfl, Or.inl (tb_in 1108 (by decide +kernel) (by decide +kernel))⟩
set_option maxRecDepth 20000 in
theorem f_Mod_64 : FG "RelayOrbiterModel" 64 10 17 true (.array .int) := ⟨R_Mod, T_Mod, 27, ty_Mod, ci_Mod, by decide, rfl, rfl, rfl, Or.inl (tb_in 1109 (by decide +kernel) (by decide +kernel))⟩
set_option maxRecDepth 20000 in
theorem f_Mod_67 : FG "RelayOrbiterModel" 67 10 18 true (.array .int) := ⟨R_Mod, T_Mod, 27, ty_Mod, ci_Mod, by decide, rfl, rfl, rfl, Or.inl (tb_in 1110 (by decide +kernel) (by decide +kernel))⟩
set_option maxRecDepth 20000 in
theorem f_Mod_70 : FG "RelayOrbiterModel" 70 10 19 true (.array .int) := ⟨R_Mod, T_Mod, 27, ty_Mod, ci_Mod, by decide, rfl, rfl, rfl, Or.inl (tb_in 1111 (by decide +kernel) (by decide +kernel))⟩
set_option maxRecDepth 20000 in
theorem f_Mod_73 : FG "RelayOrbiterModel" 73 10 20 true (.array .int) := ⟨R_Mod, T_Mod, 27, ty_Mod, ci_Mod, by decide, rfl, rfl, rfl, Or.inl (tb_in 1112 (by decide +kernel) (by decide +kernel))⟩
set_option maxRecDepth 20000 in
theorem f_Mod_76 : FG "RelayOrbiterModel" 76 10 21 false .int := ⟨R_Mod, T_Mod, 27, ty_Mod, ci_Mod, by decide, rfl, rfl, rfl, Or.inl (tb_in 1113 (by decide +kernel) (by decide +kernel))⟩
set_option maxRecDepth 20000 in
theorem f_Mod_79 : FG "RelayOrbiterModel" 79 10 22 false .int := ⟨R_Mod, T_Mod, 27, ty_Mod, ci_Mod, by decide, rfl, rfl, rfl, Or.inl (tb_in 1114 (by decide +kernel) (by decide +kernel))⟩
set_option maxRecDepth 20000 in
theorem f_Mod_82 : FG "RelayOrbiterModel" 82 10 23 false .int := ⟨R_Mod, T_Mod, 27, ty_Mod, ci_Mod, by decide, rfl, rfl, rfl, Or.inl (tb_in 1115 (by decide +kernel) (by decide +kernel))⟩
set_option maxRecDepth 20000 in
theorem f_Mod_85 : FG "RelayOrbiterModel" 85 10 24 true (.array .int) := ⟨R_Mod, T_Mod, 27, ty_Mod, ci_Mod, by decide, rfl, rfl, rfl, Or.inl (tb_in 1116 (by decide +kernel) (by decide +kernel))⟩
set_option maxRecDepth 20000 in
theorem f_Mod_88 : FG "RelayOrbiterModel" 88 10 25 false .boolean := ⟨R_Mod, T_Mod, 27, ty_Mod, ci_Mod, by decide, rfl, rfl, rfl, Or.inl (tb_in 1117 (by decide +kernel) (by decide +kernel))⟩
set_option maxRecDepth 20000 in
theorem f_Mod_91 : FG "RelayOrbiterModel" 91 10 26 true (.array .int) := ⟨R_Mod, T_Mod, 27, ty_Mod, ci_Mod, by decide, rfl, rfl, rfl, Or.inl (tb_in 1118 (by decide +kernel) (by decide +kernel))⟩
set_option maxRecDepth 20000 in
theorem l_Law_66 : ML "RelayOrbiterLaw" 66 k_Mod_thrown 0 := ⟨Or.inl (tb_in 1174 (by decide +kernel) (by decide +kernel)), tb_in 1177 (by decide +kernel) (by decide +kernel), tb_in 55 (by decide +kernel) (by decide +kernel), ⟨by decide, by decide⟩, by decide +kernel⟩
set_option maxRecDepth 20000 in
theorem l_Law_65 : ML "RelayOrbiterLaw" 65 k_Mod_window 4 := ⟨Or.inl (tb_in 1178 (by decide +kernel) (by decide +kernel)), tb_in 1181 (by decide +kernel) (by decide +kernel), tb_in 55 (by decide +kernel) (by decide +kernel), ⟨by decide, by decide⟩, by decide +kernel⟩
set_option maxRecDepth 20000 in
theorem l_Law_72 : ML "RelayOrbiterLaw" 72 k_Mod_minute 1 := ⟨Or.inl (tb_in 1182 (by decide +kernel) (by decide +kernel)), tb_in 1185 (by decide +kernel) (by decide +kernel), tb_in 55 (by decide +kernel) (by decide +kernel), ⟨by decide, by decide⟩, by decide +kernel⟩
set_option maxRecDepth 20000 in
theorem l_Law_75 : ML "RelayOrbiterLaw" 75 k_Mod_seen 1 := ⟨Or.inl (tb_in 1186 (by decide +kernel) (by decide +kernel)), tb_in 1189 (by decide +kernel) (by decide +kernel), tb_in 55 (by decide +kernel) (by decide +kernel), ⟨by decide, by decide⟩, by decide +kernel⟩
set_option maxRecDepth 20000 in
theorem l_Mod_125 : ML "RelayOrbiterModel" 125 k_Mod_seenBy 1 := ⟨Or.inl (tb_in 1190 (by decide +kernel) (by decide +kernel)), tb_in 1193 (by decide +kernel) (by decide +kernel), tb_in 55 (by decide +kernel) (by decide +kernel), ⟨by decide, by decide⟩, by decide +kernel⟩
set_option maxRecDepth 20000 in
theorem l_Law_79 : ML "RelayOrbiterLaw" 79 k_Mod_receive 2 := ⟨Or.inl (tb_in 1194 (by decide +kernel) (by decide +kernel)), tb_in 1197 (by decide +kernel) (by decide +kernel), tb_in 55 (by decide +kernel) (by decide +kernel), ⟨by decide, by decide⟩, by decide +kernel⟩
set_option maxRecDepth 20000 in
theorem l_Mod_154 : ML "RelayOrbiterModel" 154 k_Mod_byteIn 1 := ⟨Or.inl (tb_in 1198 (by decide +kernel) (by decide +kernel)), tb_in 1201 (by decide +kernel) (by decide +kernel), tb_in 55 (by decide +kernel) (by decide +kernel), ⟨by decide, by decide⟩, by decide +kernel⟩
set_option maxRecDepth 20000 in
theorem l_Mod_143 : ML "RelayOrbiterModel" 143 k_Mod_look 0 := ⟨Or.inl (tb_in 1202 (by decide +kernel) (by decide +kernel)), tb_in 1205 (by decide +kernel) (by decide +kernel), tb_in 55 (by decide +kernel) (by decide +kernel), ⟨by decide, by decide⟩, by decide +kernel⟩
set_option maxRecDepth 20000 in
theorem l_Mod_140 : ML "RelayOrbiterModel" 140 k_Mod_checked 1 := ⟨Or.inl (tb_in 1206 (by decide +kernel) (by decide +kernel)), tb_in 1209 (by decide +kernel) (by decide +kernel), tb_in 55 (by decide +kernel) (by decide +kernel), ⟨by decide, by decide⟩, by decide +kernel⟩
set_option maxRecDepth 20000 in
theorem l_Mod_146 : ML "RelayOrbiterModel" 146 k_Mod_taken 1 := ⟨Or.inl (tb_in 1211 (by decide +kernel) (by decide +kernel)), tb_in 1214 (by decide +kernel) (by decide +kernel), tb_in 55 (by decide +kernel) (by decide +kernel), ⟨by decide, by decide⟩, by decide +kernel⟩
set_option maxRecDepth 20000 in
theorem l_Mod_128 : ML "RelayOrbiterModel" 128 k_Mod_directive 3 := ⟨Or.inl (tb_in 1215 (by decide +kernel) (by decide +kernel)), tb_in 1218 (by decide +kernel) (by decide +kernel), tb_in 55 (by decide +kernel) (by decide +kernel), ⟨by decide, by decide⟩, by decide +kernel⟩
set_option maxRecDepth 20000 in
theorem l_Mod_132 : ML "RelayOrbiterModel" 132 k_Mod_packetsIn 3 := ⟨Or.inl (tb_in 1219 (by decide +kernel) (by decide +kernel)), tb_in 1222 (by decide +kernel) (by decide +kernel), tb_in 55 (by decide +kernel) (by decide +kernel), ⟨by decide, by decide⟩, by decide +kernel⟩
set_option maxRecDepth 20000 in
theorem l_Mod_105 : ML "RelayOrbiterModel" 105 k_Mod_packetAt 3 := ⟨Or.inl (tb_in 1223 (by decide +kernel) (by decide +kernel)), tb_in 1225 (by decide +kernel) (by decide +kernel), tb_in 55 (by decide +kernel) (by decide +kernel), ⟨by decide, by decide⟩, by decide +kernel⟩
set_option maxRecDepth 20000 in
theorem l_Mod_109 : ML "RelayOrbiterModel" 109 k_Mod_blocksOf 1 := ⟨Or.inl (tb_in 1226 (by decide +kernel) (by decide +kernel)), tb_in 1228 (by decide +kernel) (by decide +kernel), tb_in 55 (by decide +kernel) (by decide +kernel), ⟨by decide, by decide⟩, by decide +kernel⟩
set_option maxRecDepth 20000 in
theorem l_Mod_113 : ML "RelayOrbiterModel" 113 k_Mod_freeBlocks 0 := ⟨Or.inl (tb_in 1229 (by decide +kernel) (by decide +kernel)), tb_in 1232 (by decide +kernel) (by decide +kernel), tb_in 55 (by decide +kernel) (by decide +kernel), ⟨by decide, by decide⟩, by decide +kernel⟩
set_option maxRecDepth 20000 in
theorem l_Mod_98 : ML "RelayOrbiterModel" 98 k_Mod_isFree 1 := ⟨Or.inl (tb_in 1233 (by decide +kernel) (by decide +kernel)), tb_in 1236 (by decide +kernel) (by decide +kernel), tb_in 55 (by decide +kernel) (by decide +kernel), ⟨by decide, by decide⟩, by decide +kernel⟩
set_option maxRecDepth 20000 in
theorem l_Mod_117 : ML "RelayOrbiterModel" 117 k_Mod_keepPacket 3 := ⟨Or.inl (tb_in 1237 (by decide +kernel) (by decide +kernel)), tb_in 1240 (by decide +kernel) (by decide +kernel), tb_in 55 (by decide +kernel) (by decide +kernel), ⟨by decide, by decide⟩, by decide +kernel⟩
set_option maxRecDepth 20000 in
theorem l_Mod_94 : ML "RelayOrbiterModel" 94 k_Mod_write 0 := ⟨Or.inl (tb_in 1241 (by decide +kernel) (by decide +kernel)), tb_in 1244 (by decide +kernel) (by decide +kernel), tb_in 55 (by decide +kernel) (by decide +kernel), ⟨by decide, by decide⟩, by decide +kernel⟩
set_option maxRecDepth 20000 in
theorem l_Mod_102 : ML "RelayOrbiterModel" 102 k_Mod_journal 0 := ⟨Or.inl (tb_in 1245 (by decide +kernel) (by decide +kernel)), tb_in 1248 (by decide +kernel) (by decide +kernel), tb_in 55 (by decide +kernel) (by decide +kernel), ⟨by decide, by decide⟩, by decide +kernel⟩
set_option maxRecDepth 20000 in
theorem l_Mod_136 : ML "RelayOrbiterModel" 136 k_Mod_segmentIn 3 := ⟨Or.inl (tb_in 1249 (by decide +kernel) (by decide +kernel)), tb_in 1252 (by decide +kernel) (by decide +kernel), tb_in 55 (by decide +kernel) (by decide +kernel), ⟨by decide, by decide⟩, by decide +kernel⟩
set_option maxRecDepth 20000 in
theorem l_Mod_121 : ML "RelayOrbiterModel" 121 k_Mod_goesOn 3 := ⟨Or.inl (tb_in 1253 (by decide +kernel) (by decide +kernel)), tb_in 1256 (by decide +kernel) (by decide +kernel), tb_in 55 (by decide +kernel) (by decide +kernel), ⟨by decide, by decide⟩, by decide +kernel⟩
set_option maxRecDepth 20000 in
theorem l_Mod_150 : ML "RelayOrbiterModel" 150 k_Mod_leave 1 := ⟨Or.inl (tb_in 1257 (by decide +kernel) (by decide +kernel)), tb_in 1260 (by decide +kernel) (by decide +kernel), tb_in 55 (by decide +kernel) (by decide +kernel), ⟨by decide, by decide⟩, by decide +kernel⟩
set_option maxRecDepth 20000 in
theorem l_Law_83 : ML "RelayOrbiterLaw" 83 k_Mod_report 0 := ⟨Or.inl (tb_in 1261 (by decide +kernel) (by decide +kernel)), tb_in 1264 (by decide +kernel) (by decide +kernel), tb_in 55 (by decide +kernel) (by decide +kernel), ⟨by decide, by decide⟩, by decide +kernel⟩
set_option maxRecDepth 20000 in
theorem l_Law_86 : ML "RelayOrbiterLaw" 86 k_Mod_send 1 := ⟨Or.inl (tb_in 1266 (by decide +kernel) (by decide +kernel)), tb_in 1269 (by decide +kernel) (by decide +kernel), tb_in 55 (by decide +kernel) (by decide +kernel), ⟨by decide, by decide⟩, by decide +kernel⟩
set_option maxRecDepth 20000 in
theorem l_Mod_159 : ML "RelayOrbiterModel" 159 k_Mod_fill 1 := ⟨Or.inl (tb_in 1271 (by decide +kernel) (by decide +kernel)), tb_in 1274 (by decide +kernel) (by decide +kernel), tb_in 55 (by decide +kernel) (by decide +kernel), ⟨by decide, by decide⟩, by decide +kernel⟩
set_option maxRecDepth 20000 in
theorem l_Mod_162 : ML "RelayOrbiterModel" 162 k_Mod_check16 0 := ⟨Or.inl (tb_in 1275 (by decide +kernel) (by decide +kernel)), tb_in 1278 (by decide +kernel) (by decide +kernel), tb_in 55 (by decide +kernel) (by decide +kernel), ⟨by decide, by decide⟩, by decide +kernel⟩
set_option maxRecDepth 20000 in
theorem l_Mod_165 : ML "RelayOrbiterModel" 165 k_Mod_drop 1 := ⟨Or.inl (tb_in 1280 (by decide +kernel) (by decide +kernel)), tb_in 1283 (by decide +kernel) (by decide +kernel), tb_in 55 (by decide +kernel) (by decide +kernel), ⟨by decide, by decide⟩, by decide +kernel⟩
set_option maxRecDepth 20000 in
theorem l_Law_89 : ML "RelayOrbiterLaw" 89 k_Mod_sent 1 := ⟨Or.inl (tb_in 1284 (by decide +kernel) (by decide +kernel)), tb_in 1287 (by decide +kernel) (by decide +kernel), tb_in 55 (by decide +kernel) (by decide +kernel), ⟨by decide, by decide⟩, by decide +kernel⟩
set_option maxRecDepth 20000 in
theorem l_Law_93 : ML "RelayOrbiterLaw" 93 k_Mod_fail 1 := ⟨Or.inl (tb_in 1288 (by decide +kernel) (by decide +kernel)), tb_in 1291 (by decide +kernel) (by decide +kernel), tb_in 55 (by decide +kernel) (by decide +kernel), ⟨by decide, by decide⟩, by decide +kernel⟩
set_option maxRecDepth 20000 in
theorem l_Law_97 : ML "RelayOrbiterLaw" 97 k_Mod_power 0 := ⟨Or.inl (tb_in 1292 (by decide +kernel) (by decide +kernel)), tb_in 1295 (by decide +kernel) (by decide +kernel), tb_in 55 (by decide +kernel) (by decide +kernel), ⟨by decide, by decide⟩, by decide +kernel⟩
set_option maxRecDepth 20000 in
theorem l_Law_102 : ML "RelayOrbiterLaw" 102 k_Mod_out 0 := ⟨Or.inl (tb_in 1296 (by decide +kernel) (by decide +kernel)), tb_in 1299 (by decide +kernel) (by decide +kernel), tb_in 55 (by decide +kernel) (by decide +kernel), ⟨by decide, by decide⟩, by decide +kernel⟩
set_option maxRecDepth 20000 in
theorem l_Law_105 : ML "RelayOrbiterLaw" 105 k_Mod_store 1 := ⟨Or.inl (tb_in 1300 (by decide +kernel) (by decide +kernel)), tb_in 1303 (by decide +kernel) (by decide +kernel), tb_in 55 (by decide +kernel) (by decide +kernel), ⟨by decide, by decide⟩, by decide +kernel⟩
set_option maxRecDepth 20000 in
theorem l_Law_108 : ML "RelayOrbiterLaw" 108 k_Mod_packet 2 := ⟨Or.inl (tb_in 1304 (by decide +kernel) (by decide +kernel)), tb_in 1307 (by decide +kernel) (by decide +kernel), tb_in 55 (by decide +kernel) (by decide +kernel), ⟨by decide, by decide⟩, by decide +kernel⟩
set_option maxRecDepth 20000 in
theorem l_Law_111 : ML "RelayOrbiterLaw" 111 k_Mod_content 2 := ⟨Or.inl (tb_in 1308 (by decide +kernel) (by decide +kernel)), tb_in 1311 (by decide +kernel) (by decide +kernel), tb_in 55 (by decide +kernel) (by decide +kernel), ⟨by decide, by decide⟩, by decide +kernel⟩
set_option maxRecDepth 20000 in
theorem s_Sto_blocksFor : Cond.static k_Sto_blocksFor.1 ∈ tb := tb_in 113 (by decide +kernel) (by decide +kernel)
set_option maxRecDepth 20000 in
theorem v_Orb_power : MV k_Orb_power 0 := ⟨tb_in 341 (by decide +kernel) (by decide +kernel), tb_in 342 (by decide +kernel) (by decide +kernel), T_Orb, 7, rfl⟩
set_option maxRecDepth 20000 in
theorem v_Sto_restart : MV k_Sto_restart 2 := ⟨tb_in 345 (by decide +kernel) (by decide +kernel), tb_in 346 (by decide +kernel) (by decide +kernel), T_Sto, 10, rfl⟩
set_option maxRecDepth 20000 in
theorem v_Ses_restart : MV k_Ses_restart 4 := ⟨tb_in 349 (by decide +kernel) (by decide +kernel), tb_in 350 (by decide +kernel) (by decide +kernel), T_Ses, 10, rfl⟩
set_option maxRecDepth 20000 in
theorem v_Ses_forgetSegments : MV k_Ses_forgetSegments 4 := ⟨tb_in 354 (by decide +kernel) (by decide +kernel), tb_in 0 (by decide +kernel) (by decide +kernel), T_Ses, 10, rfl⟩
set_option maxRecDepth 20000 in
theorem v_Str_forget : MV k_Str_forget 6 := ⟨tb_in 357 (by decide +kernel) (by decide +kernel), tb_in 358 (by decide +kernel) (by decide +kernel), T_Str, 3, rfl⟩
set_option maxRecDepth 20000 in
theorem v_Lan_forgetAll : MV k_Lan_forgetAll 7 := ⟨tb_in 361 (by decide +kernel) (by decide +kernel), tb_in 362 (by decide +kernel) (by decide +kernel), T_Lan, 3, rfl⟩
set_option maxRecDepth 20000 in
theorem v_Orb_out : MV k_Orb_out 0 := ⟨tb_in 365 (by decide +kernel) (by decide +kernel), tb_in 366 (by decide +kernel) (by decide +kernel), T_Orb, 7, rfl⟩
set_option maxRecDepth 20000 in
theorem v_Orb_window : MV k_Orb_window 0 := ⟨tb_in 373 (by decide +kernel) (by decide +kernel), tb_in 374 (by decide +kernel) (by decide +kernel), T_Orb, 7, rfl⟩
set_option maxRecDepth 20000 in
theorem s_Orb_isNoPair : Cond.static k_Orb_isNoPair.1 ∈ tb := tb_in 377 (by decide +kernel) (by decide +kernel)
set_option maxRecDepth 20000 in
theorem v_Orb_windowOf : MV k_Orb_windowOf 0 := ⟨tb_in 447 (by decide +kernel) (by decide +kernel), tb_in 2 (by decide +kernel) (by decide +kernel), T_Orb, 7, rfl⟩
set_option maxRecDepth 20000 in
theorem v_Win_set : MV k_Win_set 1 := ⟨tb_in 450 (by decide +kernel) (by decide +kernel), tb_in 451 (by decide +kernel) (by decide +kernel), T_Win, 3, rfl⟩
set_option maxRecDepth 20000 in
theorem v_Orb_minute : MV k_Orb_minute 0 := ⟨tb_in 457 (by decide +kernel) (by decide +kernel), tb_in 458 (by decide +kernel) (by decide +kernel), T_Orb, 7, rfl⟩
set_option maxRecDepth 20000 in
theorem v_Orb_seen : MV k_Orb_seen 0 := ⟨tb_in 464 (by decide +kernel) (by decide +kernel), tb_in 465 (by decide +kernel) (by decide +kernel), T_Orb, 7, rfl⟩
set_option maxRecDepth 20000 in
theorem v_Win_isOpen : MV k_Win_isOpen 1 := ⟨tb_in 468 (by decide +kernel) (by decide +kernel), tb_in 469 (by decide +kernel) (by decide +kernel), T_Win, 3, rfl⟩
set_option maxRecDepth 20000 in
theorem v_Orb_receive : MV k_Orb_receive 0 := ⟨tb_in 476 (by decide +kernel) (by decide +kernel), tb_in 477 (by decide +kernel) (by decide +kernel), T_Orb, 7, rfl⟩
set_option maxRecDepth 20000 in
theorem v_Lan_put : MV k_Lan_put 7 := ⟨tb_in 495 (by decide +kernel) (by decide +kernel), tb_in 496 (by decide +kernel) (by decide +kernel), T_Lan, 3, rfl⟩
set_option maxRecDepth 20000 in
theorem v_Orb_takeFrames : MV k_Orb_takeFrames 0 := ⟨tb_in 500 (by decide +kernel) (by decide +kernel), tb_in 3 (by decide +kernel) (by decide +kernel), T_Orb, 7, rfl⟩
set_option maxRecDepth 20000 in
theorem v_Lan_look : MV k_Lan_look 7 := ⟨tb_in 503 (by decide +kernel) (by decide +kernel), tb_in 504 (by decide +kernel) (by decide +kernel), T_Lan, 3, rfl⟩
set_option maxRecDepth 20000 in
theorem v_Lan_toldLength : MV k_Lan_toldLength 7 := ⟨tb_in 510 (by decide +kernel) (by decide +kernel), tb_in 4 (by decide +kernel) (by decide +kernel), T_Lan, 3, rfl⟩
set_option maxRecDepth 20000 in
theorem v_Lan_checkHolds : MV k_Lan_checkHolds 7 := ⟨tb_in 514 (by decide +kernel) (by decide +kernel), tb_in 5 (by decide +kernel) (by decide +kernel), T_Lan, 3, rfl⟩
set_option maxRecDepth 20000 in
theorem s_Orb_check : Cond.static k_Orb_check.1 ∈ tb := tb_in 518 (by decide +kernel) (by decide +kernel)
set_option maxRecDepth 20000 in
theorem v_Lan_giveUp : MV k_Lan_giveUp 7 := ⟨tb_in 521 (by decide +kernel) (by decide +kernel), tb_in 522 (by decide +kernel) (by decide +kernel), T_Lan, 3, rfl⟩
set_option maxRecDepth 20000 in
theorem v_Lan_takeFrame : MV k_Lan_takeFrame 7 := ⟨tb_in 531 (by decide +kernel) (by decide +kernel), tb_in 532 (by decide +kernel) (by decide +kernel), T_Lan, 3, rfl⟩
set_option maxRecDepth 20000 in
theorem v_Frm_copy : MV k_Frm_copy 8 := ⟨tb_in 535 (by decide +kernel) (by decide +kernel), tb_in 536 (by decide +kernel) (by decide +kernel), T_Frm, 2, rfl⟩
set_option maxRecDepth 20000 in
theorem v_Ses_heed : MV k_Ses_heed 4 := ⟨tb_in 545 (by decide +kernel) (by decide +kernel), tb_in 546 (by decide +kernel) (by decide +kernel), T_Ses, 10, rfl⟩
set_option maxRecDepth 20000 in
theorem v_Frm_spacecraft : MV k_Frm_spacecraft 8 := ⟨tb_in 549 (by decide +kernel) (by decide +kernel), tb_in 550 (by decide +kernel) (by decide +kernel), T_Frm, 2, rfl⟩
set_option maxRecDepth 20000 in
theorem v_Frm_isDirective : MV k_Frm_isDirective 8 := ⟨tb_in 553 (by decide +kernel) (by decide +kernel), tb_in 554 (by decide +kernel) (by decide +kernel), T_Frm, 2, rfl⟩
set_option maxRecDepth 20000 in
theorem v_Ses_obey : MV k_Ses_obey 4 := ⟨tb_in 558 (by decide +kernel) (by decide +kernel), tb_in 6 (by decide +kernel) (by decide +kernel), T_Ses, 10, rfl⟩
set_option maxRecDepth 20000 in
theorem v_Frm_dataLength : MV k_Frm_dataLength 8 := ⟨tb_in 561 (by decide +kernel) (by decide +kernel), tb_in 562 (by decide +kernel) (by decide +kernel), T_Frm, 2, rfl⟩
set_option maxRecDepth 20000 in
theorem v_Frm_data : MV k_Frm_data 8 := ⟨tb_in 565 (by decide +kernel) (by decide +kernel), tb_in 566 (by decide +kernel) (by decide +kernel), T_Frm, 2, rfl⟩
set_option maxRecDepth 20000 in
theorem v_Frm_channel : MV k_Frm_channel 8 := ⟨tb_in 569 (by decide +kernel) (by decide +kernel), tb_in 570 (by decide +kernel) (by decide +kernel), T_Frm, 2, rfl⟩
set_option maxRecDepth 20000 in
theorem v_Ses_begin : MV k_Ses_begin 4 := ⟨tb_in 574 (by decide +kernel) (by decide +kernel), tb_in 7 (by decide +kernel) (by decide +kernel), T_Ses, 10, rfl⟩
set_option maxRecDepth 20000 in
theorem v_Ses_isOnFor : MV k_Ses_isOnFor 4 := ⟨tb_in 578 (by decide +kernel) (by decide +kernel), tb_in 8 (by decide +kernel) (by decide +kernel), T_Ses, 10, rfl⟩
set_option maxRecDepth 20000 in
theorem v_Ses_gather : MV k_Ses_gather 4 := ⟨tb_in 582 (by decide +kernel) (by decide +kernel), tb_in 9 (by decide +kernel) (by decide +kernel), T_Ses, 10, rfl⟩
set_option maxRecDepth 20000 in
theorem v_Har_clear : MV k_Har_clear 5 := ⟨tb_in 585 (by decide +kernel) (by decide +kernel), tb_in 586 (by decide +kernel) (by decide +kernel), T_Har, 5, rfl⟩
set_option maxRecDepth 20000 in
theorem v_Frm_form : MV k_Frm_form 8 := ⟨tb_in 589 (by decide +kernel) (by decide +kernel), tb_in 590 (by decide +kernel) (by decide +kernel), T_Frm, 2, rfl⟩
set_option maxRecDepth 20000 in
theorem v_Ses_appendData : MV k_Ses_appendData 4 := ⟨tb_in 594 (by decide +kernel) (by decide +kernel), tb_in 10 (by decide +kernel) (by decide +kernel), T_Ses, 10, rfl⟩
set_option maxRecDepth 20000 in
theorem v_Har_append : MV k_Har_append 5 := ⟨tb_in 597 (by decide +kernel) (by decide +kernel), tb_in 598 (by decide +kernel) (by decide +kernel), T_Har, 5, rfl⟩
set_option maxRecDepth 20000 in
theorem v_Har_findPackets : MV k_Har_findPackets 5 := ⟨tb_in 601 (by decide +kernel) (by decide +kernel), tb_in 602 (by decide +kernel) (by decide +kernel), T_Har, 5, rfl⟩
set_option maxRecDepth 20000 in
theorem v_Har_packetLengthAt : MV k_Har_packetLengthAt 5 := ⟨tb_in 606 (by decide +kernel) (by decide +kernel), tb_in 11 (by decide +kernel) (by decide +kernel), T_Har, 5, rfl⟩
set_option maxRecDepth 20000 in
theorem v_Ses_gatherSegment : MV k_Ses_gatherSegment 4 := ⟨tb_in 610 (by decide +kernel) (by decide +kernel), tb_in 12 (by decide +kernel) (by decide +kernel), T_Ses, 10, rfl⟩
set_option maxRecDepth 20000 in
theorem v_Har_findOneWholePacket : MV k_Har_findOneWholePacket 5 := ⟨tb_in 613 (by decide +kernel) (by decide +kernel), tb_in 614 (by decide +kernel) (by decide +kernel), T_Har, 5, rfl⟩
set_option maxRecDepth 20000 in
theorem v_Frm_isExpedited : MV k_Frm_isExpedited 8 := ⟨tb_in 617 (by decide +kernel) (by decide +kernel), tb_in 618 (by decide +kernel) (by decide +kernel), T_Frm, 2, rfl⟩
set_option maxRecDepth 20000 in
theorem v_Ses_admitExpedited : MV k_Ses_admitExpedited 4 := ⟨tb_in 622 (by decide +kernel) (by decide +kernel), tb_in 13 (by decide +kernel) (by decide +kernel), T_Ses, 10, rfl⟩
set_option maxRecDepth 20000 in
theorem v_Frm_number : MV k_Frm_number 8 := ⟨tb_in 625 (by decide +kernel) (by decide +kernel), tb_in 626 (by decide +kernel) (by decide +kernel), T_Frm, 2, rfl⟩
set_option maxRecDepth 20000 in
theorem v_Ses_admitSequenced : MV k_Ses_admitSequenced 4 := ⟨tb_in 630 (by decide +kernel) (by decide +kernel), tb_in 14 (by decide +kernel) (by decide +kernel), T_Ses, 10, rfl⟩
set_option maxRecDepth 20000 in
theorem v_Har_blocksOfAll : MV k_Har_blocksOfAll 5 := ⟨tb_in 633 (by decide +kernel) (by decide +kernel), tb_in 634 (by decide +kernel) (by decide +kernel), T_Har, 5, rfl⟩
set_option maxRecDepth 20000 in
theorem v_Sto_hasRoom : MV k_Sto_hasRoom 2 := ⟨tb_in 638 (by decide +kernel) (by decide +kernel), tb_in 639 (by decide +kernel) (by decide +kernel), T_Sto, 10, rfl⟩
set_option maxRecDepth 20000 in
theorem v_Ses_settleStream : MV k_Ses_settleStream 4 := ⟨tb_in 643 (by decide +kernel) (by decide +kernel), tb_in 15 (by decide +kernel) (by decide +kernel), T_Ses, 10, rfl⟩
set_option maxRecDepth 20000 in
theorem v_Str_hold : MV k_Str_hold 6 := ⟨tb_in 646 (by decide +kernel) (by decide +kernel), tb_in 647 (by decide +kernel) (by decide +kernel), T_Str, 3, rfl⟩
set_option maxRecDepth 20000 in
theorem v_Ses_keepWhatFits : MV k_Ses_keepWhatFits 4 := ⟨tb_in 652 (by decide +kernel) (by decide +kernel), tb_in 16 (by decide +kernel) (by decide +kernel), T_Ses, 10, rfl⟩
set_option maxRecDepth 20000 in
theorem v_Sto_add : MV k_Sto_add 2 := ⟨tb_in 655 (by decide +kernel) (by decide +kernel), tb_in 656 (by decide +kernel) (by decide +kernel), T_Sto, 10, rfl⟩
set_option maxRecDepth 20000 in
theorem v_Sto_writeBlocks : MV k_Sto_writeBlocks 2 := ⟨tb_in 662 (by decide +kernel) (by decide +kernel), tb_in 17 (by decide +kernel) (by decide +kernel), T_Sto, 10, rfl⟩
set_option maxRecDepth 20000 in
theorem v_Sto_write : MV k_Sto_write 2 := ⟨tb_in 668 (by decide +kernel) (by decide +kernel), tb_in 18 (by decide +kernel) (by decide +kernel), T_Sto, 10, rfl⟩
set_option maxRecDepth 20000 in
theorem v_Sto_renewFullJournal : MV k_Sto_renewFullJournal 2 := ⟨tb_in 672 (by decide +kernel) (by decide +kernel), tb_in 19 (by decide +kernel) (by decide +kernel), T_Sto, 10, rfl⟩
set_option maxRecDepth 20000 in
theorem v_Sto_enterAdded : MV k_Sto_enterAdded 2 := ⟨tb_in 676 (by decide +kernel) (by decide +kernel), tb_in 20 (by decide +kernel) (by decide +kernel), T_Sto, 10, rfl⟩
set_option maxRecDepth 20000 in
theorem v_Sto_markBlocks : MV k_Sto_markBlocks 2 := ⟨tb_in 680 (by decide +kernel) (by decide +kernel), tb_in 21 (by decide +kernel) (by decide +kernel), T_Sto, 10, rfl⟩
set_option maxRecDepth 20000 in
theorem v_Orb_report : MV k_Orb_report 0 := ⟨tb_in 686 (by decide +kernel) (by decide +kernel), tb_in 687 (by decide +kernel) (by decide +kernel), T_Orb, 7, rfl⟩
set_option maxRecDepth 20000 in
theorem v_Ses_reportWord : MV k_Ses_reportWord 4 := ⟨tb_in 690 (by decide +kernel) (by decide +kernel), tb_in 691 (by decide +kernel) (by decide +kernel), T_Ses, 10, rfl⟩
set_option maxRecDepth 20000 in
theorem v_Orb_send : MV k_Orb_send 0 := ⟨tb_in 699 (by decide +kernel) (by decide +kernel), tb_in 700 (by decide +kernel) (by decide +kernel), T_Orb, 7, rfl⟩
set_option maxRecDepth 20000 in
theorem v_Ear_emit : MV k_Ear_emit 9 := ⟨tb_in 718 (by decide +kernel) (by decide +kernel), tb_in 719 (by decide +kernel) (by decide +kernel), T_Ear, 3, rfl⟩
set_option maxRecDepth 20000 in
theorem v_Ear_putNumber : MV k_Ear_putNumber 9 := ⟨tb_in 723 (by decide +kernel) (by decide +kernel), tb_in 22 (by decide +kernel) (by decide +kernel), T_Ear, 3, rfl⟩
set_option maxRecDepth 20000 in
theorem v_Ear_fillZone : MV k_Ear_fillZone 9 := ⟨tb_in 727 (by decide +kernel) (by decide +kernel), tb_in 23 (by decide +kernel) (by decide +kernel), T_Ear, 3, rfl⟩
set_option maxRecDepth 20000 in
theorem s_Ear_pointerWith : Cond.static k_Ear_pointerWith.1 ∈ tb := tb_in 1006 (by decide +kernel) (by decide +kernel)
set_option maxRecDepth 20000 in
theorem v_Ear_emitPart : MV k_Ear_emitPart 9 := ⟨tb_in 1010 (by decide +kernel) (by decide +kernel), tb_in 24 (by decide +kernel) (by decide +kernel), T_Ear, 3, rfl⟩
set_option maxRecDepth 20000 in
theorem v_Sto_byteOf : MV k_Sto_byteOf 2 := ⟨tb_in 1013 (by decide +kernel) (by decide +kernel), tb_in 1014 (by decide +kernel) (by decide +kernel), T_Sto, 10, rfl⟩
set_option maxRecDepth 20000 in
theorem v_Sto_dropEmitted : MV k_Sto_dropEmitted 2 := ⟨tb_in 1019 (by decide +kernel) (by decide +kernel), tb_in 1020 (by decide +kernel) (by decide +kernel), T_Sto, 10, rfl⟩
set_option maxRecDepth 20000 in
theorem v_Sto_enterDropped : MV k_Sto_enterDropped 2 := ⟨tb_in 1024 (by decide +kernel) (by decide +kernel), tb_in 25 (by decide +kernel) (by decide +kernel), T_Sto, 10, rfl⟩
set_option maxRecDepth 20000 in
theorem v_Orb_sent : MV k_Orb_sent 0 := ⟨tb_in 1031 (by decide +kernel) (by decide +kernel), tb_in 1032 (by decide +kernel) (by decide +kernel), T_Orb, 7, rfl⟩
set_option maxRecDepth 20000 in
theorem v_Ear_hasByte : MV k_Ear_hasByte 9 := ⟨tb_in 1035 (by decide +kernel) (by decide +kernel), tb_in 1036 (by decide +kernel) (by decide +kernel), T_Ear, 3, rfl⟩
set_option maxRecDepth 20000 in
theorem v_Orb_fail : MV k_Orb_fail 0 := ⟨tb_in 1057 (by decide +kernel) (by decide +kernel), tb_in 1058 (by decide +kernel) (by decide +kernel), T_Orb, 7, rfl⟩
set_option maxRecDepth 20000 in
theorem v_Orb_store : MV k_Orb_store 0 := ⟨tb_in 1064 (by decide +kernel) (by decide +kernel), tb_in 1065 (by decide +kernel) (by decide +kernel), T_Orb, 7, rfl⟩
set_option maxRecDepth 20000 in
theorem v_Orb_packet : MV k_Orb_packet 0 := ⟨tb_in 1071 (by decide +kernel) (by decide +kernel), tb_in 1072 (by decide +kernel) (by decide +kernel), T_Orb, 7, rfl⟩
set_option maxRecDepth 20000 in
theorem v_Sto_has : MV k_Sto_has 2 := ⟨tb_in 1075 (by decide +kernel) (by decide +kernel), tb_in 1076 (by decide +kernel) (by decide +kernel), T_Sto, 10, rfl⟩
set_option maxRecDepth 20000 in
theorem v_Orb_content : MV k_Orb_content 0 := ⟨tb_in 1082 (by decide +kernel) (by decide +kernel), tb_in 1083 (by decide +kernel) (by decide +kernel), T_Orb, 7, rfl⟩
set_option maxRecDepth 20000 in
theorem v_Mod_thrown : MV k_Mod_thrown 10 := ⟨tb_in 1175 (by decide +kernel) (by decide +kernel), tb_in 1176 (by decide +kernel) (by decide +kernel), T_Mod, 27, rfl⟩
set_option maxRecDepth 20000 in
theorem v_Mod_window : MV k_Mod_window 10 := ⟨tb_in 1179 (by decide +kernel) (by decide +kernel), tb_in 1180 (by decide +kernel) (by decide +kernel), T_Mod, 27, rfl⟩
set_option maxRecDepth 20000 in
theorem v_Mod_minute : MV k_Mod_minute 10 := ⟨tb_in 1183 (by decide +kernel) (by decide +kernel), tb_in 1184 (by decide +kernel) (by decide +kernel), T_Mod, 27, rfl⟩
set_option maxRecDepth 20000 in
theorem v_Mod_seen : MV k_Mod_seen 10 := ⟨tb_in 1187 (by decide +kernel) (by decide +kernel), tb_in 1188 (by decide +kernel) (by decide +kernel), T_Mod, 27, rfl⟩
set_option maxRecDepth 20000 in
theorem v_Mod_seenBy : MV k_Mod_seenBy 10 := ⟨tb_in 1192 (by decide +kernel) (by decide +kernel), tb_in 26 (by decide +kernel) (by decide +kernel), T_Mod, 27, rfl⟩
set_option maxRecDepth 20000 in
theorem v_Mod_receive : MV k_Mod_receive 10 := ⟨tb_in 1195 (by decide +kernel) (by decide +kernel), tb_in 1196 (by decide +kernel) (by decide +kernel), T_Mod, 27, rfl⟩
set_option maxRecDepth 20000 in
theorem v_Mod_byteIn : MV k_Mod_byteIn 10 := ⟨tb_in 1200 (by decide +kernel) (by decide +kernel), tb_in 27 (by decide +kernel) (by decide +kernel), T_Mod, 27, rfl⟩
set_option maxRecDepth 20000 in
theorem v_Mod_look : MV k_Mod_look 10 := ⟨tb_in 1204 (by decide +kernel) (by decide +kernel), tb_in 28 (by decide +kernel) (by decide +kernel), T_Mod, 27, rfl⟩
set_option maxRecDepth 20000 in
theorem v_Mod_checked : MV k_Mod_checked 10 := ⟨tb_in 1208 (by decide +kernel) (by decide +kernel), tb_in 29 (by decide +kernel) (by decide +kernel), T_Mod, 27, rfl⟩
set_option maxRecDepth 20000 in
theorem v_Mod_taken : MV k_Mod_taken 10 := ⟨tb_in 1213 (by decide +kernel) (by decide +kernel), tb_in 30 (by decide +kernel) (by decide +kernel), T_Mod, 27, rfl⟩
set_option maxRecDepth 20000 in
theorem v_Mod_directive : MV k_Mod_directive 10 := ⟨tb_in 1217 (by decide +kernel) (by decide +kernel), tb_in 31 (by decide +kernel) (by decide +kernel), T_Mod, 27, rfl⟩
set_option maxRecDepth 20000 in
theorem v_Mod_packetsIn : MV k_Mod_packetsIn 10 := ⟨tb_in 1221 (by decide +kernel) (by decide +kernel), tb_in 32 (by decide +kernel) (by decide +kernel), T_Mod, 27, rfl⟩
set_option maxRecDepth 20000 in
theorem s_Mod_packetAt : Cond.static k_Mod_packetAt.1 ∈ tb := tb_in 1224 (by decide +kernel) (by decide +kernel)
set_option maxRecDepth 20000 in
theorem s_Mod_blocksOf : Cond.static k_Mod_blocksOf.1 ∈ tb := tb_in 1227 (by decide +kernel) (by decide +kernel)
set_option maxRecDepth 20000 in
theorem v_Mod_freeBlocks : MV k_Mod_freeBlocks 10 := ⟨tb_in 1231 (by decide +kernel) (by decide +kernel), tb_in 33 (by decide +kernel) (by decide +kernel), T_Mod, 27, rfl⟩
set_option maxRecDepth 20000 in
theorem v_Mod_isFree : MV k_Mod_isFree 10 := ⟨tb_in 1235 (by decide +kernel) (by decide +kernel), tb_in 34 (by decide +kernel) (by decide +kernel), T_Mod, 27, rfl⟩
set_option maxRecDepth 20000 in
theorem v_Mod_keepPacket : MV k_Mod_keepPacket 10 := ⟨tb_in 1239 (by decide +kernel) (by decide +kernel), tb_in 35 (by decide +kernel) (by decide +kernel), T_Mod, 27, rfl⟩
set_option maxRecDepth 20000 in
theorem v_Mod_write : MV k_Mod_write 10 := ⟨tb_in 1243 (by decide +kernel) (by decide +kernel), tb_in 36 (by decide +kernel) (by decide +kernel), T_Mod, 27, rfl⟩
set_option maxRecDepth 20000 in
theorem v_Mod_journal : MV k_Mod_journal 10 := ⟨tb_in 1247 (by decide +kernel) (by decide +kernel), tb_in 37 (by decide +kernel) (by decide +kernel), T_Mod, 27, rfl⟩
set_option maxRecDepth 20000 in
theorem v_Mod_segmentIn : MV k_Mod_segmentIn 10 := ⟨tb_in 1251 (by decide +kernel) (by decide +kernel), tb_in 38 (by decide +kernel) (by decide +kernel), T_Mod, 27, rfl⟩
set_option maxRecDepth 20000 in
theorem v_Mod_goesOn : MV k_Mod_goesOn 10 := ⟨tb_in 1255 (by decide +kernel) (by decide +kernel), tb_in 39 (by decide +kernel) (by decide +kernel), T_Mod, 27, rfl⟩
set_option maxRecDepth 20000 in
theorem v_Mod_leave : MV k_Mod_leave 10 := ⟨tb_in 1259 (by decide +kernel) (by decide +kernel), tb_in 40 (by decide +kernel) (by decide +kernel), T_Mod, 27, rfl⟩
set_option maxRecDepth 20000 in
theorem v_Mod_report : MV k_Mod_report 10 := ⟨tb_in 1262 (by decide +kernel) (by decide +kernel), tb_in 1263 (by decide +kernel) (by decide +kernel), T_Mod, 27, rfl⟩
set_option maxRecDepth 20000 in
theorem v_Mod_send : MV k_Mod_send 10 := ⟨tb_in 1267 (by decide +kernel) (by decide +kernel), tb_in 1268 (by decide +kernel) (by decide +kernel), T_Mod, 27, rfl⟩
set_option maxRecDepth 20000 in
theorem v_Mod_fill : MV k_Mod_fill 10 := ⟨tb_in 1273 (by decide +kernel) (by decide +kernel), tb_in 41 (by decide +kernel) (by decide +kernel), T_Mod, 27, rfl⟩
set_option maxRecDepth 20000 in
theorem v_Mod_check16 : MV k_Mod_check16 10 := ⟨tb_in 1277 (by decide +kernel) (by decide +kernel), tb_in 42 (by decide +kernel) (by decide +kernel), T_Mod, 27, rfl⟩
set_option maxRecDepth 20000 in
theorem v_Mod_drop : MV k_Mod_drop 10 := ⟨tb_in 1282 (by decide +kernel) (by decide +kernel), tb_in 43 (by decide +kernel) (by decide +kernel), T_Mod, 27, rfl⟩
set_option maxRecDepth 20000 in
theorem v_Mod_sent : MV k_Mod_sent 10 := ⟨tb_in 1285 (by decide +kernel) (by decide +kernel), tb_in 1286 (by decide +kernel) (by decide +kernel), T_Mod, 27, rfl⟩
set_option maxRecDepth 20000 in
theorem v_Mod_fail : MV k_Mod_fail 10 := ⟨tb_in 1289 (by decide +kernel) (by decide +kernel), tb_in 1290 (by decide +kernel) (by decide +kernel), T_Mod, 27, rfl⟩
set_option maxRecDepth 20000 in
theorem v_Mod_power : MV k_Mod_power 10 := ⟨tb_in 1293 (by decide +kernel) (by decide +kernel), tb_in 1294 (by decide +kernel) (by decide +kernel), T_Mod, 27, rfl⟩
set_option maxRecDepth 20000 in
theorem v_Mod_out : MV k_Mod_out 10 := ⟨tb_in 1297 (by decide +kernel) (by decide +kernel), tb_in 1298 (by decide +kernel) (by decide +kernel), T_Mod, 27, rfl⟩
set_option maxRecDepth 20000 in
theorem v_Mod_store : MV k_Mod_store 10 := ⟨tb_in 1301 (by decide +kernel) (by decide +kernel), tb_in 1302 (by decide +kernel) (by decide +kernel), T_Mod, 27, rfl⟩
set_option maxRecDepth 20000 in
theorem v_Mod_packet : MV k_Mod_packet 10 := ⟨tb_in 1305 (by decide +kernel) (by decide +kernel), tb_in 1306 (by decide +kernel) (by decide +kernel), T_Mod, 27, rfl⟩
set_option maxRecDepth 20000 in
theorem v_Mod_content : MV k_Mod_content 10 := ⟨tb_in 1309 (by decide +kernel) (by decide +kernel), tb_in 1310 (by decide +kernel) (by decide +kernel), T_Mod, 27, rfl⟩
theorem g_mark : Cond.fieldLink "RelayOrbiter$LanderLink" 36 "RelayOrbiter$LanderLink" "MARK" "[I" ∈ tb := tb_in 506 (by decide +kernel) (by decide +kernel)
set_option maxRecDepth 20000 in
theorem c_Lan_55 : Cond.constant "RelayOrbiter$LanderLink" 55 10487813 ∈ tb := tb_in 516 (by decide +kernel) (by decide +kernel)
set_option maxRecDepth 20000 in
theorem c_Ses_56 : Cond.constant "RelayOrbiter$Session" 56 32768 ∈ tb := tb_in 693 (by decide +kernel) (by decide +kernel)
set_option maxRecDepth 20000 in
theorem c_Ear_30 : Cond.constant "RelayOrbiter$EarthLink" 30 65535 ∈ tb := tb_in 1016 (by decide +kernel) (by decide +kernel)
set_option maxRecDepth 20000 in
theorem c_Mod_139 : Cond.constant "RelayOrbiterModel" 139 10487813 ∈ tb := tb_in 1210 (by decide +kernel) (by decide +kernel)
set_option maxRecDepth 20000 in
theorem c_Mod_157 : Cond.constant "RelayOrbiterModel" 157 32768 ∈ tb := tb_in 1265 (by decide +kernel) (by decide +kernel)
set_option maxRecDepth 20000 in
theorem c_Mod_158 : Cond.constant "RelayOrbiterModel" 158 16777215 ∈ tb := tb_in 1270 (by decide +kernel) (by decide +kernel)
set_option maxRecDepth 20000 in
theorem c_Mod_153 : Cond.constant "RelayOrbiterModel" 153 65535 ∈ tb := tb_in 1279 (by decide +kernel) (by decide +kernel)
