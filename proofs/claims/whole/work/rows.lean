section
-- ===== PART A: goes FIRST, ahead of the names: the tables' words, and 'selects' of the private methods out of them =====
/-- a private method of a class that the tables say can be made, by its rows of tables_1 -/
def lw_okq (q : MethodName × Nat) : Prop := (q.1.cls ≠ "java/lang/invoke/MethodHandle" ∧ q.1.cls ≠ "java/lang/invoke/VarHandle") ∧ Cond.instantiable q.1.cls q.2 ∈ tables_1 ∧ Cond.privateMethod q.1 ∈ tables_1 ∧ Cond.instanceMethod q.1 ∈ tables_1
theorem lw_p0 : lw_okq (⟨"RelayOrbiter$Session", "forgetSegments", "()V"⟩, 10) := ⟨⟨by decide +kernel, by decide +kernel⟩, List.mem_of_getElem? (i := 143) (by decide +kernel), List.mem_of_getElem? (i := 309) (by decide +kernel), List.mem_of_getElem? (i := 310) (by decide +kernel)⟩
theorem lw_p1 : lw_okq (⟨"java/lang/Throwable", "fillInStackTrace", "(I)Ljava/lang/Throwable;"⟩, 6) := ⟨⟨by decide +kernel, by decide +kernel⟩, List.mem_of_getElem? (i := 376) (by decide +kernel), List.mem_of_getElem? (i := 374) (by decide +kernel), List.mem_of_getElem? (i := 375) (by decide +kernel)⟩
theorem lw_p2 : lw_okq (⟨"RelayOrbiter", "windowOf", "(I)LRelayOrbiter$Window;"⟩, 7) := ⟨⟨by decide +kernel, by decide +kernel⟩, List.mem_of_getElem? (i := 32) (by decide +kernel), List.mem_of_getElem? (i := 402) (by decide +kernel), List.mem_of_getElem? (i := 403) (by decide +kernel)⟩
theorem lw_p3 : lw_okq (⟨"RelayOrbiter", "takeFrames", "()I"⟩, 7) := ⟨⟨by decide +kernel, by decide +kernel⟩, List.mem_of_getElem? (i := 32) (by decide +kernel), List.mem_of_getElem? (i := 455) (by decide +kernel), List.mem_of_getElem? (i := 456) (by decide +kernel)⟩
theorem lw_p4 : lw_okq (⟨"RelayOrbiter$LanderLink", "toldLength", "()I"⟩, 3) := ⟨⟨by decide +kernel, by decide +kernel⟩, List.mem_of_getElem? (i := 228) (by decide +kernel), List.mem_of_getElem? (i := 465) (by decide +kernel), List.mem_of_getElem? (i := 466) (by decide +kernel)⟩
theorem lw_p5 : lw_okq (⟨"RelayOrbiter$LanderLink", "checkHolds", "(I)Z"⟩, 3) := ⟨⟨by decide +kernel, by decide +kernel⟩, List.mem_of_getElem? (i := 228) (by decide +kernel), List.mem_of_getElem? (i := 469) (by decide +kernel), List.mem_of_getElem? (i := 470) (by decide +kernel)⟩
theorem lw_p6 : lw_okq (⟨"RelayOrbiter$Session", "obey", "(LRelayOrbiter$Frame;)V"⟩, 10) := ⟨⟨by decide +kernel, by decide +kernel⟩, List.mem_of_getElem? (i := 143) (by decide +kernel), List.mem_of_getElem? (i := 513) (by decide +kernel), List.mem_of_getElem? (i := 514) (by decide +kernel)⟩
theorem lw_p7 : lw_okq (⟨"RelayOrbiter$Session", "begin", "(I)V"⟩, 10) := ⟨⟨by decide +kernel, by decide +kernel⟩, List.mem_of_getElem? (i := 143) (by decide +kernel), List.mem_of_getElem? (i := 529) (by decide +kernel), List.mem_of_getElem? (i := 530) (by decide +kernel)⟩
theorem lw_p8 : lw_okq (⟨"RelayOrbiter$Session", "isOnFor", "(LRelayOrbiter$Frame;)Z"⟩, 10) := ⟨⟨by decide +kernel, by decide +kernel⟩, List.mem_of_getElem? (i := 143) (by decide +kernel), List.mem_of_getElem? (i := 533) (by decide +kernel), List.mem_of_getElem? (i := 534) (by decide +kernel)⟩
theorem lw_p9 : lw_okq (⟨"RelayOrbiter$Session", "gather", "(LRelayOrbiter$Frame;)V"⟩, 10) := ⟨⟨by decide +kernel, by decide +kernel⟩, List.mem_of_getElem? (i := 143) (by decide +kernel), List.mem_of_getElem? (i := 537) (by decide +kernel), List.mem_of_getElem? (i := 538) (by decide +kernel)⟩
theorem lw_p10 : lw_okq (⟨"RelayOrbiter$Session", "appendData", "(LRelayOrbiter$Frame;I)V"⟩, 10) := ⟨⟨by decide +kernel, by decide +kernel⟩, List.mem_of_getElem? (i := 143) (by decide +kernel), List.mem_of_getElem? (i := 549) (by decide +kernel), List.mem_of_getElem? (i := 550) (by decide +kernel)⟩
theorem lw_p11 : lw_okq (⟨"RelayOrbiter$Harvest", "packetLengthAt", "(I)I"⟩, 5) := ⟨⟨by decide +kernel, by decide +kernel⟩, List.mem_of_getElem? (i := 149) (by decide +kernel), List.mem_of_getElem? (i := 561) (by decide +kernel), List.mem_of_getElem? (i := 562) (by decide +kernel)⟩
theorem lw_p12 : lw_okq (⟨"RelayOrbiter$Session", "gatherSegment", "(LRelayOrbiter$Frame;)V"⟩, 10) := ⟨⟨by decide +kernel, by decide +kernel⟩, List.mem_of_getElem? (i := 143) (by decide +kernel), List.mem_of_getElem? (i := 565) (by decide +kernel), List.mem_of_getElem? (i := 566) (by decide +kernel)⟩
theorem lw_p13 : lw_okq (⟨"RelayOrbiter$Session", "admitExpedited", "()Z"⟩, 10) := ⟨⟨by decide +kernel, by decide +kernel⟩, List.mem_of_getElem? (i := 143) (by decide +kernel), List.mem_of_getElem? (i := 577) (by decide +kernel), List.mem_of_getElem? (i := 578) (by decide +kernel)⟩
theorem lw_p14 : lw_okq (⟨"RelayOrbiter$Session", "admitSequenced", "(I)Z"⟩, 10) := ⟨⟨by decide +kernel, by decide +kernel⟩, List.mem_of_getElem? (i := 143) (by decide +kernel), List.mem_of_getElem? (i := 585) (by decide +kernel), List.mem_of_getElem? (i := 586) (by decide +kernel)⟩
theorem lw_p15 : lw_okq (⟨"RelayOrbiter$Session", "settleStream", "()V"⟩, 10) := ⟨⟨by decide +kernel, by decide +kernel⟩, List.mem_of_getElem? (i := 143) (by decide +kernel), List.mem_of_getElem? (i := 598) (by decide +kernel), List.mem_of_getElem? (i := 599) (by decide +kernel)⟩
def lw_privs_1 : List (MethodName × Nat) := [(⟨"RelayOrbiter$Session", "forgetSegments", "()V"⟩, 10), (⟨"java/lang/Throwable", "fillInStackTrace", "(I)Ljava/lang/Throwable;"⟩, 6), (⟨"RelayOrbiter", "windowOf", "(I)LRelayOrbiter$Window;"⟩, 7), (⟨"RelayOrbiter", "takeFrames", "()I"⟩, 7), (⟨"RelayOrbiter$LanderLink", "toldLength", "()I"⟩, 3), (⟨"RelayOrbiter$LanderLink", "checkHolds", "(I)Z"⟩, 3), (⟨"RelayOrbiter$Session", "obey", "(LRelayOrbiter$Frame;)V"⟩, 10), (⟨"RelayOrbiter$Session", "begin", "(I)V"⟩, 10), (⟨"RelayOrbiter$Session", "isOnFor", "(LRelayOrbiter$Frame;)Z"⟩, 10), (⟨"RelayOrbiter$Session", "gather", "(LRelayOrbiter$Frame;)V"⟩, 10), (⟨"RelayOrbiter$Session", "appendData", "(LRelayOrbiter$Frame;I)V"⟩, 10), (⟨"RelayOrbiter$Harvest", "packetLengthAt", "(I)I"⟩, 5), (⟨"RelayOrbiter$Session", "gatherSegment", "(LRelayOrbiter$Frame;)V"⟩, 10), (⟨"RelayOrbiter$Session", "admitExpedited", "()Z"⟩, 10), (⟨"RelayOrbiter$Session", "admitSequenced", "(I)Z"⟩, 10), (⟨"RelayOrbiter$Session", "settleStream", "()V"⟩, 10)]
theorem lw_r1 : ∀ q ∈ lw_privs_1, lw_okq q := List.forall_mem_cons.mpr ⟨lw_p0, List.forall_mem_cons.mpr ⟨lw_p1, List.forall_mem_cons.mpr ⟨lw_p2, List.forall_mem_cons.mpr ⟨lw_p3, List.forall_mem_cons.mpr ⟨lw_p4, List.forall_mem_cons.mpr ⟨lw_p5, List.forall_mem_cons.mpr ⟨lw_p6, List.forall_mem_cons.mpr ⟨lw_p7, List.forall_mem_cons.mpr ⟨lw_p8, List.forall_mem_cons.mpr ⟨lw_p9, List.forall_mem_cons.mpr ⟨lw_p10, List.forall_mem_cons.mpr ⟨lw_p11, List.forall_mem_cons.mpr ⟨lw_p12, List.forall_mem_cons.mpr ⟨lw_p13, List.forall_mem_cons.mpr ⟨lw_p14, List.forall_mem_cons.mpr ⟨lw_p15, fun _ h => absurd h List.not_mem_nil⟩⟩⟩⟩⟩⟩⟩⟩⟩⟩⟩⟩⟩⟩⟩⟩
theorem lw_p16 : lw_okq (⟨"RelayOrbiter$Session", "keepWhatFits", "()V"⟩, 10) := ⟨⟨by decide +kernel, by decide +kernel⟩, List.mem_of_getElem? (i := 143) (by decide +kernel), List.mem_of_getElem? (i := 607) (by decide +kernel), List.mem_of_getElem? (i := 608) (by decide +kernel)⟩
theorem lw_p17 : lw_okq (⟨"RelayOrbiter$Store", "writeBlocks", "(LRelayOrbiter$Packet;[II)V"⟩, 10) := ⟨⟨by decide +kernel, by decide +kernel⟩, List.mem_of_getElem? (i := 56) (by decide +kernel), List.mem_of_getElem? (i := 617) (by decide +kernel), List.mem_of_getElem? (i := 618) (by decide +kernel)⟩
theorem lw_p18 : lw_okq (⟨"RelayOrbiter$Store", "write", "()V"⟩, 10) := ⟨⟨by decide +kernel, by decide +kernel⟩, List.mem_of_getElem? (i := 56) (by decide +kernel), List.mem_of_getElem? (i := 623) (by decide +kernel), List.mem_of_getElem? (i := 624) (by decide +kernel)⟩
theorem lw_p19 : lw_okq (⟨"RelayOrbiter$Store", "renewFullJournal", "()V"⟩, 10) := ⟨⟨by decide +kernel, by decide +kernel⟩, List.mem_of_getElem? (i := 56) (by decide +kernel), List.mem_of_getElem? (i := 627) (by decide +kernel), List.mem_of_getElem? (i := 628) (by decide +kernel)⟩
theorem lw_p20 : lw_okq (⟨"RelayOrbiter$Store", "enterAdded", "(LRelayOrbiter$Packet;)V"⟩, 10) := ⟨⟨by decide +kernel, by decide +kernel⟩, List.mem_of_getElem? (i := 56) (by decide +kernel), List.mem_of_getElem? (i := 631) (by decide +kernel), List.mem_of_getElem? (i := 632) (by decide +kernel)⟩
theorem lw_p21 : lw_okq (⟨"RelayOrbiter$Store", "markBlocks", "(LRelayOrbiter$Packet;Z)V"⟩, 10) := ⟨⟨by decide +kernel, by decide +kernel⟩, List.mem_of_getElem? (i := 56) (by decide +kernel), List.mem_of_getElem? (i := 635) (by decide +kernel), List.mem_of_getElem? (i := 636) (by decide +kernel)⟩
theorem lw_p22 : lw_okq (⟨"RelayOrbiter$EarthLink", "putNumber", "(III)V"⟩, 3) := ⟨⟨by decide +kernel, by decide +kernel⟩, List.mem_of_getElem? (i := 258) (by decide +kernel), List.mem_of_getElem? (i := 678) (by decide +kernel), List.mem_of_getElem? (i := 679) (by decide +kernel)⟩
theorem lw_p23 : lw_okq (⟨"RelayOrbiter$EarthLink", "fillZone", "(ILRelayOrbiter$Store;)I"⟩, 3) := ⟨⟨by decide +kernel, by decide +kernel⟩, List.mem_of_getElem? (i := 258) (by decide +kernel), List.mem_of_getElem? (i := 682) (by decide +kernel), List.mem_of_getElem? (i := 683) (by decide +kernel)⟩
theorem lw_p24 : lw_okq (⟨"RelayOrbiter$EarthLink", "emitPart", "(LRelayOrbiter$Packet;ILRelayOrbiter$Store;)I"⟩, 3) := ⟨⟨by decide +kernel, by decide +kernel⟩, List.mem_of_getElem? (i := 258) (by decide +kernel), List.mem_of_getElem? (i := 965) (by decide +kernel), List.mem_of_getElem? (i := 966) (by decide +kernel)⟩
theorem lw_p25 : lw_okq (⟨"RelayOrbiter$Store", "enterDropped", "(I)V"⟩, 10) := ⟨⟨by decide +kernel, by decide +kernel⟩, List.mem_of_getElem? (i := 56) (by decide +kernel), List.mem_of_getElem? (i := 979) (by decide +kernel), List.mem_of_getElem? (i := 980) (by decide +kernel)⟩
theorem lw_p26 : lw_okq (⟨"RelayOrbiterModel", "seenBy", "(I)Z"⟩, 27) := ⟨⟨by decide +kernel, by decide +kernel⟩, List.mem_of_getElem? (i := 1043) (by decide +kernel), List.mem_of_getElem? (i := 1147) (by decide +kernel), List.mem_of_getElem? (i := 1148) (by decide +kernel)⟩
theorem lw_p27 : lw_okq (⟨"RelayOrbiterModel", "byteIn", "(I)I"⟩, 27) := ⟨⟨by decide +kernel, by decide +kernel⟩, List.mem_of_getElem? (i := 1043) (by decide +kernel), List.mem_of_getElem? (i := 1155) (by decide +kernel), List.mem_of_getElem? (i := 1156) (by decide +kernel)⟩
theorem lw_p28 : lw_okq (⟨"RelayOrbiterModel", "look", "()I"⟩, 27) := ⟨⟨by decide +kernel, by decide +kernel⟩, List.mem_of_getElem? (i := 1043) (by decide +kernel), List.mem_of_getElem? (i := 1159) (by decide +kernel), List.mem_of_getElem? (i := 1160) (by decide +kernel)⟩
theorem lw_p29 : lw_okq (⟨"RelayOrbiterModel", "checked", "(I)Z"⟩, 27) := ⟨⟨by decide +kernel, by decide +kernel⟩, List.mem_of_getElem? (i := 1043) (by decide +kernel), List.mem_of_getElem? (i := 1163) (by decide +kernel), List.mem_of_getElem? (i := 1164) (by decide +kernel)⟩
theorem lw_p30 : lw_okq (⟨"RelayOrbiterModel", "taken", "(I)V"⟩, 27) := ⟨⟨by decide +kernel, by decide +kernel⟩, List.mem_of_getElem? (i := 1043) (by decide +kernel), List.mem_of_getElem? (i := 1168) (by decide +kernel), List.mem_of_getElem? (i := 1169) (by decide +kernel)⟩
theorem lw_p31 : lw_okq (⟨"RelayOrbiterModel", "directive", "(III)V"⟩, 27) := ⟨⟨by decide +kernel, by decide +kernel⟩, List.mem_of_getElem? (i := 1043) (by decide +kernel), List.mem_of_getElem? (i := 1172) (by decide +kernel), List.mem_of_getElem? (i := 1173) (by decide +kernel)⟩
def lw_privs_2 : List (MethodName × Nat) := [(⟨"RelayOrbiter$Session", "keepWhatFits", "()V"⟩, 10), (⟨"RelayOrbiter$Store", "writeBlocks", "(LRelayOrbiter$Packet;[II)V"⟩, 10), (⟨"RelayOrbiter$Store", "write", "()V"⟩, 10), (⟨"RelayOrbiter$Store", "renewFullJournal", "()V"⟩, 10), (⟨"RelayOrbiter$Store", "enterAdded", "(LRelayOrbiter$Packet;)V"⟩, 10), (⟨"RelayOrbiter$Store", "markBlocks", "(LRelayOrbiter$Packet;Z)V"⟩, 10), (⟨"RelayOrbiter$EarthLink", "putNumber", "(III)V"⟩, 3), (⟨"RelayOrbiter$EarthLink", "fillZone", "(ILRelayOrbiter$Store;)I"⟩, 3), (⟨"RelayOrbiter$EarthLink", "emitPart", "(LRelayOrbiter$Packet;ILRelayOrbiter$Store;)I"⟩, 3), (⟨"RelayOrbiter$Store", "enterDropped", "(I)V"⟩, 10), (⟨"RelayOrbiterModel", "seenBy", "(I)Z"⟩, 27), (⟨"RelayOrbiterModel", "byteIn", "(I)I"⟩, 27), (⟨"RelayOrbiterModel", "look", "()I"⟩, 27), (⟨"RelayOrbiterModel", "checked", "(I)Z"⟩, 27), (⟨"RelayOrbiterModel", "taken", "(I)V"⟩, 27), (⟨"RelayOrbiterModel", "directive", "(III)V"⟩, 27)]
theorem lw_r2 : ∀ q ∈ lw_privs_2, lw_okq q := List.forall_mem_cons.mpr ⟨lw_p16, List.forall_mem_cons.mpr ⟨lw_p17, List.forall_mem_cons.mpr ⟨lw_p18, List.forall_mem_cons.mpr ⟨lw_p19, List.forall_mem_cons.mpr ⟨lw_p20, List.forall_mem_cons.mpr ⟨lw_p21, List.forall_mem_cons.mpr ⟨lw_p22, List.forall_mem_cons.mpr ⟨lw_p23, List.forall_mem_cons.mpr ⟨lw_p24, List.forall_mem_cons.mpr ⟨lw_p25, List.forall_mem_cons.mpr ⟨lw_p26, List.forall_mem_cons.mpr ⟨lw_p27, List.forall_mem_cons.mpr ⟨lw_p28, List.forall_mem_cons.mpr ⟨lw_p29, List.forall_mem_cons.mpr ⟨lw_p30, List.forall_mem_cons.mpr ⟨lw_p31, fun _ h => absurd h List.not_mem_nil⟩⟩⟩⟩⟩⟩⟩⟩⟩⟩⟩⟩⟩⟩⟩⟩
theorem lw_p32 : lw_okq (⟨"RelayOrbiterModel", "packetsIn", "(IIZ)Z"⟩, 27) := ⟨⟨by decide +kernel, by decide +kernel⟩, List.mem_of_getElem? (i := 1043) (by decide +kernel), List.mem_of_getElem? (i := 1176) (by decide +kernel), List.mem_of_getElem? (i := 1177) (by decide +kernel)⟩
theorem lw_p33 : lw_okq (⟨"RelayOrbiterModel", "freeBlocks", "()I"⟩, 27) := ⟨⟨by decide +kernel, by decide +kernel⟩, List.mem_of_getElem? (i := 1043) (by decide +kernel), List.mem_of_getElem? (i := 1186) (by decide +kernel), List.mem_of_getElem? (i := 1187) (by decide +kernel)⟩
theorem lw_p34 : lw_okq (⟨"RelayOrbiterModel", "isFree", "(I)Z"⟩, 27) := ⟨⟨by decide +kernel, by decide +kernel⟩, List.mem_of_getElem? (i := 1043) (by decide +kernel), List.mem_of_getElem? (i := 1190) (by decide +kernel), List.mem_of_getElem? (i := 1191) (by decide +kernel)⟩
theorem lw_p35 : lw_okq (⟨"RelayOrbiterModel", "keepPacket", "([III)V"⟩, 27) := ⟨⟨by decide +kernel, by decide +kernel⟩, List.mem_of_getElem? (i := 1043) (by decide +kernel), List.mem_of_getElem? (i := 1194) (by decide +kernel), List.mem_of_getElem? (i := 1195) (by decide +kernel)⟩
theorem lw_p36 : lw_okq (⟨"RelayOrbiterModel", "write", "()Z"⟩, 27) := ⟨⟨by decide +kernel, by decide +kernel⟩, List.mem_of_getElem? (i := 1043) (by decide +kernel), List.mem_of_getElem? (i := 1198) (by decide +kernel), List.mem_of_getElem? (i := 1199) (by decide +kernel)⟩
theorem lw_p37 : lw_okq (⟨"RelayOrbiterModel", "journal", "()Z"⟩, 27) := ⟨⟨by decide +kernel, by decide +kernel⟩, List.mem_of_getElem? (i := 1043) (by decide +kernel), List.mem_of_getElem? (i := 1202) (by decide +kernel), List.mem_of_getElem? (i := 1203) (by decide +kernel)⟩
theorem lw_p38 : lw_okq (⟨"RelayOrbiterModel", "segmentIn", "(IIZ)Z"⟩, 27) := ⟨⟨by decide +kernel, by decide +kernel⟩, List.mem_of_getElem? (i := 1043) (by decide +kernel), List.mem_of_getElem? (i := 1206) (by decide +kernel), List.mem_of_getElem? (i := 1207) (by decide +kernel)⟩
theorem lw_p39 : lw_okq (⟨"RelayOrbiterModel", "goesOn", "(III)Z"⟩, 27) := ⟨⟨by decide +kernel, by decide +kernel⟩, List.mem_of_getElem? (i := 1043) (by decide +kernel), List.mem_of_getElem? (i := 1210) (by decide +kernel), List.mem_of_getElem? (i := 1211) (by decide +kernel)⟩
theorem lw_p40 : lw_okq (⟨"RelayOrbiterModel", "leave", "(I)V"⟩, 27) := ⟨⟨by decide +kernel, by decide +kernel⟩, List.mem_of_getElem? (i := 1043) (by decide +kernel), List.mem_of_getElem? (i := 1214) (by decide +kernel), List.mem_of_getElem? (i := 1215) (by decide +kernel)⟩
theorem lw_p41 : lw_okq (⟨"RelayOrbiterModel", "fill", "(I)V"⟩, 27) := ⟨⟨by decide +kernel, by decide +kernel⟩, List.mem_of_getElem? (i := 1043) (by decide +kernel), List.mem_of_getElem? (i := 1228) (by decide +kernel), List.mem_of_getElem? (i := 1229) (by decide +kernel)⟩
theorem lw_p42 : lw_okq (⟨"RelayOrbiterModel", "check16", "()V"⟩, 27) := ⟨⟨by decide +kernel, by decide +kernel⟩, List.mem_of_getElem? (i := 1043) (by decide +kernel), List.mem_of_getElem? (i := 1232) (by decide +kernel), List.mem_of_getElem? (i := 1233) (by decide +kernel)⟩
theorem lw_p43 : lw_okq (⟨"RelayOrbiterModel", "drop", "(I)V"⟩, 27) := ⟨⟨by decide +kernel, by decide +kernel⟩, List.mem_of_getElem? (i := 1043) (by decide +kernel), List.mem_of_getElem? (i := 1237) (by decide +kernel), List.mem_of_getElem? (i := 1238) (by decide +kernel)⟩
def lw_privs_3 : List (MethodName × Nat) := [(⟨"RelayOrbiterModel", "packetsIn", "(IIZ)Z"⟩, 27), (⟨"RelayOrbiterModel", "freeBlocks", "()I"⟩, 27), (⟨"RelayOrbiterModel", "isFree", "(I)Z"⟩, 27), (⟨"RelayOrbiterModel", "keepPacket", "([III)V"⟩, 27), (⟨"RelayOrbiterModel", "write", "()Z"⟩, 27), (⟨"RelayOrbiterModel", "journal", "()Z"⟩, 27), (⟨"RelayOrbiterModel", "segmentIn", "(IIZ)Z"⟩, 27), (⟨"RelayOrbiterModel", "goesOn", "(III)Z"⟩, 27), (⟨"RelayOrbiterModel", "leave", "(I)V"⟩, 27), (⟨"RelayOrbiterModel", "fill", "(I)V"⟩, 27), (⟨"RelayOrbiterModel", "check16", "()V"⟩, 27), (⟨"RelayOrbiterModel", "drop", "(I)V"⟩, 27)]
theorem lw_r3 : ∀ q ∈ lw_privs_3, lw_okq q := List.forall_mem_cons.mpr ⟨lw_p32, List.forall_mem_cons.mpr ⟨lw_p33, List.forall_mem_cons.mpr ⟨lw_p34, List.forall_mem_cons.mpr ⟨lw_p35, List.forall_mem_cons.mpr ⟨lw_p36, List.forall_mem_cons.mpr ⟨lw_p37, List.forall_mem_cons.mpr ⟨lw_p38, List.forall_mem_cons.mpr ⟨lw_p39, List.forall_mem_cons.mpr ⟨lw_p40, List.forall_mem_cons.mpr ⟨lw_p41, List.forall_mem_cons.mpr ⟨lw_p42, List.forall_mem_cons.mpr ⟨lw_p43, fun _ h => absurd h List.not_mem_nil⟩⟩⟩⟩⟩⟩⟩⟩⟩⟩⟩⟩
def lw_privs : List (MethodName × Nat) := lw_privs_1 ++ (lw_privs_2 ++ (lw_privs_3))
def lw_tbl : List Cond := k2_sels lw_privs ++ tables_1
theorem lw_privs_ok : ∀ q ∈ lw_privs, lw_okq q := by
  show ∀ q ∈ lw_privs_1 ++ (lw_privs_2 ++ (lw_privs_3)), lw_okq q
  exact List.forall_mem_append.mpr ⟨lw_r1, List.forall_mem_append.mpr ⟨lw_r2, lw_r3⟩⟩
end
section
def R_Orb : String := "RelayOrbiter"
def T_Orb : u_T := fun k => match k with
  | 0 => ("RelayOrbiter", "landerWindow", "LRelayOrbiter$Window;", true)
  | 1 => ("RelayOrbiter", "earthWindow", "LRelayOrbiter$Window;", true)
  | 2 => ("RelayOrbiter", "memory", "LRelayOrbiter$Store;", true)
  | 3 => ("RelayOrbiter", "session", "LRelayOrbiter$Session;", true)
  | 4 => ("RelayOrbiter", "landerLink", "LRelayOrbiter$LanderLink;", true)
  | 5 => ("RelayOrbiter", "earthLink", "LRelayOrbiter$EarthLink;", true)
  | _ => ("RelayOrbiter", "now", "I", false)
def ty_Orb : Nat → FieldType := fun k => match k with
  | 0 => .object "RelayOrbiter$Window"
  | 1 => .object "RelayOrbiter$Window"
  | 2 => .object "RelayOrbiter$Store"
  | 3 => .object "RelayOrbiter$Session"
  | 4 => .object "RelayOrbiter$LanderLink"
  | 5 => .object "RelayOrbiter$EarthLink"
  | _ => .int
theorem nm_Orb : ∀ a, a < 7 → ∀ b, b < 7 → a ≠ b → (T_Orb a).2.1 ≠ (T_Orb b).2.1 := by decide +kernel
theorem tk_Orb : ∀ k, k < 7 → parseFieldDescriptor (T_Orb k).2.2.1 = some (ty_Orb k) := by decide +kernel
def R_Win : String := "RelayOrbiter$Window"
def T_Win : u_T := fun k => match k with
  | 0 => ("RelayOrbiter$Window", "shift", "I", false)
  | 1 => ("RelayOrbiter$Window", "period", "I", false)
  | _ => ("RelayOrbiter$Window", "length", "I", false)
def ty_Win : Nat → FieldType := fun k => match k with
  | 0 => .int
  | 1 => .int
  | _ => .int
theorem nm_Win : ∀ a, a < 3 → ∀ b, b < 3 → a ≠ b → (T_Win a).2.1 ≠ (T_Win b).2.1 := by decide +kernel
theorem tk_Win : ∀ k, k < 3 → parseFieldDescriptor (T_Win k).2.2.1 = some (ty_Win k) := by decide +kernel
def R_Sto : String := "RelayOrbiter$Store"
def T_Sto : u_T := fun k => match k with
  | 0 => ("RelayOrbiter$Store", "bytes", "[I", true)
  | 1 => ("RelayOrbiter$Store", "used", "[Z", true)
  | 2 => ("RelayOrbiter$Store", "packets", "[LRelayOrbiter$Packet;", true)
  | 3 => ("RelayOrbiter$Store", "count", "I", false)
  | 4 => ("RelayOrbiter$Store", "freeBlocks", "I", false)
  | 5 => ("RelayOrbiter$Store", "nextNumber", "I", false)
  | 6 => ("RelayOrbiter$Store", "entries", "I", false)
  | 7 => ("RelayOrbiter$Store", "writes", "I", false)
  | 8 => ("RelayOrbiter$Store", "writesLeft", "I", false)
  | _ => ("RelayOrbiter$Store", "out", "Z", false)
def ty_Sto : Nat → FieldType := fun k => match k with
  | 0 => .array (.int)
  | 1 => .array (.boolean)
  | 2 => .array (.object "RelayOrbiter$Packet")
  | 3 => .int
  | 4 => .int
  | 5 => .int
  | 6 => .int
  | 7 => .int
  | 8 => .int
  | _ => .boolean
theorem nm_Sto : ∀ a, a < 10 → ∀ b, b < 10 → a ≠ b → (T_Sto a).2.1 ≠ (T_Sto b).2.1 := by decide +kernel
theorem tk_Sto : ∀ k, k < 10 → parseFieldDescriptor (T_Sto k).2.2.1 = some (ty_Sto k) := by decide +kernel
def R_Pkt : String := "RelayOrbiter$Packet"
def T_Pkt : u_T := fun k => match k with
  | 0 => ("RelayOrbiter$Packet", "blocks", "[I", true)
  | 1 => ("RelayOrbiter$Packet", "number", "I", false)
  | 2 => ("RelayOrbiter$Packet", "length", "I", false)
  | 3 => ("RelayOrbiter$Packet", "apid", "I", false)
  | _ => ("RelayOrbiter$Packet", "emitted", "I", false)
def ty_Pkt : Nat → FieldType := fun k => match k with
  | 0 => .array (.int)
  | 1 => .int
  | 2 => .int
  | 3 => .int
  | _ => .int
theorem nm_Pkt : ∀ a, a < 5 → ∀ b, b < 5 → a ≠ b → (T_Pkt a).2.1 ≠ (T_Pkt b).2.1 := by decide +kernel
theorem tk_Pkt : ∀ k, k < 5 → parseFieldDescriptor (T_Pkt k).2.2.1 = some (ty_Pkt k) := by decide +kernel
def R_Ses : String := "RelayOrbiter$Session"
def T_Ses : u_T := fun k => match k with
  | 0 => ("RelayOrbiter$Session", "memory", "LRelayOrbiter$Store;", true)
  | 1 => ("RelayOrbiter$Session", "harvest", "LRelayOrbiter$Harvest;", true)
  | 2 => ("RelayOrbiter$Session", "streams", "[LRelayOrbiter$Stream;", true)
  | 3 => ("RelayOrbiter$Session", "on", "Z", false)
  | 4 => ("RelayOrbiter$Session", "channel", "I", false)
  | 5 => ("RelayOrbiter$Session", "expected", "I", false)
  | 6 => ("RelayOrbiter$Session", "retransmit", "Z", false)
  | 7 => ("RelayOrbiter$Session", "expeditedCount", "I", false)
  | 8 => ("RelayOrbiter$Session", "touched", "LRelayOrbiter$Stream;", false)
  | _ => ("RelayOrbiter$Session", "touchedGoesOn", "Z", false)
def ty_Ses : Nat → FieldType := fun k => match k with
  | 0 => .object "RelayOrbiter$Store"
  | 1 => .object "RelayOrbiter$Harvest"
  | 2 => .array (.object "RelayOrbiter$Stream")
  | 3 => .boolean
  | 4 => .int
  | 5 => .int
  | 6 => .boolean
  | 7 => .int
  | 8 => .object "RelayOrbiter$Stream"
  | _ => .boolean
theorem nm_Ses : ∀ a, a < 10 → ∀ b, b < 10 → a ≠ b → (T_Ses a).2.1 ≠ (T_Ses b).2.1 := by decide +kernel
theorem tk_Ses : ∀ k, k < 10 → parseFieldDescriptor (T_Ses k).2.2.1 = some (ty_Ses k) := by decide +kernel
def R_Har : String := "RelayOrbiter$Harvest"
def T_Har : u_T := fun k => match k with
  | 0 => ("RelayOrbiter$Harvest", "row", "[I", true)
  | 1 => ("RelayOrbiter$Harvest", "starts", "[I", true)
  | 2 => ("RelayOrbiter$Harvest", "lengths", "[I", true)
  | 3 => ("RelayOrbiter$Harvest", "length", "I", false)
  | _ => ("RelayOrbiter$Harvest", "count", "I", false)
def ty_Har : Nat → FieldType := fun k => match k with
  | 0 => .array (.int)
  | 1 => .array (.int)
  | 2 => .array (.int)
  | 3 => .int
  | _ => .int
theorem nm_Har : ∀ a, a < 5 → ∀ b, b < 5 → a ≠ b → (T_Har a).2.1 ≠ (T_Har b).2.1 := by decide +kernel
theorem tk_Har : ∀ k, k < 5 → parseFieldDescriptor (T_Har k).2.2.1 = some (ty_Har k) := by decide +kernel
def R_Str : String := "RelayOrbiter$Stream"
def T_Str : u_T := fun k => match k with
  | 0 => ("RelayOrbiter$Stream", "part", "[I", true)
  | 1 => ("RelayOrbiter$Stream", "length", "I", false)
  | _ => ("RelayOrbiter$Stream", "begun", "Z", false)
def ty_Str : Nat → FieldType := fun k => match k with
  | 0 => .array (.int)
  | 1 => .int
  | _ => .boolean
theorem nm_Str : ∀ a, a < 3 → ∀ b, b < 3 → a ≠ b → (T_Str a).2.1 ≠ (T_Str b).2.1 := by decide +kernel
theorem tk_Str : ∀ k, k < 3 → parseFieldDescriptor (T_Str k).2.2.1 = some (ty_Str k) := by decide +kernel
def R_Lan : String := "RelayOrbiter$LanderLink"
def T_Lan : u_T := fun k => match k with
  | 0 => ("RelayOrbiter$LanderLink", "row", "[I", true)
  | 1 => ("RelayOrbiter$LanderLink", "frame", "LRelayOrbiter$Frame;", true)
  | _ => ("RelayOrbiter$LanderLink", "length", "I", false)
def ty_Lan : Nat → FieldType := fun k => match k with
  | 0 => .array (.int)
  | 1 => .object "RelayOrbiter$Frame"
  | _ => .int
theorem nm_Lan : ∀ a, a < 3 → ∀ b, b < 3 → a ≠ b → (T_Lan a).2.1 ≠ (T_Lan b).2.1 := by decide +kernel
theorem tk_Lan : ∀ k, k < 3 → parseFieldDescriptor (T_Lan k).2.2.1 = some (ty_Lan k) := by decide +kernel
def R_Frm : String := "RelayOrbiter$Frame"
def T_Frm : u_T := fun k => match k with
  | 0 => ("RelayOrbiter$Frame", "bytes", "[I", true)
  | _ => ("RelayOrbiter$Frame", "length", "I", false)
def ty_Frm : Nat → FieldType := fun k => match k with
  | 0 => .array (.int)
  | _ => .int
theorem nm_Frm : ∀ a, a < 2 → ∀ b, b < 2 → a ≠ b → (T_Frm a).2.1 ≠ (T_Frm b).2.1 := by decide +kernel
theorem tk_Frm : ∀ k, k < 2 → parseFieldDescriptor (T_Frm k).2.2.1 = some (ty_Frm k) := by decide +kernel
def R_Ear : String := "RelayOrbiter$EarthLink"
def T_Ear : u_T := fun k => match k with
  | 0 => ("RelayOrbiter$EarthLink", "frame", "[I", true)
  | 1 => ("RelayOrbiter$EarthLink", "counts", "[I", true)
  | _ => ("RelayOrbiter$EarthLink", "any", "Z", false)
def ty_Ear : Nat → FieldType := fun k => match k with
  | 0 => .array (.int)
  | 1 => .array (.int)
  | _ => .boolean
theorem nm_Ear : ∀ a, a < 3 → ∀ b, b < 3 → a ≠ b → (T_Ear a).2.1 ≠ (T_Ear b).2.1 := by decide +kernel
theorem tk_Ear : ∀ k, k < 3 → parseFieldDescriptor (T_Ear k).2.2.1 = some (ty_Ear k) := by decide +kernel
def R_Mod : String := "RelayOrbiterModel"
def T_Mod : u_T := fun k => match k with
  | 0 => ("RelayOrbiterModel", "thrownCode", "I", false)
  | 1 => ("RelayOrbiterModel", "now", "I", false)
  | 2 => ("RelayOrbiterModel", "windows", "[I", true)
  | 3 => ("RelayOrbiterModel", "isOut", "Z", false)
  | 4 => ("RelayOrbiterModel", "failIn", "I", false)
  | 5 => ("RelayOrbiterModel", "wait", "[I", true)
  | 6 => ("RelayOrbiterModel", "waiting", "I", false)
  | 7 => ("RelayOrbiterModel", "on", "Z", false)
  | 8 => ("RelayOrbiterModel", "channel", "I", false)
  | 9 => ("RelayOrbiterModel", "v", "I", false)
  | 10 => ("RelayOrbiterModel", "flag", "I", false)
  | 11 => ("RelayOrbiterModel", "count", "I", false)
  | 12 => ("RelayOrbiterModel", "begun", "[Z", true)
  | 13 => ("RelayOrbiterModel", "parts", "[I", true)
  | 14 => ("RelayOrbiterModel", "part", "[I", true)
  | 15 => ("RelayOrbiterModel", "packets", "I", false)
  | 16 => ("RelayOrbiterModel", "number", "[I", true)
  | 17 => ("RelayOrbiterModel", "length", "[I", true)
  | 18 => ("RelayOrbiterModel", "bytes", "[I", true)
  | 19 => ("RelayOrbiterModel", "blocks", "[I", true)
  | 20 => ("RelayOrbiterModel", "emitted", "[I", true)
  | 21 => ("RelayOrbiterModel", "nextNumber", "I", false)
  | 22 => ("RelayOrbiterModel", "entries", "I", false)
  | 23 => ("RelayOrbiterModel", "writes", "I", false)
  | 24 => ("RelayOrbiterModel", "frame", "[I", true)
  | 25 => ("RelayOrbiterModel", "framed", "Z", false)
  | _ => ("RelayOrbiterModel", "frames", "[I", true)
def ty_Mod : Nat → FieldType := fun k => match k with
  | 0 => .int
  | 1 => .int
  | 2 => .array (.int)
  | 3 => .boolean
  | 4 => .int
  | 5 => .array (.int)
  | 6 => .int
  | 7 => .boolean
  | 8 => .int
  | 9 => .int
  | 10 => .int
  | 11 => .int
  | 12 => .array (.boolean)
  | 13 => .array (.int)
  | 14 => .array (.int)
  | 15 => .int
  | 16 => .array (.int)
  | 17 => .array (.int)
  | 18 => .array (.int)
  | 19 => .array (.int)
  | 20 => .array (.int)
  | 21 => .int
  | 22 => .int
  | 23 => .int
  | 24 => .array (.int)
  | 25 => .boolean
  | _ => .array (.int)
theorem nm_Mod : ∀ a, a < 27 → ∀ b, b < 27 → a ≠ b → (T_Mod a).2.1 ≠ (T_Mod b).2.1 := by decide +kernel
theorem tk_Mod : ∀ k, k < 27 → parseFieldDescriptor (T_Mod k).2.2.1 = some (ty_Mod k) := by decide +kernel
def R_Law : String := "RelayOrbiterLaw"
def cls : List vw_C := [(R_Orb, T_Orb, 7), (R_Win, T_Win, 3), (R_Sto, T_Sto, 10), (R_Pkt, T_Pkt, 5), (R_Ses, T_Ses, 10), (R_Har, T_Har, 5), (R_Str, T_Str, 3), (R_Lan, T_Lan, 3), (R_Frm, T_Frm, 2), (R_Ear, T_Ear, 3), (R_Mod, T_Mod, 27)]
def zNest : Cond → Bool
  | .fieldLinkNest .. => true
  | .methodLinkNest .. => true
  | _ => false
def zCast : Cond → Bool
  | .castable .. => true
  | .arrayOver (.object _) => true
  | _ => false
def zOk (w : Cond) : Bool := goodWord w || zNest w || zCast w
def tb : List Cond := lw_tbl.filter zOk
theorem tb_ok {w : Cond} (h : w ∈ tb) : zOk w = true := (List.mem_filter.mp h).2
theorem tb_in {w : Cond} (i : Nat) (h : lw_tbl[i]? = some w) (hk : zOk w = true) : w ∈ tb := List.mem_filter.mpr ⟨List.mem_of_getElem? h, hk⟩
end
section

theorem zw_move {w : Cond} (hw : zOk w = true) {s U : State} (hW : s.WarmedH U.vm) {a a' : Array Value} (h : w.before a s = true) : w.before a' U = true := by
  unfold zOk at hw
  rcases Bool.or_eq_true _ _ ▸ hw with hw | hw
  · rcases Bool.or_eq_true _ _ ▸ hw with hg | hn
    · exact word_at hW (good_of_word hg) h
    · cases w <;> simp only [zNest] at hn <;> first | exact va_Nw.use rfl (va_Nw.warmF hW (va_Nw.of rfl h)) | exact va_Nw.use rfl (va_Nw.warmM hW (va_Nw.of rfl h)) | cases hn
  · match w, hw, h with
    | .castable x y, _, h =>
      have h1 : (Cond.castable x y).before a (s.setVm U.vm) = true := Cond.before_shiftedFace (State.Shifted.of_warmed hW) _ rfl h
      exact va_tabs rfl (rfl : (s.setVm U.vm).vm = U.vm) h1
    | .arrayOver (.object C), _, h => exact va_AO.use (va_AO.moved hW.alike (va_AO.of h))
def TB (U : State) : Prop := ∀ w ∈ tb, w.before #[] U = true
theorem TB.move {s U : State} (h : TB s) (hW : s.WarmedH U.vm) : TB U := fun w hw => zw_move (tb_ok hw) hW (h w hw)
theorem TB.use {s : State} (h : TB s) (a : Array Value) : ∀ w ∈ tb, w.before a s = true := fun w hw => zw_move (tb_ok hw) (State.WarmedH.refl s) (h w hw)
/-- a value by its position -/
def zV (ad : Nat → Nat) : Value → Value
  | .ref k => .ref (ad k)
  | v => v
def zO (ad : Nat → Nat) (f : Nat → Option Nat) : Nat → Option Nat := fun j => (f j).map ad
def zE (dA : Nat → ClassId) (ad : Nat → Nat) : va_E → va_E
  | .inl (t, n, .inl f) => .inl (dA t, n, .inl f)
  | .inl (t, n, .inr (.inl f)) => .inl (dA t, n, .inr (.inl f))
  | .inl (t, n, .inr (.inr (.inl f))) => .inl (dA t, n, .inr (.inr (.inl f)))
  | .inl (t, n, .inr (.inr (.inr (.inl f)))) => .inl (dA t, n, .inr (.inr (.inr (.inl f))))
  | .inl (t, n, .inr (.inr (.inr (.inr f)))) => .inl (dA t, n, .inr (.inr (.inr (.inr (zO ad f)))))
  | .inr (ci, fs) => .inr (ci, fs.map (zV ad))
def wl (dA : Nat → ClassId) (ad : Nat → Nat) (h : Nat → va_E) (n : Nat) : va_W := (List.range n).map fun k => (ad k, zE dA ad (h k))
theorem wl_get {dA : Nat → ClassId} {ad : Nat → Nat} {h : Nat → va_E} {n k : Nat} (hk : k < n) : (wl dA ad h n)[k]? = some (ad k, zE dA ad (h k)) := by
  simp [wl, hk]
theorem wl_lt {dA : Nat → ClassId} {ad : Nat → Nat} {h : Nat → va_E} {n k : Nat} {q : Nat × va_E} (hq : (wl dA ad h n)[k]? = some q) : k < n ∧ q = (ad k, zE dA ad (h k)) := by
  have hk : k < n := by
    have := (List.getElem?_eq_some_iff.mp hq).1
    simpa [wl] using this
  rw [wl_get hk] at hq
  exact ⟨hk, (Option.some.inj hq).symm⟩
theorem wl_set {dA : Nat → ClassId} {ad : Nat → Nat} {h : Nat → va_E} {n k : Nat} (e : va_E) (hk : k < n) : (wl dA ad h n).set k (ad k, zE dA ad e) = wl dA ad (va_up h k e) n := by
  apply List.ext_getElem?
  intro i
  by_cases hi : i = k
  · subst hi
    rw [List.getElem?_set_self (by simpa [wl] using hk), wl_get hk, va_up_self]
  · rw [List.getElem?_set_ne (Ne.symm hi)]
    by_cases hin : i < n
    · rw [wl_get hin, wl_get hin, va_up_ne h e hi]
    · have h1 : (wl dA ad h n)[i]? = none := by simp [wl, hin]
      have h2 : (wl dA ad (va_up h k e) n)[i]? = none := by simp [wl, hin]
      rw [h1, h2]
/-- which cells a method may change -/
def zA (ad : Nat → Nat) (n sz : Nat) : Nat → Prop := fun q => (∃ k, k < n ∧ q = ad k) ∨ sz ≤ q
def tyL (dA : Nat → ClassId) : List (ClassId × FieldType) := [(dA 0, .int), (dA 1, .boolean), (dA 2, .long), (dA 3, .object "RelayOrbiter$Packet"), (dA 4, .object "RelayOrbiter$Stream")]
def zMark : Nat → Value := fun j => match j with
  | 0 => .int 250
  | 1 => .int 243
  | _ => .int 32
def zRf (v : Value) : Prop := v = .null ∨ ∃ a, v = .ref a
/-- what nobody writes: the array MARK, and what Throwable's constructor reads -/
def zRO (A : Nat → Prop) (aM : Nat) (U : State) (H : Heap) : Prop :=
  va_Z "RelayOrbiter$LanderLink" "MARK" "[I" (.ref aM) A U H ∧ va_T .int aM 3 zMark A U H ∧
  (∃ v, zRf v ∧ va_Z "java/lang/Throwable" "UNASSIGNED_STACK" "[Ljava/lang/StackTraceElement;" v A U H) ∧ (∃ v, zRf v ∧ va_Z "java/lang/Throwable" "SUPPRESSED_SENTINEL" "Ljava/util/List;" v A U H)
theorem zRO.moved {A : Nat → Prop} {aM : Nat} {u U : State} {H : Heap} (hvm : u.vm.Alike U.vm) (h : zRO A aM u H) : zRO A aM U H := by
  obtain ⟨h1, h2, ⟨v3, g3, h3⟩, v4, g4, h4⟩ := h
  exact ⟨h1.moved hvm, h2.moved hvm, ⟨v3, g3, h3.moved hvm⟩, v4, g4, h4.moved hvm⟩
theorem zRO.kept {A : Nat → Prop} {aM : Nat} {U : State} {H H1 : Heap} (h : zRO A aM U H) (hq : ∀ a : Nat, a < H.size → ¬ A a → H1[a]? = H[a]?) : zRO A aM U H1 := by
  obtain ⟨h1, h2, ⟨v3, g3, h3⟩, v4, g4, h4⟩ := h
  exact ⟨h1.kept hq, h2.kept hq, ⟨v3, g3, h3.kept hq⟩, v4, g4, h4.kept hq⟩
theorem zRO.narrow {A B : Nat → Prop} {aM : Nat} {U : State} {H : Heap} (h : zRO A aM U H) (hAB : ∀ q, B q → A q) : zRO B aM U H := by
  obtain ⟨h1, h2, ⟨v3, g3, h3⟩, v4, g4, h4⟩ := h
  exact ⟨h1.narrow hAB, h2.narrow hAB, ⟨v3, g3, h3.narrow hAB⟩, v4, g4, h4.narrow hAB⟩
def LV (nL : Nat) (ad : Nat → Nat) (lv : List (Option Value)) (ls : Array Slot) : Prop := ls.size = nL ∧ lv_wf ls ∧ ∀ (i : Nat) (v : Value), lv[i]? = some (some v) → ls[i]? = some (.val (zV ad v))
/-- what is known in an invocation -/
def Cx (D : va_G) (dA : Nat → ClassId) (A : Nat → Prop) (ad0 : Nat → Nat) (own : String) (cc : ByteArray) (nL : Nat) (p : Program) (R : Room) (s : State) (m : MethodId) (args : Array Value) (meth : Method) (c : Code) : Prop :=
  p.tables.exec = Jvm.exec ∧ c.code = cc ∧ c.maxLocals = nL ∧ s.vm.findClass own = some m.cls ∧ (∀ w ∈ tb, w.before args s = true) ∧ va_K D cls (tyL dA) s ∧ (∀ q, s.heap.size ≤ q → A q) ∧ meth.locks = false ∧ zRO A (ad0 1000) s s.heap ∧ TB s ∧ 8 ≤ R.frames ∧ 200 ≤ R.locals
def J (D : va_G) (dA : Nat → ClassId) (A : Nat → Prop) (ad0 : Nat → Nat) (n0 : Nat) (nL : Nat) (p : Program) (l : Launch) (e : Env) (R : Room) (s : State) (m : MethodId) (args : Array Value) (below : List Frame) (meth : Method) (c : Code) (Q : State → Prop) (pc : Nat) (lv : List (Option Value)) (st : List Value) (h : Nat → va_E) (n kc ks : Nat) : Prop :=
  ∀ (ad : Nat → Nat) (H : Heap) (locs : List Loc) (ls : Array Slot), (∀ k, k < n0 ∨ n ≤ k → ad k = ad0 k) → va_P D cls (wl dA ad h n) H → va_D A (wl dA ad h n) → va_S A s.heap H locs → LV nL ad lv ls →
    W p l e R s m args below meth c H locs kc ks Q (F0 m pc ls (st.map (zV ad)))
theorem LV.get {nL : Nat} {ad : Nat → Nat} {lv : List (Option Value)} {ls : Array Slot} (h : LV nL ad lv ls) {i : Nat} {v : Value} (hi : lv[i]? = some (some v)) : ls[i]? = some (.val (zV ad v)) := h.2.2 i v hi
/-- the locals as the kit lists them -/
def zAl (ad : Nat → Nat) (lv : List (Option Value)) : List (Nat × Value) := (List.range lv.length).filterMap fun i => (lv[i]?.bind id).map fun v => (i, zV ad v)
theorem zAl_mem {ad : Nat → Nat} {lv : List (Option Value)} {q : Nat × Value} : q ∈ zAl ad lv ↔ ∃ v, lv[q.1]? = some (some v) ∧ q.2 = zV ad v := by
  constructor
  · intro h
    obtain ⟨i, -, hi⟩ := List.mem_filterMap.mp h
    cases hv : lv[i]? with
    | none => simp [hv] at hi
    | some o =>
      cases o with
      | none => simp [hv] at hi
      | some v =>
        simp [hv] at hi
        subst hi
        exact ⟨v, hv, rfl⟩
  · rintro ⟨v, h1, h2⟩
    refine List.mem_filterMap.mpr ⟨q.1, List.mem_range.mpr ?_, ?_⟩
    · exact (List.getElem?_eq_some_iff.mp h1).1
    · simp [h1, ← h2]
theorem LV.has {nL : Nat} {ad : Nat → Nat} {lv : List (Option Value)} {ls : Array Slot} (h : LV nL ad lv ls) : lv_has ls nL (zAl ad lv) := ⟨h.1, h.2.1, fun q hq => by
  obtain ⟨v, h1, h2⟩ := zAl_mem.mp hq
  rw [h2]; exact h.2.2 q.1 v h1⟩
def zNL (lv : List (Option Value)) (i : Nat) : Bool := match i with
  | 0 => true
  | j + 1 => match lv[j]? with
    | some (some (.long _)) => false
    | some (some (.double _)) => false
    | _ => true
theorem zV_cat (ad : Nat → Nat) (v : Value) : (zV ad v).category = v.category := by cases v <;> rfl
theorem LV.set {nL : Nat} {ad : Nat → Nat} {lv : List (Option Value)} {ls : Array Slot} {i : Nat} {x : Value} (hn : zNL lv i = true) (h : lv_has ls nL ((i, zV ad x) :: (zAl ad lv).filter (fun q => !(q.1 == i) && !(q.1 + 1 == i && q.2.category == 2)))) : LV nL ad (lv.set i (some x)) ls := by
  refine ⟨h.1, h.2.1, fun j v hj => ?_⟩
  by_cases hji : j = i
  · subst hji
    have hl : j < lv.length := by
      have := (List.getElem?_eq_some_iff.mp hj).1
      simpa using this
    rw [List.getElem?_set_self hl] at hj
    cases hj
    exact h.2.2 (j, zV ad x) List.mem_cons_self
  · rw [List.getElem?_set_ne (Ne.symm hji)] at hj
    refine h.2.2 (j, zV ad v) (List.mem_cons_of_mem _ (List.mem_filter.mpr ⟨zAl_mem.mpr ⟨v, hj, rfl⟩, ?_⟩))
    have h1 : (j == i) = false := by simpa using hji
    simp only [h1, Bool.not_false, Bool.true_and, Bool.not_eq_true', Bool.and_eq_false_iff]
    by_cases h2 : j + 1 = i
    · right
      subst h2
      simp only [zNL, hj] at hn
      rw [zV_cat]
      cases v <;> simp_all [Value.category]
    · left; simpa using h2
theorem LV.weak {nL : Nat} {ad : Nat → Nat} {lv lv' : List (Option Value)} {ls : Array Slot} (h : LV nL ad lv ls) (hw : ∀ (i : Nat) (v : Value), lv'[i]? = some (some v) → lv[i]? = some (some v)) : LV nL ad lv' ls := ⟨h.1, h.2.1, fun i v hv => h.2.2 i v (hw i v hv)⟩
end
section
section ZR
variable {D : va_G} {dA : Nat → ClassId} {A : Nat → Prop} {ad0 : Nat → Nat} {n0 nL : Nat} {p : Program} {l : Launch} {e : Env} {R : Room} {s : State} {m : MethodId} {args : Array Value} {below : List Frame} {meth : Method} {c : Code} {Q : State → Prop} {pc : Nat} {lv : List (Option Value)} {st : List Value} {h : Nat → va_E} {n kc ks : Nat} {own : String} {cc : ByteArray}
theorem J_iconst (C : Cx D dA A ad0 own cc nL p R s m args meth c) {i : Int} {v : Int32} (hd : decode cc pc = .ok (.iconst i, 1)) (hv : Int32.ofInt i = v) (k : J D dA A ad0 n0 nL p l e R s m args below meth c Q (pc + 1) (lv) (.int v :: st) (h) n kc ks) : J D dA A ad0 n0 nL p l e R s m args below meth c Q (pc) (lv) (st) (h) n kc ks := fun ad H locs ls h0 hP hD hS hL => lv_iconst C.1 C.2.1 hd hv (k ad H locs ls h0 hP hD hS hL)
theorem J_bipush (C : Cx D dA A ad0 own cc nL p R s m args meth c) {i : Int} {v : Int32} (hd : decode cc pc = .ok (.bipush i, 2)) (hv : (Int8.ofInt i).toInt32 = v) (k : J D dA A ad0 n0 nL p l e R s m args below meth c Q (pc + 2) (lv) (.int v :: st) (h) n kc ks) : J D dA A ad0 n0 nL p l e R s m args below meth c Q (pc) (lv) (st) (h) n kc ks := fun ad H locs ls h0 hP hD hS hL => lv_bipush C.1 C.2.1 hd hv (k ad H locs ls h0 hP hD hS hL)
theorem J_sipush (C : Cx D dA A ad0 own cc nL p R s m args meth c) {i : Int} {v : Int32} (hd : decode cc pc = .ok (.sipush i, 3)) (hv : (Int16.ofInt i).toInt32 = v) (k : J D dA A ad0 n0 nL p l e R s m args below meth c Q (pc + 3) (lv) (.int v :: st) (h) n kc ks) : J D dA A ad0 n0 nL p l e R s m args below meth c Q (pc) (lv) (st) (h) n kc ks := fun ad H locs ls h0 hP hD hS hL => lv_sipush C.1 C.2.1 hd hv (k ad H locs ls h0 hP hD hS hL)
theorem J_lconst (C : Cx D dA A ad0 own cc nL p R s m args meth c) {i : Fin 2} {v : Int64} (hd : decode cc pc = .ok (.lconst i, 1)) (hv : Int64.ofNat (i : Nat) = v) (k : J D dA A ad0 n0 nL p l e R s m args below meth c Q (pc + 1) (lv) (.long v :: st) (h) n kc ks) : J D dA A ad0 n0 nL p l e R s m args below meth c Q (pc) (lv) (st) (h) n kc ks := fun ad H locs ls h0 hP hD hS hL => lv_lconst C.1 C.2.1 hd hv (k ad H locs ls h0 hP hD hS hL)
theorem J_ldc (C : Cx D dA A ad0 own cc nL p R s m args meth c) {i : Nat} {v : Int32} (hd : decode cc pc = .ok (.ldc i, 2)) (hc : Cond.constant own i v ∈ tb) (k : J D dA A ad0 n0 nL p l e R s m args below meth c Q (pc + 2) (lv) (.int v :: st) (h) n kc ks) : J D dA A ad0 n0 nL p l e R s m args below meth c Q (pc) (lv) (st) (h) n kc ks := fun ad H locs ls h0 hP hD hS hL => lv_ldc C.1 C.2.1 C.2.2.2.1 (C.2.2.2.2.1 _ hc) hd (k ad H locs ls h0 hP hD hS hL)
theorem J_null (C : Cx D dA A ad0 own cc nL p R s m args meth c) (hd : decode cc pc = .ok (.aconst_null, 1)) (k : J D dA A ad0 n0 nL p l e R s m args below meth c Q (pc + 1) (lv) (.null :: st) (h) n kc ks) : J D dA A ad0 n0 nL p l e R s m args below meth c Q (pc) (lv) (st) (h) n kc ks := fun ad H locs ls h0 hP hD hS hL => lv_null C.1 C.2.1 hd (k ad H locs ls h0 hP hD hS hL)
theorem J_iload_n (C : Cx D dA A ad0 own cc nL p R s m args meth c) {k : Fin 4} (i : Nat) {x : Int32} (hd : decode cc pc = .ok (.iload_n k, 1)) (hi : (k : Nat) = i) (hl : lv[i]? = some (some (.int x))) (kk : J D dA A ad0 n0 nL p l e R s m args below meth c Q (pc + 1) (lv) (.int x :: st) (h) n kc ks) : J D dA A ad0 n0 nL p l e R s m args below meth c Q (pc) (lv) (st) (h) n kc ks := fun ad H locs ls h0 hP hD hS hL => lv_iload_n C.1 C.2.1 hd hi (hL.get hl) (kk ad H locs ls h0 hP hD hS hL)
theorem J_iload (C : Cx D dA A ad0 own cc nL p R s m args meth c) {i : Nat} {x : Int32} (hd : decode cc pc = .ok (.iload i, 2)) (hl : lv[i]? = some (some (.int x))) (kk : J D dA A ad0 n0 nL p l e R s m args below meth c Q (pc + 2) (lv) (.int x :: st) (h) n kc ks) : J D dA A ad0 n0 nL p l e R s m args below meth c Q (pc) (lv) (st) (h) n kc ks := fun ad H locs ls h0 hP hD hS hL => lv_iload C.1 C.2.1 hd (hL.get hl) (kk ad H locs ls h0 hP hD hS hL)
theorem J_aload_n (C : Cx D dA A ad0 own cc nL p R s m args meth c) {k : Fin 4} (i : Nat) {x : Nat} (hd : decode cc pc = .ok (.aload_n k, 1)) (hi : (k : Nat) = i) (hl : lv[i]? = some (some (.ref x))) (kk : J D dA A ad0 n0 nL p l e R s m args below meth c Q (pc + 1) (lv) (.ref x :: st) (h) n kc ks) : J D dA A ad0 n0 nL p l e R s m args below meth c Q (pc) (lv) (st) (h) n kc ks := fun ad H locs ls h0 hP hD hS hL => lv_aload_n C.1 C.2.1 hd hi (hL.get hl) (kk ad H locs ls h0 hP hD hS hL)
theorem J_aload (C : Cx D dA A ad0 own cc nL p R s m args meth c) {i : Nat} {x : Nat} (hd : decode cc pc = .ok (.aload i, 2)) (hl : lv[i]? = some (some (.ref x))) (kk : J D dA A ad0 n0 nL p l e R s m args below meth c Q (pc + 2) (lv) (.ref x :: st) (h) n kc ks) : J D dA A ad0 n0 nL p l e R s m args below meth c Q (pc) (lv) (st) (h) n kc ks := fun ad H locs ls h0 hP hD hS hL => lv_aload C.1 C.2.1 hd (hL.get hl) (kk ad H locs ls h0 hP hD hS hL)
theorem J_lload_n (C : Cx D dA A ad0 own cc nL p R s m args meth c) {k : Fin 4} (i : Nat) {x : Int64} (hd : decode cc pc = .ok (.lload_n k, 1)) (hi : (k : Nat) = i) (hl : lv[i]? = some (some (.long x))) (kk : J D dA A ad0 n0 nL p l e R s m args below meth c Q (pc + 1) (lv) (.long x :: st) (h) n kc ks) : J D dA A ad0 n0 nL p l e R s m args below meth c Q (pc) (lv) (st) (h) n kc ks := fun ad H locs ls h0 hP hD hS hL => lv_lload_n C.1 C.2.1 hd hi (hL.get hl) (kk ad H locs ls h0 hP hD hS hL)
theorem J_lload (C : Cx D dA A ad0 own cc nL p R s m args meth c) {i : Nat} {x : Int64} (hd : decode cc pc = .ok (.lload i, 2)) (hl : lv[i]? = some (some (.long x))) (kk : J D dA A ad0 n0 nL p l e R s m args below meth c Q (pc + 2) (lv) (.long x :: st) (h) n kc ks) : J D dA A ad0 n0 nL p l e R s m args below meth c Q (pc) (lv) (st) (h) n kc ks := fun ad H locs ls h0 hP hD hS hL => lv_lload C.1 C.2.1 hd (hL.get hl) (kk ad H locs ls h0 hP hD hS hL)
theorem J_aload_nN (C : Cx D dA A ad0 own cc nL p R s m args meth c) {k : Fin 4} (i : Nat) (hd : decode cc pc = .ok (.aload_n k, 1)) (hi : (k : Nat) = i) (hl : lv[i]? = some (some .null)) (kk : J D dA A ad0 n0 nL p l e R s m args below meth c Q (pc + 1) (lv) (.null :: st) (h) n kc ks) : J D dA A ad0 n0 nL p l e R s m args below meth c Q (pc) (lv) (st) (h) n kc ks := fun ad H locs ls h0 hP hD hS hL => lv_aload_nN C.1 C.2.1 hd hi (hL.get hl) (kk ad H locs ls h0 hP hD hS hL)
theorem J_istore_n (C : Cx D dA A ad0 own cc nL p R s m args meth c) {k : Fin 4} (i : Nat) {x : Int32} (hd : decode cc pc = .ok (.istore_n k, 1)) (hi : (k : Nat) = i) (hn : i < nL) (hz : zNL lv i = true) (kk : J D dA A ad0 n0 nL p l e R s m args below meth c Q (pc + 1) (lv.set i (some (.int x))) (st) (h) n kc ks) : J D dA A ad0 n0 nL p l e R s m args below meth c Q (pc) (lv) (.int x :: st) (h) n kc ks := fun ad H locs ls h0 hP hD hS hL => lv_istore_n C.1 C.2.1 hd hi hL.has hn rfl (fun ls' h' => kk ad H locs ls' h0 hP hD hS (LV.set hz h'))
theorem J_istore (C : Cx D dA A ad0 own cc nL p R s m args meth c) {i : Nat} {x : Int32} (hd : decode cc pc = .ok (.istore i, 2)) (hn : i < nL) (hz : zNL lv i = true) (kk : J D dA A ad0 n0 nL p l e R s m args below meth c Q (pc + 2) (lv.set i (some (.int x))) (st) (h) n kc ks) : J D dA A ad0 n0 nL p l e R s m args below meth c Q (pc) (lv) (.int x :: st) (h) n kc ks := fun ad H locs ls h0 hP hD hS hL => lv_istore C.1 C.2.1 hd hL.has hn rfl (fun ls' h' => kk ad H locs ls' h0 hP hD hS (LV.set hz h'))
theorem J_astore_n (C : Cx D dA A ad0 own cc nL p R s m args meth c) {k : Fin 4} (i : Nat) {x : Nat} (hd : decode cc pc = .ok (.astore_n k, 1)) (hi : (k : Nat) = i) (hn : i < nL) (hz : zNL lv i = true) (kk : J D dA A ad0 n0 nL p l e R s m args below meth c Q (pc + 1) (lv.set i (some (.ref x))) (st) (h) n kc ks) : J D dA A ad0 n0 nL p l e R s m args below meth c Q (pc) (lv) (.ref x :: st) (h) n kc ks := fun ad H locs ls h0 hP hD hS hL => lv_astore_n C.1 C.2.1 hd hi hL.has hn rfl (fun ls' h' => kk ad H locs ls' h0 hP hD hS (LV.set hz h'))
theorem J_astore (C : Cx D dA A ad0 own cc nL p R s m args meth c) {i : Nat} {x : Nat} (hd : decode cc pc = .ok (.astore i, 2)) (hn : i < nL) (hz : zNL lv i = true) (kk : J D dA A ad0 n0 nL p l e R s m args below meth c Q (pc + 2) (lv.set i (some (.ref x))) (st) (h) n kc ks) : J D dA A ad0 n0 nL p l e R s m args below meth c Q (pc) (lv) (.ref x :: st) (h) n kc ks := fun ad H locs ls h0 hP hD hS hL => lv_astore C.1 C.2.1 hd hL.has hn rfl (fun ls' h' => kk ad H locs ls' h0 hP hD hS (LV.set hz h'))
theorem LV.set2 {ad : Nat → Nat} {ls : Array Slot} {i : Nat} {x : Int64} (hn : zNL lv i = true) (h : lv_has ls nL ((i, Value.long x) :: (zAl ad lv).filter (fun q => !(q.1 == i) && (!(q.1 == i + 1) && !(q.1 + 1 == i && q.2.category == 2))))) : LV nL ad ((lv.set i (some (.long x))).set (i + 1) none) ls := by
  refine ⟨h.1, h.2.1, fun j v hj => ?_⟩
  by_cases h3 : j = i + 1
  · subst h3
    rw [List.getElem?_set, if_pos rfl] at hj
    split at hj <;> simp at hj
  rw [List.getElem?_set_ne (Ne.symm h3)] at hj
  by_cases hji : j = i
  · subst hji
    have hl : j < lv.length := by
      have := (List.getElem?_eq_some_iff.mp hj).1
      simpa using this
    rw [List.getElem?_set_self hl] at hj
    cases hj
    exact h.2.2 (j, .long x) List.mem_cons_self
  · rw [List.getElem?_set_ne (Ne.symm hji)] at hj
    refine h.2.2 (j, zV ad v) (List.mem_cons_of_mem _ (List.mem_filter.mpr ⟨zAl_mem.mpr ⟨v, hj, rfl⟩, ?_⟩))
    have h1 : (j == i) = false := by simpa using hji
    have h4 : (j == i + 1) = false := by simpa using h3
    simp only [h1, h4, Bool.not_false, Bool.true_and, Bool.not_eq_true', Bool.and_eq_false_iff]
    by_cases h2 : j + 1 = i
    · right
      subst h2
      simp only [zNL, hj] at hn
      rw [zV_cat]
      cases v <;> simp_all [Value.category]
    · left; simpa using h2
theorem J_lstore_n (C : Cx D dA A ad0 own cc nL p R s m args meth c) {k : Fin 4} (i : Nat) {x : Int64} (hd : decode cc pc = .ok (.lstore_n k, 1)) (hi : (k : Nat) = i) (hn : i + 1 < nL) (hz : zNL lv i = true) (kk : J D dA A ad0 n0 nL p l e R s m args below meth c Q (pc + 1) ((lv.set i (some (.long x))).set (i + 1) none) (st) (h) n kc ks) : J D dA A ad0 n0 nL p l e R s m args below meth c Q (pc) (lv) (.long x :: st) (h) n kc ks := fun ad H locs ls h0 hP hD hS hL => lv_lstore_n C.1 C.2.1 hd hi hL.has hn rfl (fun ls' h' => kk ad H locs ls' h0 hP hD hS (LV.set2 hz h'))
theorem J_iinc (C : Cx D dA A ad0 own cc nL p R s m args meth c) {i : Nat} {d : Int} {x v : Int32} (hd : decode cc pc = .ok (.iinc i d, 3)) (hl : lv[i]? = some (some (.int x))) (hv : x + Int32.ofInt d = v) (hn : i < nL) (hz : zNL lv i = true) (kk : J D dA A ad0 n0 nL p l e R s m args below meth c Q (pc + 3) (lv.set i (some (.int v))) (st) (h) n kc ks) : J D dA A ad0 n0 nL p l e R s m args below meth c Q (pc) (lv) (st) (h) n kc ks := by
  intro ad H locs ls h0 hP hD hS hL
  obtain ⟨k, hk⟩ := List.getElem?_of_mem (zAl_mem (ad := ad) (q := (i, Value.int x)).mpr ⟨_, hl, rfl⟩)
  exact lv_iinc C.1 C.2.1 hd hL.has hk hv hn rfl (fun ls' h' => kk ad H locs ls' h0 hP hD hS (LV.set hz h'))
theorem J_iadd (C : Cx D dA A ad0 own cc nL p R s m args meth c) {x y : Int32} (hd : decode cc pc = .ok (.iadd, 1)) (k : J D dA A ad0 n0 nL p l e R s m args below meth c Q (pc + 1) (lv) (.int (x + y) :: st) (h) n kc ks) : J D dA A ad0 n0 nL p l e R s m args below meth c Q (pc) (lv) (.int y :: .int x :: st) (h) n kc ks := fun ad H locs ls h0 hP hD hS hL => lv_iadd C.1 C.2.1 hd (k ad H locs ls h0 hP hD hS hL)
theorem J_isub (C : Cx D dA A ad0 own cc nL p R s m args meth c) {x y : Int32} (hd : decode cc pc = .ok (.isub, 1)) (k : J D dA A ad0 n0 nL p l e R s m args below meth c Q (pc + 1) (lv) (.int (x - y) :: st) (h) n kc ks) : J D dA A ad0 n0 nL p l e R s m args below meth c Q (pc) (lv) (.int y :: .int x :: st) (h) n kc ks := fun ad H locs ls h0 hP hD hS hL => lv_isub C.1 C.2.1 hd (k ad H locs ls h0 hP hD hS hL)
theorem J_imul (C : Cx D dA A ad0 own cc nL p R s m args meth c) {x y : Int32} (hd : decode cc pc = .ok (.imul, 1)) (k : J D dA A ad0 n0 nL p l e R s m args below meth c Q (pc + 1) (lv) (.int (x * y) :: st) (h) n kc ks) : J D dA A ad0 n0 nL p l e R s m args below meth c Q (pc) (lv) (.int y :: .int x :: st) (h) n kc ks := fun ad H locs ls h0 hP hD hS hL => lv_imul C.1 C.2.1 hd (k ad H locs ls h0 hP hD hS hL)
theorem J_iand (C : Cx D dA A ad0 own cc nL p R s m args meth c) {x y : Int32} (hd : decode cc pc = .ok (.iand, 1)) (k : J D dA A ad0 n0 nL p l e R s m args below meth c Q (pc + 1) (lv) (.int (x &&& y) :: st) (h) n kc ks) : J D dA A ad0 n0 nL p l e R s m args below meth c Q (pc) (lv) (.int y :: .int x :: st) (h) n kc ks := fun ad H locs ls h0 hP hD hS hL => lv_iand C.1 C.2.1 hd (k ad H locs ls h0 hP hD hS hL)
theorem J_ior (C : Cx D dA A ad0 own cc nL p R s m args meth c) {x y : Int32} (hd : decode cc pc = .ok (.ior, 1)) (k : J D dA A ad0 n0 nL p l e R s m args below meth c Q (pc + 1) (lv) (.int (x ||| y) :: st) (h) n kc ks) : J D dA A ad0 n0 nL p l e R s m args below meth c Q (pc) (lv) (.int y :: .int x :: st) (h) n kc ks := fun ad H locs ls h0 hP hD hS hL => lv_ior C.1 C.2.1 hd (k ad H locs ls h0 hP hD hS hL)
theorem J_ixor (C : Cx D dA A ad0 own cc nL p R s m args meth c) {x y : Int32} (hd : decode cc pc = .ok (.ixor, 1)) (k : J D dA A ad0 n0 nL p l e R s m args below meth c Q (pc + 1) (lv) (.int (x ^^^ y) :: st) (h) n kc ks) : J D dA A ad0 n0 nL p l e R s m args below meth c Q (pc) (lv) (.int y :: .int x :: st) (h) n kc ks := fun ad H locs ls h0 hP hD hS hL => lv_ixor C.1 C.2.1 hd (k ad H locs ls h0 hP hD hS hL)
theorem J_ishl (C : Cx D dA A ad0 own cc nL p R s m args meth c) {x y : Int32} (hd : decode cc pc = .ok (.ishl, 1)) (k : J D dA A ad0 n0 nL p l e R s m args below meth c Q (pc + 1) (lv) (.int (x <<< (y &&& 31)) :: st) (h) n kc ks) : J D dA A ad0 n0 nL p l e R s m args below meth c Q (pc) (lv) (.int y :: .int x :: st) (h) n kc ks := fun ad H locs ls h0 hP hD hS hL => lv_ishl C.1 C.2.1 hd (k ad H locs ls h0 hP hD hS hL)
theorem J_ishr (C : Cx D dA A ad0 own cc nL p R s m args meth c) {x y : Int32} (hd : decode cc pc = .ok (.ishr, 1)) (k : J D dA A ad0 n0 nL p l e R s m args below meth c Q (pc + 1) (lv) (.int (x >>> (y &&& 31)) :: st) (h) n kc ks) : J D dA A ad0 n0 nL p l e R s m args below meth c Q (pc) (lv) (.int y :: .int x :: st) (h) n kc ks := fun ad H locs ls h0 hP hD hS hL => lv_ishr C.1 C.2.1 hd (k ad H locs ls h0 hP hD hS hL)
theorem J_idiv (C : Cx D dA A ad0 own cc nL p R s m args meth c) {x y : Int32} (hd : decode cc pc = .ok (.idiv, 1)) (hne : ¬ y = 0) (k : J D dA A ad0 n0 nL p l e R s m args below meth c Q (pc + 1) (lv) (.int (x / y) :: st) (h) n kc ks) : J D dA A ad0 n0 nL p l e R s m args below meth c Q (pc) (lv) (.int y :: .int x :: st) (h) n kc ks := fun ad H locs ls h0 hP hD hS hL => lv_idiv C.1 C.2.1 hd hne (k ad H locs ls h0 hP hD hS hL)
theorem J_irem (C : Cx D dA A ad0 own cc nL p R s m args meth c) {x y : Int32} (hd : decode cc pc = .ok (.irem, 1)) (hne : ¬ y = 0) (k : J D dA A ad0 n0 nL p l e R s m args below meth c Q (pc + 1) (lv) (.int (x - x / y * y) :: st) (h) n kc ks) : J D dA A ad0 n0 nL p l e R s m args below meth c Q (pc) (lv) (.int y :: .int x :: st) (h) n kc ks := fun ad H locs ls h0 hP hD hS hL => lv_irem C.1 C.2.1 hd hne (k ad H locs ls h0 hP hD hS hL)
theorem J_iushr (C : Cx D dA A ad0 own cc nL p R s m args meth c) {x y v : Int32} (hd : decode cc pc = .ok (.iushr, 1)) (hv : (x.toUInt32 >>> (y.toUInt32 &&& Int32.toUInt32 31)).toInt32 = v) (k : J D dA A ad0 n0 nL p l e R s m args below meth c Q (pc + 1) (lv) (.int v :: st) (h) n kc ks) : J D dA A ad0 n0 nL p l e R s m args below meth c Q (pc) (lv) (.int y :: .int x :: st) (h) n kc ks := fun ad H locs ls h0 hP hD hS hL => lv_iushr C.1 C.2.1 hd hv (k ad H locs ls h0 hP hD hS hL)
theorem J_ineg (C : Cx D dA A ad0 own cc nL p R s m args meth c) {x : Int32} (hd : decode cc pc = .ok (.ineg, 1)) (k : J D dA A ad0 n0 nL p l e R s m args below meth c Q (pc + 1) (lv) (.int (-x) :: st) (h) n kc ks) : J D dA A ad0 n0 nL p l e R s m args below meth c Q (pc) (lv) (.int x :: st) (h) n kc ks := fun ad H locs ls h0 hP hD hS hL => lv_ineg C.1 C.2.1 hd (k ad H locs ls h0 hP hD hS hL)
theorem J_i2l (C : Cx D dA A ad0 own cc nL p R s m args meth c) {x : Int32} (hd : decode cc pc = .ok (.i2l, 1)) (k : J D dA A ad0 n0 nL p l e R s m args below meth c Q (pc + 1) (lv) (.long x.toInt64 :: st) (h) n kc ks) : J D dA A ad0 n0 nL p l e R s m args below meth c Q (pc) (lv) (.int x :: st) (h) n kc ks := fun ad H locs ls h0 hP hD hS hL => lv_i2l C.1 C.2.1 hd rfl (k ad H locs ls h0 hP hD hS hL)
theorem J_ladd (C : Cx D dA A ad0 own cc nL p R s m args meth c) {x y : Int64} (hd : decode cc pc = .ok (.ladd, 1)) (k : J D dA A ad0 n0 nL p l e R s m args below meth c Q (pc + 1) (lv) (.long (x + y) :: st) (h) n kc ks) : J D dA A ad0 n0 nL p l e R s m args below meth c Q (pc) (lv) (.long y :: .long x :: st) (h) n kc ks := fun ad H locs ls h0 hP hD hS hL => lv_ladd C.1 C.2.1 hd (k ad H locs ls h0 hP hD hS hL)
theorem J_lrem (C : Cx D dA A ad0 own cc nL p R s m args meth c) {x y : Int64} (hd : decode cc pc = .ok (.lrem, 1)) (hne : ¬ y = 0) (k : J D dA A ad0 n0 nL p l e R s m args below meth c Q (pc + 1) (lv) (.long (x - x / y * y) :: st) (h) n kc ks) : J D dA A ad0 n0 nL p l e R s m args below meth c Q (pc) (lv) (.long y :: .long x :: st) (h) n kc ks := fun ad H locs ls h0 hP hD hS hL => lv_lrem C.1 C.2.1 hd hne (k ad H locs ls h0 hP hD hS hL)
theorem J_lcmp (C : Cx D dA A ad0 own cc nL p R s m args meth c) {x y : Int64} (hd : decode cc pc = .ok (.lcmp, 1)) (k : J D dA A ad0 n0 nL p l e R s m args below meth c Q (pc + 1) (lv) (.int (lg_cmp x y) :: st) (h) n kc ks) : J D dA A ad0 n0 nL p l e R s m args below meth c Q (pc) (lv) (.long y :: .long x :: st) (h) n kc ks := fun ad H locs ls h0 hP hD hS hL => W.lcmp C.1 C.2.1 hd (k ad H locs ls h0 hP hD hS hL)
theorem J_iaddN (C : Cx D dA A ad0 own cc nL p R s m args meth c) {a b : Nat} (hd : decode cc pc = .ok (.iadd, 1)) (k : J D dA A ad0 n0 nL p l e R s m args below meth c Q (pc + 1) (lv) (.int (nI (a + b)) :: st) (h) n kc ks) : J D dA A ad0 n0 nL p l e R s m args below meth c Q (pc) (lv) (.int (nI b) :: .int (nI a) :: st) (h) n kc ks := J_iadd C hd (by rw [nI_add]; exact k)
theorem J_isubN (C : Cx D dA A ad0 own cc nL p R s m args meth c) {a b : Nat} (hd : decode cc pc = .ok (.isub, 1)) (hab : b ≤ a) (k : J D dA A ad0 n0 nL p l e R s m args below meth c Q (pc + 1) (lv) (.int (nI (a - b)) :: st) (h) n kc ks) : J D dA A ad0 n0 nL p l e R s m args below meth c Q (pc) (lv) (.int (nI b) :: .int (nI a) :: st) (h) n kc ks := J_isub C hd (by rw [pk_sub hab]; exact k)
theorem J_imulN (C : Cx D dA A ad0 own cc nL p R s m args meth c) {a b : Nat} (hd : decode cc pc = .ok (.imul, 1)) (k : J D dA A ad0 n0 nL p l e R s m args below meth c Q (pc + 1) (lv) (.int (nI (a * b)) :: st) (h) n kc ks) : J D dA A ad0 n0 nL p l e R s m args below meth c Q (pc) (lv) (.int (nI b) :: .int (nI a) :: st) (h) n kc ks := J_imul C hd (by rw [pk_mul]; exact k)
theorem J_idivN (C : Cx D dA A ad0 own cc nL p R s m args meth c) {a b : Nat} (hd : decode cc pc = .ok (.idiv, 1)) (ha : a < 2 ^ 31) (hb : b < 2 ^ 31) (h0 : 0 < b) (k : J D dA A ad0 n0 nL p l e R s m args below meth c Q (pc + 1) (lv) (.int (nI (a / b)) :: st) (h) n kc ks) : J D dA A ad0 n0 nL p l e R s m args below meth c Q (pc) (lv) (.int (nI b) :: .int (nI a) :: st) (h) n kc ks := J_idiv C hd (nI_ne0 h0 hb) (by rw [pk_div ha h0 hb]; exact k)
theorem J_iremN (C : Cx D dA A ad0 own cc nL p R s m args meth c) {a b : Nat} (hd : decode cc pc = .ok (.irem, 1)) (ha : a < 2 ^ 31) (hb : b < 2 ^ 31) (h0 : 0 < b) (k : J D dA A ad0 n0 nL p l e R s m args below meth c Q (pc + 1) (lv) (.int (nI (a % b)) :: st) (h) n kc ks) : J D dA A ad0 n0 nL p l e R s m args below meth c Q (pc) (lv) (.int (nI b) :: .int (nI a) :: st) (h) n kc ks := J_irem C hd (nI_ne0 h0 hb) (by rw [pk_rem ha h0 hb]; exact k)
theorem J_dup (C : Cx D dA A ad0 own cc nL p R s m args meth c) {v : Value} (hd : decode cc pc = .ok (.dup, 1)) (hv : v.category = 1) (k : J D dA A ad0 n0 nL p l e R s m args below meth c Q (pc + 1) (lv) (v :: v :: st) (h) n kc ks) : J D dA A ad0 n0 nL p l e R s m args below meth c Q (pc) (lv) (v :: st) (h) n kc ks := fun ad H locs ls h0 hP hD hS hL => lv_dup C.1 C.2.1 hd (by rw [zV_cat]; exact hv) (k ad H locs ls h0 hP hD hS hL)
theorem J_pop (C : Cx D dA A ad0 own cc nL p R s m args meth c) {v : Value} (hd : decode cc pc = .ok (.pop, 1)) (hv : v.category = 1) (k : J D dA A ad0 n0 nL p l e R s m args below meth c Q (pc + 1) (lv) (st) (h) n kc ks) : J D dA A ad0 n0 nL p l e R s m args below meth c Q (pc) (lv) (v :: st) (h) n kc ks := fun ad H locs ls h0 hP hD hS hL => lv_pop C.1 C.2.1 hd (by rw [zV_cat]; exact hv) (k ad H locs ls h0 hP hD hS hL)
theorem J_dup2 (C : Cx D dA A ad0 own cc nL p R s m args meth c) {v w : Value} (hd : decode cc pc = .ok (.dup2, 1)) (hv : v.category = 1) (hw : w.category = 1) (k : J D dA A ad0 n0 nL p l e R s m args below meth c Q (pc + 1) (lv) (v :: w :: v :: w :: st) (h) n kc ks) : J D dA A ad0 n0 nL p l e R s m args below meth c Q (pc) (lv) (v :: w :: st) (h) n kc ks := fun ad H locs ls h0 hP hD hS hL => lv_dup2_11 C.1 C.2.1 hd (by rw [zV_cat]; exact hv) (by rw [zV_cat]; exact hw) (k ad H locs ls h0 hP hD hS hL)
theorem J_if_eq (C : Cx D dA A ad0 own cc nL p R s m args meth c) {x : Int32} {off : Int} (tgt : Nat) (hd : decode cc pc = .ok (.ifCond .eq off, 3)) (ht : (pc : Int) + off = (tgt : Int)) (kt : x = 0 → J D dA A ad0 n0 nL p l e R s m args below meth c Q (tgt) (lv) (st) (h) n kc ks) (kf : ¬ x = 0 → J D dA A ad0 n0 nL p l e R s m args below meth c Q (pc + 3) (lv) (st) (h) n kc ks) : J D dA A ad0 n0 nL p l e R s m args below meth c Q (pc) (lv) (.int x :: st) (h) n kc ks := fun ad H locs ls h0 hP hD hS hL => lv_if_eq C.1 C.2.1 hd ht (fun q => kt q ad H locs ls h0 hP hD hS hL) (fun q => kf q ad H locs ls h0 hP hD hS hL)
theorem J_if_ne (C : Cx D dA A ad0 own cc nL p R s m args meth c) {x : Int32} {off : Int} (tgt : Nat) (hd : decode cc pc = .ok (.ifCond .ne off, 3)) (ht : (pc : Int) + off = (tgt : Int)) (kt : ¬ x = 0 → J D dA A ad0 n0 nL p l e R s m args below meth c Q (tgt) (lv) (st) (h) n kc ks) (kf : x = 0 → J D dA A ad0 n0 nL p l e R s m args below meth c Q (pc + 3) (lv) (st) (h) n kc ks) : J D dA A ad0 n0 nL p l e R s m args below meth c Q (pc) (lv) (.int x :: st) (h) n kc ks := fun ad H locs ls h0 hP hD hS hL => lv_if_ne C.1 C.2.1 hd ht (fun q => kt q ad H locs ls h0 hP hD hS hL) (fun q => kf q ad H locs ls h0 hP hD hS hL)
theorem J_if_lt (C : Cx D dA A ad0 own cc nL p R s m args meth c) {x : Int32} {off : Int} (tgt : Nat) (hd : decode cc pc = .ok (.ifCond .lt off, 3)) (ht : (pc : Int) + off = (tgt : Int)) (kt : x < 0 → J D dA A ad0 n0 nL p l e R s m args below meth c Q (tgt) (lv) (st) (h) n kc ks) (kf : ¬ x < 0 → J D dA A ad0 n0 nL p l e R s m args below meth c Q (pc + 3) (lv) (st) (h) n kc ks) : J D dA A ad0 n0 nL p l e R s m args below meth c Q (pc) (lv) (.int x :: st) (h) n kc ks := fun ad H locs ls h0 hP hD hS hL => lv_if_lt C.1 C.2.1 hd ht (fun q => kt q ad H locs ls h0 hP hD hS hL) (fun q => kf q ad H locs ls h0 hP hD hS hL)
theorem J_if_ge (C : Cx D dA A ad0 own cc nL p R s m args meth c) {x : Int32} {off : Int} (tgt : Nat) (hd : decode cc pc = .ok (.ifCond .ge off, 3)) (ht : (pc : Int) + off = (tgt : Int)) (kt : 0 ≤ x → J D dA A ad0 n0 nL p l e R s m args below meth c Q (tgt) (lv) (st) (h) n kc ks) (kf : ¬ 0 ≤ x → J D dA A ad0 n0 nL p l e R s m args below meth c Q (pc + 3) (lv) (st) (h) n kc ks) : J D dA A ad0 n0 nL p l e R s m args below meth c Q (pc) (lv) (.int x :: st) (h) n kc ks := fun ad H locs ls h0 hP hD hS hL => lv_if_ge C.1 C.2.1 hd ht (fun q => kt q ad H locs ls h0 hP hD hS hL) (fun q => kf q ad H locs ls h0 hP hD hS hL)
theorem J_if_gt (C : Cx D dA A ad0 own cc nL p R s m args meth c) {x : Int32} {off : Int} (tgt : Nat) (hd : decode cc pc = .ok (.ifCond .gt off, 3)) (ht : (pc : Int) + off = (tgt : Int)) (kt : 0 < x → J D dA A ad0 n0 nL p l e R s m args below meth c Q (tgt) (lv) (st) (h) n kc ks) (kf : ¬ 0 < x → J D dA A ad0 n0 nL p l e R s m args below meth c Q (pc + 3) (lv) (st) (h) n kc ks) : J D dA A ad0 n0 nL p l e R s m args below meth c Q (pc) (lv) (.int x :: st) (h) n kc ks := fun ad H locs ls h0 hP hD hS hL => lv_if_gt C.1 C.2.1 hd ht (fun q => kt q ad H locs ls h0 hP hD hS hL) (fun q => kf q ad H locs ls h0 hP hD hS hL)
theorem J_if_le (C : Cx D dA A ad0 own cc nL p R s m args meth c) {x : Int32} {off : Int} (tgt : Nat) (hd : decode cc pc = .ok (.ifCond .le off, 3)) (ht : (pc : Int) + off = (tgt : Int)) (kt : x ≤ 0 → J D dA A ad0 n0 nL p l e R s m args below meth c Q (tgt) (lv) (st) (h) n kc ks) (kf : ¬ x ≤ 0 → J D dA A ad0 n0 nL p l e R s m args below meth c Q (pc + 3) (lv) (st) (h) n kc ks) : J D dA A ad0 n0 nL p l e R s m args below meth c Q (pc) (lv) (.int x :: st) (h) n kc ks := fun ad H locs ls h0 hP hD hS hL => lv_if_le C.1 C.2.1 hd ht (fun q => kt q ad H locs ls h0 hP hD hS hL) (fun q => kf q ad H locs ls h0 hP hD hS hL)
theorem J_icmp_eq (C : Cx D dA A ad0 own cc nL p R s m args meth c) {x y : Int32} {off : Int} (tgt : Nat) (hd : decode cc pc = .ok (.if_icmp .eq off, 3)) (ht : (pc : Int) + off = (tgt : Int)) (kt : x = y → J D dA A ad0 n0 nL p l e R s m args below meth c Q (tgt) (lv) (st) (h) n kc ks) (kf : ¬ x = y → J D dA A ad0 n0 nL p l e R s m args below meth c Q (pc + 3) (lv) (st) (h) n kc ks) : J D dA A ad0 n0 nL p l e R s m args below meth c Q (pc) (lv) (.int y :: .int x :: st) (h) n kc ks := fun ad H locs ls h0 hP hD hS hL => lv_icmp_eq C.1 C.2.1 hd ht (fun q => kt q ad H locs ls h0 hP hD hS hL) (fun q => kf q ad H locs ls h0 hP hD hS hL)
theorem J_icmp_ne (C : Cx D dA A ad0 own cc nL p R s m args meth c) {x y : Int32} {off : Int} (tgt : Nat) (hd : decode cc pc = .ok (.if_icmp .ne off, 3)) (ht : (pc : Int) + off = (tgt : Int)) (kt : ¬ x = y → J D dA A ad0 n0 nL p l e R s m args below meth c Q (tgt) (lv) (st) (h) n kc ks) (kf : x = y → J D dA A ad0 n0 nL p l e R s m args below meth c Q (pc + 3) (lv) (st) (h) n kc ks) : J D dA A ad0 n0 nL p l e R s m args below meth c Q (pc) (lv) (.int y :: .int x :: st) (h) n kc ks := fun ad H locs ls h0 hP hD hS hL => lv_icmp_ne C.1 C.2.1 hd ht (fun q => kt q ad H locs ls h0 hP hD hS hL) (fun q => kf q ad H locs ls h0 hP hD hS hL)
theorem J_icmp_lt (C : Cx D dA A ad0 own cc nL p R s m args meth c) {x y : Int32} {off : Int} (tgt : Nat) (hd : decode cc pc = .ok (.if_icmp .lt off, 3)) (ht : (pc : Int) + off = (tgt : Int)) (kt : x < y → J D dA A ad0 n0 nL p l e R s m args below meth c Q (tgt) (lv) (st) (h) n kc ks) (kf : ¬ x < y → J D dA A ad0 n0 nL p l e R s m args below meth c Q (pc + 3) (lv) (st) (h) n kc ks) : J D dA A ad0 n0 nL p l e R s m args below meth c Q (pc) (lv) (.int y :: .int x :: st) (h) n kc ks := fun ad H locs ls h0 hP hD hS hL => lv_icmp_lt C.1 C.2.1 hd ht (fun q => kt q ad H locs ls h0 hP hD hS hL) (fun q => kf q ad H locs ls h0 hP hD hS hL)
theorem J_icmp_ge (C : Cx D dA A ad0 own cc nL p R s m args meth c) {x y : Int32} {off : Int} (tgt : Nat) (hd : decode cc pc = .ok (.if_icmp .ge off, 3)) (ht : (pc : Int) + off = (tgt : Int)) (kt : y ≤ x → J D dA A ad0 n0 nL p l e R s m args below meth c Q (tgt) (lv) (st) (h) n kc ks) (kf : ¬ y ≤ x → J D dA A ad0 n0 nL p l e R s m args below meth c Q (pc + 3) (lv) (st) (h) n kc ks) : J D dA A ad0 n0 nL p l e R s m args below meth c Q (pc) (lv) (.int y :: .int x :: st) (h) n kc ks := fun ad H locs ls h0 hP hD hS hL => lv_icmp_ge C.1 C.2.1 hd ht (fun q => kt q ad H locs ls h0 hP hD hS hL) (fun q => kf q ad H locs ls h0 hP hD hS hL)
theorem J_icmp_gt (C : Cx D dA A ad0 own cc nL p R s m args meth c) {x y : Int32} {off : Int} (tgt : Nat) (hd : decode cc pc = .ok (.if_icmp .gt off, 3)) (ht : (pc : Int) + off = (tgt : Int)) (kt : y < x → J D dA A ad0 n0 nL p l e R s m args below meth c Q (tgt) (lv) (st) (h) n kc ks) (kf : ¬ y < x → J D dA A ad0 n0 nL p l e R s m args below meth c Q (pc + 3) (lv) (st) (h) n kc ks) : J D dA A ad0 n0 nL p l e R s m args below meth c Q (pc) (lv) (.int y :: .int x :: st) (h) n kc ks := fun ad H locs ls h0 hP hD hS hL => lv_icmp_gt C.1 C.2.1 hd ht (fun q => kt q ad H locs ls h0 hP hD hS hL) (fun q => kf q ad H locs ls h0 hP hD hS hL)
theorem J_icmp_le (C : Cx D dA A ad0 own cc nL p R s m args meth c) {x y : Int32} {off : Int} (tgt : Nat) (hd : decode cc pc = .ok (.if_icmp .le off, 3)) (ht : (pc : Int) + off = (tgt : Int)) (kt : x ≤ y → J D dA A ad0 n0 nL p l e R s m args below meth c Q (tgt) (lv) (st) (h) n kc ks) (kf : ¬ x ≤ y → J D dA A ad0 n0 nL p l e R s m args below meth c Q (pc + 3) (lv) (st) (h) n kc ks) : J D dA A ad0 n0 nL p l e R s m args below meth c Q (pc) (lv) (.int y :: .int x :: st) (h) n kc ks := fun ad H locs ls h0 hP hD hS hL => lv_icmp_le C.1 C.2.1 hd ht (fun q => kt q ad H locs ls h0 hP hD hS hL) (fun q => kf q ad H locs ls h0 hP hD hS hL)
theorem J_icmpN_eq (C : Cx D dA A ad0 own cc nL p R s m args meth c) {a b : Nat} {off : Int} (tgt : Nat) (hd : decode cc pc = .ok (.if_icmp .eq off, 3)) (ht : (pc : Int) + off = (tgt : Int)) (ha : a < 2 ^ 31) (hb : b < 2 ^ 31) (kt : a = b → J D dA A ad0 n0 nL p l e R s m args below meth c Q (tgt) (lv) (st) (h) n kc ks) (kf : ¬ a = b → J D dA A ad0 n0 nL p l e R s m args below meth c Q (pc + 3) (lv) (st) (h) n kc ks) : J D dA A ad0 n0 nL p l e R s m args below meth c Q (pc) (lv) (.int (nI b) :: .int (nI a) :: st) (h) n kc ks := J_icmp_eq C tgt hd ht (fun q => kt ((nI_eq ha hb).mp q)) (fun q => kf (fun z => q ((nI_eq ha hb).mpr z)))
theorem J_icmpN_ne (C : Cx D dA A ad0 own cc nL p R s m args meth c) {a b : Nat} {off : Int} (tgt : Nat) (hd : decode cc pc = .ok (.if_icmp .ne off, 3)) (ht : (pc : Int) + off = (tgt : Int)) (ha : a < 2 ^ 31) (hb : b < 2 ^ 31) (kt : ¬ a = b → J D dA A ad0 n0 nL p l e R s m args below meth c Q (tgt) (lv) (st) (h) n kc ks) (kf : a = b → J D dA A ad0 n0 nL p l e R s m args below meth c Q (pc + 3) (lv) (st) (h) n kc ks) : J D dA A ad0 n0 nL p l e R s m args below meth c Q (pc) (lv) (.int (nI b) :: .int (nI a) :: st) (h) n kc ks := J_icmp_ne C tgt hd ht (fun q => kt (fun z => q ((nI_eq ha hb).mpr z))) (fun q => kf ((nI_eq ha hb).mp q))
theorem J_icmpN_lt (C : Cx D dA A ad0 own cc nL p R s m args meth c) {a b : Nat} {off : Int} (tgt : Nat) (hd : decode cc pc = .ok (.if_icmp .lt off, 3)) (ht : (pc : Int) + off = (tgt : Int)) (ha : a < 2 ^ 31) (hb : b < 2 ^ 31) (kt : a < b → J D dA A ad0 n0 nL p l e R s m args below meth c Q (tgt) (lv) (st) (h) n kc ks) (kf : b ≤ a → J D dA A ad0 n0 nL p l e R s m args below meth c Q (pc + 3) (lv) (st) (h) n kc ks) : J D dA A ad0 n0 nL p l e R s m args below meth c Q (pc) (lv) (.int (nI b) :: .int (nI a) :: st) (h) n kc ks := J_icmp_lt C tgt hd ht (fun q => kt ((nI_ltI ha hb).mp q)) (fun q => kf (Nat.not_lt.mp fun z => q ((nI_ltI ha hb).mpr z)))
theorem J_icmpN_ge (C : Cx D dA A ad0 own cc nL p R s m args meth c) {a b : Nat} {off : Int} (tgt : Nat) (hd : decode cc pc = .ok (.if_icmp .ge off, 3)) (ht : (pc : Int) + off = (tgt : Int)) (ha : a < 2 ^ 31) (hb : b < 2 ^ 31) (kt : b ≤ a → J D dA A ad0 n0 nL p l e R s m args below meth c Q (tgt) (lv) (st) (h) n kc ks) (kf : a < b → J D dA A ad0 n0 nL p l e R s m args below meth c Q (pc + 3) (lv) (st) (h) n kc ks) : J D dA A ad0 n0 nL p l e R s m args below meth c Q (pc) (lv) (.int (nI b) :: .int (nI a) :: st) (h) n kc ks := J_icmp_ge C tgt hd ht (fun q => kt ((nI_leI hb ha).mp q)) (fun q => kf (Nat.not_le.mp fun z => q ((nI_leI hb ha).mpr z)))
theorem J_icmpN_gt (C : Cx D dA A ad0 own cc nL p R s m args meth c) {a b : Nat} {off : Int} (tgt : Nat) (hd : decode cc pc = .ok (.if_icmp .gt off, 3)) (ht : (pc : Int) + off = (tgt : Int)) (ha : a < 2 ^ 31) (hb : b < 2 ^ 31) (kt : b < a → J D dA A ad0 n0 nL p l e R s m args below meth c Q (tgt) (lv) (st) (h) n kc ks) (kf : a ≤ b → J D dA A ad0 n0 nL p l e R s m args below meth c Q (pc + 3) (lv) (st) (h) n kc ks) : J D dA A ad0 n0 nL p l e R s m args below meth c Q (pc) (lv) (.int (nI b) :: .int (nI a) :: st) (h) n kc ks := J_icmp_gt C tgt hd ht (fun q => kt ((nI_ltI hb ha).mp q)) (fun q => kf (Nat.not_lt.mp fun z => q ((nI_ltI hb ha).mpr z)))
theorem J_icmpN_le (C : Cx D dA A ad0 own cc nL p R s m args meth c) {a b : Nat} {off : Int} (tgt : Nat) (hd : decode cc pc = .ok (.if_icmp .le off, 3)) (ht : (pc : Int) + off = (tgt : Int)) (ha : a < 2 ^ 31) (hb : b < 2 ^ 31) (kt : a ≤ b → J D dA A ad0 n0 nL p l e R s m args below meth c Q (tgt) (lv) (st) (h) n kc ks) (kf : b < a → J D dA A ad0 n0 nL p l e R s m args below meth c Q (pc + 3) (lv) (st) (h) n kc ks) : J D dA A ad0 n0 nL p l e R s m args below meth c Q (pc) (lv) (.int (nI b) :: .int (nI a) :: st) (h) n kc ks := J_icmp_le C tgt hd ht (fun q => kt ((nI_leI ha hb).mp q)) (fun q => kf (Nat.not_le.mp fun z => q ((nI_leI ha hb).mpr z)))
theorem J_goto (C : Cx D dA A ad0 own cc nL p R s m args meth c) {off : Int} (tgt : Nat) (hd : decode cc pc = .ok (.goto off, 3)) (ht : (pc : Int) + off = (tgt : Int)) (k : J D dA A ad0 n0 nL p l e R s m args below meth c Q (tgt) (lv) (st) (h) n kc ks) : J D dA A ad0 n0 nL p l e R s m args below meth c Q (pc) (lv) (st) (h) n kc ks := fun ad H locs ls h0 hP hD hS hL => lv_goto C.1 C.2.1 hd ht (k ad H locs ls h0 hP hD hS hL)
theorem J_ifnonnull (C : Cx D dA A ad0 own cc nL p R s m args meth c) {x : Nat} {off : Int} (tgt : Nat) (hd : decode cc pc = .ok (.ifnonnull off, 3)) (ht : (pc : Int) + off = (tgt : Int)) (k : J D dA A ad0 n0 nL p l e R s m args below meth c Q (tgt) (lv) (st) (h) n kc ks) : J D dA A ad0 n0 nL p l e R s m args below meth c Q (pc) (lv) (.ref x :: st) (h) n kc ks := fun ad H locs ls h0 hP hD hS hL => lv_ifnonnull C.1 C.2.1 hd ht (k ad H locs ls h0 hP hD hS hL)
theorem J_ifnonnullN (C : Cx D dA A ad0 own cc nL p R s m args meth c) {off : Int} (hd : decode cc pc = .ok (.ifnonnull off, 3)) (k : J D dA A ad0 n0 nL p l e R s m args below meth c Q (pc + 3) (lv) (st) (h) n kc ks) : J D dA A ad0 n0 nL p l e R s m args below meth c Q (pc) (lv) (.null :: st) (h) n kc ks := fun ad H locs ls h0 hP hD hS hL => lv_ifnonnullN C.1 C.2.1 hd (k ad H locs ls h0 hP hD hS hL)
theorem J_tableIn (C : Cx D dA A ad0 own cc nL p R s m args meth c) {dflt lo hi : Int} {offs : Array Int} {len : Nat} {x : Int32} {off : Int} (tgt : Nat) (hd : decode cc pc = .ok (.tableswitch dflt lo hi offs, len)) (h1 : ¬ x.toInt < lo) (h2 : ¬ hi < x.toInt) (ho : offs[(x.toInt - lo).toNat]? = some off) (ht : (pc : Int) + off = (tgt : Int)) (k : J D dA A ad0 n0 nL p l e R s m args below meth c Q (tgt) (lv) (st) (h) n kc ks) : J D dA A ad0 n0 nL p l e R s m args below meth c Q (pc) (lv) (.int x :: st) (h) n kc ks := fun ad H locs ls h0 hP hD hS hL => lv_tableIn C.1 C.2.1 hd h1 h2 ho ht (k ad H locs ls h0 hP hD hS hL)
theorem J_tableOut (C : Cx D dA A ad0 own cc nL p R s m args meth c) {dflt lo hi : Int} {offs : Array Int} {len : Nat} {x : Int32} (tgt : Nat) (hd : decode cc pc = .ok (.tableswitch dflt lo hi offs, len)) (h1 : x.toInt < lo ∨ hi < x.toInt) (ht : (pc : Int) + dflt = (tgt : Int)) (k : J D dA A ad0 n0 nL p l e R s m args below meth c Q (tgt) (lv) (st) (h) n kc ks) : J D dA A ad0 n0 nL p l e R s m args below meth c Q (pc) (lv) (.int x :: st) (h) n kc ks := fun ad H locs ls h0 hP hD hS hL => lv_tableOut C.1 C.2.1 hd h1 ht (k ad H locs ls h0 hP hD hS hL)
theorem J_lv {lv' : List (Option Value)} (hw : ∀ (i : Nat) (v : Value), lv'[i]? = some (some v) → lv[i]? = some (some v)) (k : J D dA A ad0 n0 nL p l e R s m args below meth c Q (pc) (lv') (st) (h) n kc ks) : J D dA A ad0 n0 nL p l e R s m args below meth c Q (pc) (lv) (st) (h) n kc ks := fun ad H locs ls h0 hP hD hS hL => k ad H locs ls h0 hP hD hS (hL.weak hw)
theorem J_widen {kc' ks' : Nat} (h1 : kc ≤ kc') (h2 : ks ≤ ks') (k : J D dA A ad0 n0 nL p l e R s m args below meth c Q (pc) (lv) (st) (h) n kc' ks') : J D dA A ad0 n0 nL p l e R s m args below meth c Q (pc) (lv) (st) (h) n kc ks := fun ad H locs ls h0 hP hD hS hL => W.widen h1 h2 (k ad H locs ls h0 hP hD hS hL)
def CI (ci : Nat) (C : String) (T : u_T) (N : Nat) (ty : Nat → FieldType) : Prop := cls[ci]? = some (C, T, N) ∧ (∀ w ∈ u_ws C T N, w ∈ tb) ∧ (∀ k, k < N → parseFieldDescriptor (T k).2.2.1 = some (ty k)) ∧ (∀ a, a < N → ∀ b, b < N → a ≠ b → (T a).2.1 ≠ (T b).2.1)
/-- a field's entry in a pool: of the class ci the place k -/
def FG (own : String) (idx ci k : Nat) (fin : Bool) (fty : FieldType) : Prop := ∃ (C : String) (T : u_T) (N : Nat) (ty : Nat → FieldType), CI ci C T N ty ∧ k < N ∧ (T k).1 = C ∧ (T k).2.2.2 = fin ∧ ty k = fty ∧ (Cond.fieldLink own idx C (T k).2.1 (T k).2.2.1 ∈ tb ∨ ∃ host, Cond.fieldLinkNest own idx C (T k).2.1 (T k).2.2.1 host ∈ tb)
theorem J_get (C : Cx D dA A ad0 own cc nL p R s m args meth c) {idx ci k pos : Nat} {fin : Bool} {fty : FieldType} {fs : List Value} {v : Value} (F : FG own idx ci k fin fty) (hpos : pos < n) (he : h pos = .inr (ci, fs)) (hv : fs[k]? = some v) (hd : decode cc pc = .ok (.getfield idx, 3)) (kk : J D dA A ad0 n0 nL p l e R s m args below meth c Q (pc + 3) (lv) (v :: st) (h) n kc ks) : J D dA A ad0 n0 nL p l e R s m args below meth c Q (pc) (lv) (.ref pos :: st) (h) n kc ks := by
  intro ad H locs ls h0 hP hD hS hL
  obtain ⟨CC, T, N, ty, ⟨hcl, hin, hty, hnm⟩, hk, hT, hfin, hft, hlink⟩ := F
  have hw := wl_get (dA := dA) (ad := ad) (h := h) hpos
  rw [he] at hw
  have hv' : (fs.map (zV ad))[k]? = some (zV ad v) := by rw [List.getElem?_map, hv]; rfl
  rcases hlink with hlink | ⟨host, hlink⟩
  · exact va_get (D := D) (own := own) (ref := CC) C.1 C.2.1 C.2.2.2.2.1 hin C.2.2.2.1 C.2.2.2.2.2.1 hP pos hw hcl k hk (C.2.2.2.2.1 _ hlink) (fun x hx => by rw [hT] at hx; exact hx) hv' hd (kk ad H locs ls h0 hP hD hS hL)
  · exact va_getN (D := D) (own := own) (ref := CC) (host := host) C.1 C.2.1 C.2.2.2.2.1 hin C.2.2.2.1 C.2.2.2.2.2.1 hP pos hw hcl k hk (C.2.2.2.2.1 _ hlink) (fun x hx => by rw [hT] at hx; exact hx) hv' hd (kk ad H locs ls h0 hP hD hS hL)
theorem J_put (C : Cx D dA A ad0 own cc nL p R s m args meth c) {idx ci k pos : Nat} {fty : FieldType} {fs : List Value} {v : Value} (F : FG own idx ci k false fty) (hpos : pos < n) (he : h pos = .inr (ci, fs)) (hl : k < fs.length) (hn : ∀ ad, narrow fty (zV ad v) = zV ad v) (hf : ∀ ad, fits fty (zV ad v) = true) (hd : decode cc pc = .ok (.putfield idx, 3)) (kk : J D dA A ad0 n0 nL p l e R s m args below meth c Q (pc + 3) (lv) (st) (va_up h pos (.inr (ci, fs.set k v))) n kc ks) : J D dA A ad0 n0 nL p l e R s m args below meth c Q (pc) (lv) (v :: .ref pos :: st) (h) n kc ks := by
  intro ad H locs ls h0 hP hD hS hL
  obtain ⟨CC, T, N, ty, ⟨hcl, hin, hty, hnm⟩, hk, hT, hfin, hft, hlink⟩ := F
  have hw := wl_get (dA := dA) (ad := ad) (h := h) hpos
  rw [he] at hw
  have hd' : parseFieldDescriptor (T k).2.2.1 = some fty := by rw [← hft]; exact hty k hk
  have key : ∀ (H1 : Heap) (locs1 : List Loc), va_P D cls ((wl dA ad h n).set pos (ad pos, .inr (ci, (fs.map (zV ad)).set k (zV ad v)))) H1 → va_D A ((wl dA ad h n).set pos (ad pos, .inr (ci, (fs.map (zV ad)).set k (zV ad v)))) → va_S A s.heap H1 locs1 → W p l e R s m args below meth c H1 locs1 kc ks Q (F0 m (pc + 3) ls (st.map (zV ad))) := by
    intro H1 locs1 hP1 hD1 hS1
    have e1 : (wl dA ad h n).set pos (ad pos, .inr (ci, (fs.map (zV ad)).set k (zV ad v))) = wl dA ad (va_up h pos (.inr (ci, fs.set k v))) n := by
      rw [← List.map_set]
      exact wl_set (.inr (ci, fs.set k v)) hpos
    rw [e1] at hP1 hD1
    exact kk ad H1 locs1 ls h0 hP1 hD1 hS1 hL
  rcases hlink with hlink | ⟨host, hlink⟩
  · exact va_put (D := D) (own := own) (ref := CC) C.1 C.2.1 C.2.2.2.2.1 hin ty hty hnm C.2.2.2.1 C.2.2.2.2.2.1 hP hD hS pos hw hcl k hk (C.2.2.2.2.1 _ hlink) (fun x hx => by rw [hT] at hx; exact hx) hfin hd' (hn ad) (hf ad) (by rw [List.length_map]; exact hl) hd key
  · exact va_putN (D := D) (own := own) (ref := CC) (host := host) C.1 C.2.1 C.2.2.2.2.1 hin ty hty hnm C.2.2.2.1 C.2.2.2.2.2.1 hP hD hS pos hw hcl k hk (C.2.2.2.2.1 _ hlink) (fun x hx => by rw [hT] at hx; exact hx) hfin hd' (hn ad) (hf ad) (by rw [List.length_map]; exact hl) hd key
theorem J_putF (C : Cx D dA A ad0 own cc nL p R s m args meth c) {idx ci k pos : Nat} {fty : FieldType} {fs : List Value} {v : Value} (F : FG own idx ci k true fty) (hin2 : meth.name = "<init>") (hown : ∃ T N, cls[ci]? = some (own, T, N)) (hpos : pos < n) (he : h pos = .inr (ci, fs)) (hl : k < fs.length) (hn : ∀ ad, narrow fty (zV ad v) = zV ad v) (hf : ∀ ad, fits fty (zV ad v) = true) (hno : ∀ T : u_T, ∀ N, cls[ci]? = some (own, T, N) → Cond.fieldLink own idx own (T k).2.1 (T k).2.2.1 ∈ tb) (hd : decode cc pc = .ok (.putfield idx, 3)) (kk : J D dA A ad0 n0 nL p l e R s m args below meth c Q (pc + 3) (lv) (st) (va_up h pos (.inr (ci, fs.set k v))) n kc ks) : J D dA A ad0 n0 nL p l e R s m args below meth c Q (pc) (lv) (v :: .ref pos :: st) (h) n kc ks := by
  intro ad H locs ls h0 hP hD hS hL
  obtain ⟨CC, T, N, ty, ⟨hcl, hin, hty, hnm⟩, hk, hT, hfin, hft, -⟩ := F
  obtain ⟨T2, N2, ho⟩ := hown
  have h3 := hcl.symm.trans ho
  simp only [Option.some.injEq, Prod.mk.injEq] at h3
  obtain ⟨rfl, rfl, rfl⟩ := h3
  have hw := wl_get (dA := dA) (ad := ad) (h := h) hpos
  rw [he] at hw
  have hd' : parseFieldDescriptor (T k).2.2.1 = some fty := by rw [← hft]; exact hty k hk
  refine va_putF (D := D) (own := CC) (ref := CC) C.1 C.2.1 C.2.2.2.2.1 hin ty hty hnm C.2.2.2.1 C.2.2.2.2.2.1 hP hD hS pos hw hcl k hk (C.2.2.2.2.1 _ (hno T N hcl)) (fun x hx => by rw [hT] at hx; exact hx) hfin hin2 hT hd' (hn ad) (hf ad) (by rw [List.length_map]; exact hl) hd ?_
  intro H1 locs1 hP1 hD1 hS1
  have e1 : (wl dA ad h n).set pos (ad pos, .inr (ci, (fs.map (zV ad)).set k (zV ad v))) = wl dA ad (va_up h pos (.inr (ci, fs.set k v))) n := by
    rw [← List.map_set]
    exact wl_set (.inr (ci, fs.set k v)) hpos
  rw [e1] at hP1 hD1
  exact kk ad H1 locs1 ls h0 hP1 hD1 hS1 hL
theorem J_iaload (C : Cx D dA A ad0 own cc nL p R s m args meth c) {pos len : Nat} {f : Nat → Int32} {i : Int32} (hpos : pos < n) (he : h pos = .inl (0, len, .inl f)) (hi : vp_in i len) (hd : decode cc pc = .ok (.iaload, 1)) (kk : J D dA A ad0 n0 nL p l e R s m args below meth c Q (pc + 1) (lv) (.int (f i.toNatClampNeg) :: st) (h) n kc ks) : J D dA A ad0 n0 nL p l e R s m args below meth c Q (pc) (lv) (.int i :: .ref pos :: st) (h) n kc ks := by
  intro ad H locs ls h0 hP hD hS hL
  have hw := wl_get (dA := dA) (ad := ad) (h := h) hpos
  rw [he] at hw
  exact va_iald C.1 C.2.1 C.2.2.2.2.2.1 hP pos 0 hw rfl hi hd (kk ad H locs ls h0 hP hD hS hL)
theorem J_baload (C : Cx D dA A ad0 own cc nL p R s m args meth c) {pos len : Nat} {f : Nat → Int32} {i : Int32} (hpos : pos < n) (he : h pos = .inl (1, len, .inl f)) (hi : vp_in i len) (hd : decode cc pc = .ok (.baload, 1)) (kk : J D dA A ad0 n0 nL p l e R s m args below meth c Q (pc + 1) (lv) (.int (f i.toNatClampNeg) :: st) (h) n kc ks) : J D dA A ad0 n0 nL p l e R s m args below meth c Q (pc) (lv) (.int i :: .ref pos :: st) (h) n kc ks := by
  intro ad H locs ls h0 hP hD hS hL
  have hw := wl_get (dA := dA) (ad := ad) (h := h) hpos
  rw [he] at hw
  exact va_zald C.1 C.2.1 C.2.2.2.2.2.1 hP pos 1 hw rfl hi hd (kk ad H locs ls h0 hP hD hS hL)
theorem J_laload (C : Cx D dA A ad0 own cc nL p R s m args meth c) {pos len : Nat} {f : Nat → Int64} {i : Int32} (hpos : pos < n) (he : h pos = .inl (2, len, .inr (.inl f))) (hi : vp_in i len) (hd : decode cc pc = .ok (.laload, 1)) (kk : J D dA A ad0 n0 nL p l e R s m args below meth c Q (pc + 1) (lv) (.long (f i.toNatClampNeg) :: st) (h) n kc ks) : J D dA A ad0 n0 nL p l e R s m args below meth c Q (pc) (lv) (.int i :: .ref pos :: st) (h) n kc ks := by
  intro ad H locs ls h0 hP hD hS hL
  have hw := wl_get (dA := dA) (ad := ad) (h := h) hpos
  rw [he] at hw
  exact va_lald C.1 C.2.1 C.2.2.2.2.2.1 hP pos 2 hw rfl hi hd (kk ad H locs ls h0 hP hD hS hL)
theorem J_iastore (C : Cx D dA A ad0 own cc nL p R s m args meth c) {pos len : Nat} {f : Nat → Int32} {i x : Int32} (hpos : pos < n) (he : h pos = .inl (0, len, .inl f)) (hi : vp_in i len) (hd : decode cc pc = .ok (.iastore, 1)) (kk : J D dA A ad0 n0 nL p l e R s m args below meth c Q (pc + 1) (lv) (st) (va_up h pos (.inl (0, len, .inl (upd f i.toNatClampNeg (x))))) n kc ks) : J D dA A ad0 n0 nL p l e R s m args below meth c Q (pc) (lv) (.int x :: .int i :: .ref pos :: st) (h) n kc ks := by
  intro ad H locs ls h0 hP hD hS hL
  have hw := wl_get (dA := dA) (ad := ad) (h := h) hpos
  rw [he] at hw
  refine va_iast C.1 C.2.1 C.2.2.2.2.2.1 hP hD hS pos 0 hw rfl hi hd ?_
  intro H1 locs1 hP1 hD1 hS1
  have e1 := wl_set (dA := dA) (ad := ad) (h := h) (.inl (0, len, .inl (upd f i.toNatClampNeg (x)))) hpos
  rw [show zE dA ad (.inl (0, len, .inl (upd f i.toNatClampNeg (x)))) = .inl (dA 0, len, .inl (upd f i.toNatClampNeg (x))) from rfl] at e1
  rw [e1] at hP1 hD1
  exact kk ad H1 locs1 ls h0 hP1 hD1 hS1 hL
theorem J_bastore (C : Cx D dA A ad0 own cc nL p R s m args meth c) {pos len : Nat} {f : Nat → Int32} {i x : Int32} (hpos : pos < n) (he : h pos = .inl (1, len, .inl f)) (hi : vp_in i len) (hd : decode cc pc = .ok (.bastore, 1)) (kk : J D dA A ad0 n0 nL p l e R s m args below meth c Q (pc + 1) (lv) (st) (va_up h pos (.inl (1, len, .inl (upd f i.toNatClampNeg (vp_nar .boolean x))))) n kc ks) : J D dA A ad0 n0 nL p l e R s m args below meth c Q (pc) (lv) (.int x :: .int i :: .ref pos :: st) (h) n kc ks := by
  intro ad H locs ls h0 hP hD hS hL
  have hw := wl_get (dA := dA) (ad := ad) (h := h) hpos
  rw [he] at hw
  refine va_zast C.1 C.2.1 C.2.2.2.2.2.1 hP hD hS pos 1 hw rfl hi hd ?_
  intro H1 locs1 hP1 hD1 hS1
  have e1 := wl_set (dA := dA) (ad := ad) (h := h) (.inl (1, len, .inl (upd f i.toNatClampNeg (vp_nar .boolean x)))) hpos
  rw [show zE dA ad (.inl (1, len, .inl (upd f i.toNatClampNeg (vp_nar .boolean x)))) = .inl (dA 1, len, .inl (upd f i.toNatClampNeg (vp_nar .boolean x))) from rfl] at e1
  rw [e1] at hP1 hD1
  exact kk ad H1 locs1 ls h0 hP1 hD1 hS1 hL
theorem J_lastore (C : Cx D dA A ad0 own cc nL p R s m args meth c) {pos len : Nat} {f : Nat → Int64} {i : Int32} {x : Int64} (hpos : pos < n) (he : h pos = .inl (2, len, .inr (.inl f))) (hi : vp_in i len) (hd : decode cc pc = .ok (.lastore, 1)) (kk : J D dA A ad0 n0 nL p l e R s m args below meth c Q (pc + 1) (lv) (st) (va_up h pos (.inl (2, len, .inr (.inl (vp_updL f i.toNatClampNeg x))))) n kc ks) : J D dA A ad0 n0 nL p l e R s m args below meth c Q (pc) (lv) (.long x :: .int i :: .ref pos :: st) (h) n kc ks := by
  intro ad H locs ls h0 hP hD hS hL
  have hw := wl_get (dA := dA) (ad := ad) (h := h) hpos
  rw [he] at hw
  refine va_last C.1 C.2.1 C.2.2.2.2.2.1 hP hD hS pos 2 hw rfl hi hd ?_
  intro H1 locs1 hP1 hD1 hS1
  have e1 := wl_set (dA := dA) (ad := ad) (h := h) (.inl (2, len, .inr (.inl (vp_updL f i.toNatClampNeg x)))) hpos
  rw [show zE dA ad (.inl (2, len, .inr (.inl (vp_updL f i.toNatClampNeg x)))) = .inl (dA 2, len, .inr (.inl (vp_updL f i.toNatClampNeg x))) from rfl] at e1
  rw [e1] at hP1 hD1
  exact kk ad H1 locs1 ls h0 hP1 hD1 hS1 hL
theorem J_aaload (C : Cx D dA A ad0 own cc nL p R s m args meth c) {pos len t : Nat} {f : Nat → Option Nat} {i : Int32} {q : Nat} (ht : t = 3 ∨ t = 4) (hpos : pos < n) (he : h pos = .inl (t, len, .inr (.inr (.inr (.inr f))))) (hi : vp_in i len) (hq : f i.toNatClampNeg = some q) (hd : decode cc pc = .ok (.aaload, 1)) (kk : J D dA A ad0 n0 nL p l e R s m args below meth c Q (pc + 1) (lv) (.ref q :: st) (h) n kc ks) : J D dA A ad0 n0 nL p l e R s m args below meth c Q (pc) (lv) (.int i :: .ref pos :: st) (h) n kc ks := by
  intro ad H locs ls h0 hP hD hS hL
  have hw := wl_get (dA := dA) (ad := ad) (h := h) hpos
  rw [he] at hw
  have e1 : va_rf (zO ad f i.toNatClampNeg) = .ref (ad q) := by simp only [zO, hq]; rfl
  rcases ht with rfl | rfl
  · exact va_aldq C.1 C.2.1 C.2.2.2.2.2.1 hP pos 3 hw rfl hi hd (by rw [e1]; exact kk ad H locs ls h0 hP hD hS hL)
  · exact va_aldq C.1 C.2.1 C.2.2.2.2.2.1 hP pos 4 hw rfl hi hd (by rw [e1]; exact kk ad H locs ls h0 hP hD hS hL)
theorem J_aastore (C : Cx D dA A ad0 own cc nL p R s m args meth c) {pos len t pv ci : Nat} {f : Nat → Option Nat} {fs : List Value} {i : Int32} (ht : (t = 3 ∧ ci = 3) ∨ (t = 4 ∧ ci = 6)) (hpos : pos < n) (he : h pos = .inl (t, len, .inr (.inr (.inr (.inr f))))) (hpv : pv < n) (hv : h pv = .inr (ci, fs)) (hi : vp_in i len) (hd : decode cc pc = .ok (.aastore, 1)) (kk : J D dA A ad0 n0 nL p l e R s m args below meth c Q (pc + 1) (lv) (st) (va_up h pos (.inl (t, len, .inr (.inr (.inr (.inr (va_up f i.toNatClampNeg (some pv)))))))) n kc ks) : J D dA A ad0 n0 nL p l e R s m args below meth c Q (pc) (lv) (.ref pv :: .int i :: .ref pos :: st) (h) n kc ks := by
  intro ad H locs ls h0 hP hD hS hL
  have hw := wl_get (dA := dA) (ad := ad) (h := h) hpos
  rw [he] at hw
  have hw2 := wl_get (dA := dA) (ad := ad) (h := h) hpv
  rw [hv] at hw2
  have key : ∀ (H1 : Heap) (locs1 : List Loc), va_P D cls ((wl dA ad h n).set pos (ad pos, .inl (dA t, len, .inr (.inr (.inr (.inr (va_up (zO ad f) i.toNatClampNeg (some (ad pv))))))))) H1 → va_D A ((wl dA ad h n).set pos (ad pos, .inl (dA t, len, .inr (.inr (.inr (.inr (va_up (zO ad f) i.toNatClampNeg (some (ad pv))))))))) → va_S A s.heap H1 locs1 → W p l e R s m args below meth c H1 locs1 kc ks Q (F0 m (pc + 1) ls (st.map (zV ad))) := by
    intro H1 locs1 hP1 hD1 hS1
    have e1 := wl_set (dA := dA) (ad := ad) (h := h) (.inl (t, len, .inr (.inr (.inr (.inr (va_up f i.toNatClampNeg (some pv))))))) hpos
    have e2 : zO ad (va_up f i.toNatClampNeg (some pv)) = va_up (zO ad f) i.toNatClampNeg (some (ad pv)) := by
      funext j
      by_cases hj : j = i.toNatClampNeg
      · simp [zO, va_up, hj]
      · simp [zO, va_up, hj]
    rw [show zE dA ad (.inl (t, len, .inr (.inr (.inr (.inr (va_up f i.toNatClampNeg (some pv))))))) = .inl (dA t, len, .inr (.inr (.inr (.inr (zO ad (va_up f i.toNatClampNeg (some pv))))))) from rfl, e2] at e1
    rw [e1] at hP1 hD1
    exact kk ad H1 locs1 ls h0 hP1 hD1 hS1 hL
  rcases ht with ⟨rfl, rfl⟩ | ⟨rfl, rfl⟩
  · exact va_astq C.1 C.2.1 C.2.2.2.2.2.1 hP hD hS pos 3 pv 3 (r := (R_Pkt, T_Pkt, 5)) hw rfl hw2 rfl hi hd key
  · exact va_astq C.1 C.2.1 C.2.2.2.2.2.1 hP hD hS pos 4 pv 6 (r := (R_Str, T_Str, 3)) hw rfl hw2 rfl hi hd key
theorem J_alen (C : Cx D dA A ad0 own cc nL p R s m args meth c) {pos len : Nat} {f : Nat → Int32} (hpos : pos < n) (he : h pos = .inl (0, len, .inl f)) (hd : decode cc pc = .ok (.arraylength, 1)) (kk : J D dA A ad0 n0 nL p l e R s m args below meth c Q (pc + 1) (lv) (.int (nI len) :: st) (h) n kc ks) : J D dA A ad0 n0 nL p l e R s m args below meth c Q (pc) (lv) (.ref pos :: st) (h) n kc ks := by
  intro ad H locs ls h0 hP hD hS hL
  have hw := wl_get (dA := dA) (ad := ad) (h := h) hpos
  rw [he] at hw
  exact va_alen C.1 C.2.1 C.2.2.2.2.2.1 hP pos 0 hw (ty := .int) rfl rfl hd (kk ad H locs ls h0 hP hD hS hL)
theorem J_mark (C : Cx D dA A ad0 own cc nL p R s m args meth c) {idx : Nat} (ho : Cond.fieldLink own idx "RelayOrbiter$LanderLink" "MARK" "[I" ∈ tb) (hn1 : n ≤ 1000) (hd : decode cc pc = .ok (.getstatic idx, 3)) (kk : J D dA A ad0 n0 nL p l e R s m args below meth c Q (pc + 3) (lv) (.ref 1000 :: st) (h) n kc ks) : J D dA A ad0 n0 nL p l e R s m args below meth c Q (pc) (lv) (st) (h) n kc ks := by
  intro ad H locs ls h0 hP hD hS hL
  refine va_gets C.1 C.2.1 C.2.2.2.2.2.2.2.2.1.1 hS C.2.2.2.1 (C.2.2.2.2.1 _ ho) (fun _ hx => hx) hd ?_
  rw [← h0 1000 (Or.inr hn1)]
  exact kk ad H locs ls h0 hP hD hS hL
theorem J_markld (C : Cx D dA A ad0 own cc nL p R s m args meth c) {i : Int32} {j : Nat} {v : Int32} (hij : i = nI j) (hj : j < 3) (hv : zMark j = .int v) (hn1 : n ≤ 1000) (hd : decode cc pc = .ok (.iaload, 1)) (kk : J D dA A ad0 n0 nL p l e R s m args below meth c Q (pc + 1) (lv) (.int v :: st) (h) n kc ks) : J D dA A ad0 n0 nL p l e R s m args below meth c Q (pc) (lv) (.int i :: .ref 1000 :: st) (h) n kc ks := by
  intro ad H locs ls h0 hP hD hS hL
  have h1 := kk ad H locs ls h0 hP hD hS hL
  show W p l e R s m args below meth c H locs kc ks Q (F0 m pc ls (.int i :: .ref (ad 1000) :: st.map (zV ad)))
  rw [h0 1000 (Or.inr hn1)]
  refine va_ti C.1 C.2.1 C.2.2.2.2.2.2.2.2.1.2.1 hS (by rw [hij]; exact vp_in_nI hj (by decide)) (v := .int v) (by rw [hij, nI_clamp (by omega)]; exact hv) hd ?_
  exact h1
end ZR
end
section
abbrev zK : Type := MethodName × ByteArray × Nat × Option FieldType
def zR (d mc ms : Nat) : Room := { frames := 10 + d, cells := mc, slots := ms, locals := 300 + 60 * d }
def zPc (D : va_G) (dA : Nat → ClassId) (ad0 : Nat → Nat) (h : Nat → va_E) (n sz : Nat) (as : List Value) : Array Value → State → Prop := va_Pc (as.map (zV ad0)) (fun U => U.heap.size = sz ∧ va_P D cls (wl dA ad0 h n) U.heap ∧ va_D (fun _ => True) (wl dA ad0 h n) ∧ va_K D cls (tyL dA) U ∧ TB U ∧ zRO (zA ad0 n sz) (ad0 1000) U U.heap)
def zQc (D : va_G) (dA : Nat → ClassId) (A : Nat → Prop) (ad0 : Nat → Nat) (n : Nat) (Post : Option Value → (Nat → va_E) → Nat → Prop) : Array Value → State → Outcome → State → Prop := fun _ st o t =>
  (∃ (ad' : Nat → Nat) (h' : Nat → va_E) (n' : Nat) (v : Option Value), (∀ k, k < n ∨ n' ≤ k → ad' k = ad0 k) ∧ n ≤ n' ∧ o = .returned (v.map (zV ad')) ∧ Post v h' n' ∧ va_P D cls (wl dA ad' h' n') t.heap ∧ va_D A (wl dA ad' h' n')) ∧ va_F A st t
/-- A CONTRACT: the method k, at depth d, making mc cells of ms slots, with n cells h, from the arguments as, comes to Post -/
def CT (l : Launch) (D : va_G) (dA : Nat → ClassId) (k : zK) (d mc ms n : Nat) (as : List Value) (h : Nat → va_E) (Post : Option Value → (Nat → va_E) → Nat → Prop) : Prop :=
  ∀ (ad0 : Nat → Nat) (sz : Nat), Met l k.1 [Cond.code k.1 k.2.1 k.2.2.1 k.2.2.2] (zR d mc ms) (zPc D dA ad0 h n sz as) (zQc D dA (zA ad0 n sz) ad0 n Post) mc ms (zA ad0 n sz)
theorem zPc_blind {D : va_G} {dA : Nat → ClassId} {ad0 : Nat → Nat} {h : Nat → va_E} {n sz : Nat} {as : List Value} : FrameBlind (zPc D dA ad0 h n sz as) := by
  intro a U g mk q
  obtain ⟨q0, q1, qP, qD, qK, qT, qR⟩ := q
  exact ⟨q0, q1, qP, qD, va_K.moved (u := U) (U := U.calling g mk a) (Vm.Alike.refl U.vm) qK, TB.move (U := U.calling g mk a) qT (State.WarmedH.refl U), zRO.moved (u := U) (U := U.calling g mk a) (Vm.Alike.refl U.vm) qR⟩
theorem lv_args_mem : ∀ (vs : List Value) (k : Nat), (∀ v ∈ vs, v.category = 1) → ∀ (i : Nat) (v : Value), vs[i]? = some v → (k + i, v) ∈ lv_args k vs
  | [], _, _, i, v, h => by simp at h
  | w :: vs, k, hc, i, v, h => by
    have hw : ¬ w.category = 2 := by rw [hc w List.mem_cons_self]; decide
    unfold lv_args
    rw [if_neg hw]
    cases i with
    | zero => simp at h; subst h; exact List.mem_cons_self
    | succ j =>
      refine List.mem_cons_of_mem _ ?_
      have := lv_args_mem vs (k + 1) (fun v hv => hc v (List.mem_cons_of_mem _ hv)) j v (by simpa using h)
      rwa [show k + 1 + j = k + (j + 1) by omega] at this
theorem lg_sl_len {vs : List Value} (hc : ∀ v ∈ vs, v.category = 1) : (lg_sl vs).length = vs.length := by
  induction vs with
  | nil => rfl
  | cons w t ih =>
    have hw : ¬ w.category = 2 := by rw [hc w List.mem_cons_self]; decide
    have := ih (fun v hv => hc v (List.mem_cons_of_mem _ hv))
    unfold lg_sl at this ⊢
    rw [List.flatMap_cons, if_neg hw, List.length_append, this]
    simp [Nat.add_comm]
def zLv (as : List Value) (nL : Nat) : List (Option Value) := as.map some ++ List.replicate (nL - as.length) none
theorem zLv_at {as : List Value} {nL i : Nat} {v : Value} (h : (zLv as nL)[i]? = some (some v)) : as[i]? = some v := by
  unfold zLv at h
  by_cases hi : i < as.length
  · rw [List.getElem?_append_left (by simpa using hi), List.getElem?_map] at h
    cases hv : as[i]? with
    | none => rw [hv] at h; cases h
    | some w => rw [hv] at h; simp at h; rw [h]
  · rw [List.getElem?_append_right (by simpa using Nat.not_lt.mp hi), List.getElem?_replicate] at h
    split at h <;> simp at h
section ZC
variable {D : va_G} {dA : Nat → ClassId} {A : Nat → Prop} {ad0 : Nat → Nat} {n0 nL : Nat} {p : Program} {l : Launch} {e : Env} {R : Room} {s : State} {m : MethodId} {args : Array Value} {below : List Frame} {meth : Method} {c : Code} {Q : State → Prop} {pc : Nat} {lv : List (Option Value)} {st : List Value} {h : Nat → va_E} {n kc ks : Nat} {own : String} {cc : ByteArray}
variable {Post : Option Value → (Nat → va_E) → Nat → Prop}
theorem LV.entry {as : List Value} {ad : Nat → Nat} (hc : ∀ v ∈ as, v.category = 1) (hl : as.length ≤ nL) : LV nL ad (zLv as nL) ((lg_sl (as.map (zV ad)) ++ List.replicate (nL - (lg_sl (as.map (zV ad))).length) Slot.unset).toArray) := by
  have hc' : ∀ v ∈ as.map (zV ad), v.category = 1 := by
    intro v hv
    obtain ⟨w, hw, rfl⟩ := List.mem_map.mp hv
    rw [zV_cat]; exact hc w hw
  obtain ⟨h1, h2, h3⟩ := lv_entry (as.map (zV ad)) (n := nL) (by rw [lg_sl_len hc', List.length_map]; exact hl)
  refine ⟨h1, h2, fun i v hv => ?_⟩
  have := lv_args_mem (as.map (zV ad)) 0 hc' i (zV ad v) (by rw [List.getElem?_map, zLv_at hv]; rfl)
  rw [Nat.zero_add] at this
  exact h3 _ this
theorem CT.of {k : zK} {d mc ms : Nat} {as : List Value} (hy : plainName k.1.cls = true) (hl : as.length ≤ k.2.2.1) (hc : ∀ v ∈ as, v.category = 1)
    (body : ∀ (A : Nat → Prop) (ad0 : Nat → Nat) (p : Program) (e : Env) (s : State) (m : MethodId) (args : Array Value) (below : List Frame) (meth : Method) (c : Code), Cx D dA A ad0 k.1.cls k.2.1 k.2.2.1 p (zR d mc ms) s m args meth c → meth.sig.returnType = k.2.2.2 → meth.name = k.1.name →
      J D dA A ad0 n k.2.2.1 p l e (zR d mc ms) s m args below meth c (MQ below (zQc D dA A ad0 n Post) args s mc ms A) 0 (zLv as k.2.2.1) [] h n 0 0) : CT l D dA k d mc ms n as h Post := by
  intro ad0 sz
  refine Met.ofW (cc := k.2.1) (maxL := k.2.2.1) (ret := k.2.2.2) (ws' := []) hy rfl ?_
  intro p e s m args below meth c s₁ B hml hv
  obtain ⟨rfl, hsz, hP, hD0, hK, hT, hRO⟩ := hv
  subst hsz
  have hown : s.vm.findClass k.1.cls = some m.cls := findClass_of_methodNamed B.named
  have C : Cx D dA (zA ad0 n s.heap.size) ad0 k.1.cls k.2.1 k.2.2.1 p (zR d mc ms) s m (as.map (zV ad0)).toArray meth c := ⟨B.exec, B.bytes, hml, hown, hT.use _, hK, fun q hq => Or.inr hq, B.notSynchronized, hRO, hT, by unfold zR; simp; omega, by unfold zR; simp; omega⟩
  have hD : va_D (zA ad0 n s.heap.size) (wl dA ad0 h n) := ⟨hD0.1, fun i q hq => by
    obtain ⟨hi, rfl⟩ := wl_lt hq
    exact Or.inl ⟨i, hi, rfl⟩⟩
  have b := body (zA ad0 n s.heap.size) ad0 p e s m (as.map (zV ad0)).toArray below meth c C B.returns (name_of_methodNamed B.named B.method).1
  rw [lg_entry_eq]
  exact b ad0 s.heap [] _ (fun _ _ => rfl) hP hD va_S.rf (LV.entry hc hl)
-- ends
theorem J_ireturn (C : Cx D dA A ad0 own cc nL p R s m args meth c) {v : Int32} (hr : meth.sig.returnType = some .int) (hn0 : n0 ≤ n) (hPost : Post (some (.int v)) h n) (hd : decode cc pc = .ok (.ireturn, 1)) : J D dA A ad0 n0 nL p l e R s m args below meth c (MQ below (zQc D dA A ad0 n0 Post) args s kc ks A) (pc) (lv) ([.int v]) (h) n kc ks := by
  intro ad H locs ls h0 hP hD hS hL
  exact W.iret C.1 C.2.1 hr (fun t ht hW => ⟨⟨ad, h, n, some (.int v), h0, hn0, rfl, hPost, by rw [ht]; exact hP, hD⟩, hS.F ht⟩) hS.2.2 hd (hlocks := C.2.2.2.2.2.2.2.1)
theorem J_zreturn (C : Cx D dA A ad0 own cc nL p R s m args meth c) {v : Int32} (hr : meth.sig.returnType = some .boolean) (hv : v = 0 ∨ v = 1) (hn0 : n0 ≤ n) (hPost : Post (some (.int v)) h n) (hd : decode cc pc = .ok (.ireturn, 1)) : J D dA A ad0 n0 nL p l e R s m args below meth c (MQ below (zQc D dA A ad0 n0 Post) args s kc ks A) (pc) (lv) ([.int v]) (h) n kc ks := by
  intro ad H locs ls h0 hP hD hS hL
  exact W.zret C.1 C.2.1 hr (by rcases hv with rfl | rfl <;> rfl) (fun t ht hW => ⟨⟨ad, h, n, some (.int v), h0, hn0, rfl, hPost, by rw [ht]; exact hP, hD⟩, hS.F ht⟩) hS.2.2 hd (hlocks := C.2.2.2.2.2.2.2.1)
theorem J_areturn (C : Cx D dA A ad0 own cc nL p R s m args meth c) {x : Nat} {T : String} (hr : meth.sig.returnType = some (.object T)) (hn0 : n0 ≤ n) (hPost : Post (some (.ref x)) h n) (hd : decode cc pc = .ok (.areturn, 1)) : J D dA A ad0 n0 nL p l e R s m args below meth c (MQ below (zQc D dA A ad0 n0 Post) args s kc ks A) (pc) (lv) ([.ref x]) (h) n kc ks := by
  intro ad H locs ls h0 hP hD hS hL
  exact W.aret C.1 C.2.1 hr (Or.inl ⟨T, rfl⟩) (Or.inr ⟨_, rfl⟩) (fun t ht hW => ⟨⟨ad, h, n, some (.ref x), h0, hn0, rfl, hPost, by rw [ht]; exact hP, hD⟩, hS.F ht⟩) hS.2.2 hd (hlocks := C.2.2.2.2.2.2.2.1)
theorem J_return (C : Cx D dA A ad0 own cc nL p R s m args meth c) (hr : meth.sig.returnType = none) (hn0 : n0 ≤ n) (hPost : Post none h n) (hd : decode cc pc = .ok (.return_, 1)) : J D dA A ad0 n0 nL p l e R s m args below meth c (MQ below (zQc D dA A ad0 n0 Post) args s kc ks A) (pc) (lv) ([]) (h) n kc ks := by
  intro ad H locs ls h0 hP hD hS hL
  exact W.vret C.1 C.2.1 hr (fun t ht hW => ⟨⟨ad, h, n, none, h0, hn0, rfl, hPost, by rw [ht]; exact hP, hD⟩, hS.F ht⟩) hS.2.2 hd (hlocks := C.2.2.2.2.2.2.2.1)
-- calls
def ML (own : String) (idx : Nat) (k : zK) (np : Nat) : Prop := (Cond.methodLink own idx k.1 ∈ tb ∨ ∃ host, Cond.methodLinkNest own idx k.1 host ∈ tb) ∧ Cond.code k.1 k.2.1 k.2.2.1 k.2.2.2 ∈ tb ∧ Cond.initialized k.1.cls ∈ tb ∧ (k.1.cls ≠ "java/lang/invoke/MethodHandle" ∧ k.1.cls ≠ "java/lang/invoke/VarHandle") ∧ (parseMethodDescriptor k.1.desc).map (fun d => d.parameters.length) = some np
def MV (k : zK) (ci : Nat) : Prop := Cond.instanceMethod k.1 ∈ tb ∧ Cond.selects k.1.cls k.1 k.1 ∈ tb ∧ ∃ T N, cls[ci]? = some (k.1.cls, T, N)
def MI (k : zK) : Prop := k.1.name = "<init>" ∧ Cond.instanceMethod k.1 ∈ tb ∧ k.2.2.2 = none
/-- behind a call: the world that came back -/
theorem zAfter {mc ms n' : Nat} {h' : Nat → va_E} {as rest : List Value} {g : JFrame} {ls : Array Slot} {ad : Nat → Nat} {H : Heap} {locs : List Loc} {av : Array Value} (hrun : va_Run p l e R s m args below meth c H locs kc ks mc ms (F0 m pc ls as) rest (zQc D dA (zA ad n H.size) ad n Post av) (zA ad n H.size)) (hA : ∀ q, s.heap.size ≤ q → A q) (hP : va_P D cls (wl dA ad h n) H) (hD : va_D A (wl dA ad h n)) (hS : va_S A s.heap H locs)
    (kk : ∀ (v : Option Value) (ad' : Nat → Nat) (h' : Nat → va_E) (n' : Nat) (H1 : Heap) (locs1 : List Loc), (∀ k, k < n ∨ n' ≤ k → ad' k = ad k) → n ≤ n' → Post v h' n' → va_P D cls (wl dA ad' h' n') H1 → va_D A (wl dA ad' h' n') → va_S A s.heap H1 locs1 →
      W p l e R s m args below meth c H1 locs1 (kc + mc) (ks + ms) Q (F0 m (pc + 3) ls ((v.map (zV ad')).toList ++ rest))) : W p l e R s m args below meth c H locs kc ks Q (F0 m pc ls as) := by
  have hAA : ∀ q, zA ad n H.size q → A q := by
    rintro q (⟨k, hk, rfl⟩ | hq)
    · exact hD.2 k _ (wl_get hk)
    · exact hA q (Nat.le_trans hS.1 hq)
  intro T hT X
  obtain ⟨v, st₀, t, T', L, e0, X', hL', e1, e2, ⟨⟨ad', h', n', v', h0', hn', hv, hp, hP', hD'⟩, hz, hk⟩, st⟩ := hrun T hT X
  cases hv
  rw [e0] at hz hk
  obtain ⟨t2, a1, b1⟩ := kk v' ad' h' n' T'.heap (locs ++ L) h0' hn' hp (by rw [e1]; exact hP') (hD'.weaken (fun _ q _ hq => hAA _ hq))
    ⟨Nat.le_trans hS.1 (by rw [e1]; exact hz), fun q h1 h2 => by rw [e1, hk q (Nat.lt_of_lt_of_le h1 hS.1) (fun z => h2 (hAA q z))]; exact hS.2.1 q h1 h2, fun q hq => by
      rcases List.mem_append.mp hq with h | h
      · exact hS.2.2 q h
      · exact hAA _ (hL' q h)⟩ T' rfl X'
  exact ⟨t2, st t2 a1, b1⟩
theorem zPre (C : Cx D dA A ad0 own cc nL p R s m args meth c) {as : List Value} {ad : Nat → Nat} {H : Heap} {locs : List Loc} (h0 : ∀ k, k < n0 ∨ n ≤ k → ad k = ad0 k) (hn1 : n ≤ 1000) (hP : va_P D cls (wl dA ad h n) H) (hD : va_D A (wl dA ad h n)) (hS : va_S A s.heap H locs) : ∀ U : State, U.heap = H → s.WarmedH U.vm → zPc D dA ad h n H.size as (as.map (zV ad)).toArray U := by
  have hAA : ∀ q, zA ad n H.size q → A q := by
    rintro q (⟨k, hk, rfl⟩ | hq)
    · exact hD.2 k _ (wl_get hk)
    · exact C.2.2.2.2.2.2.1 q (Nat.le_trans hS.1 hq)
  intro U hU hW
  refine ⟨rfl, by rw [hU], by rw [hU]; exact hP, hD.weaken (fun _ _ _ _ => trivial), va_K.moved hW.alike C.2.2.2.2.2.1, C.2.2.2.2.2.2.2.2.2.1.move hW, ?_⟩
  rw [hU, h0 1000 (Or.inr hn1)]
  exact zRO.moved hW.alike ((C.2.2.2.2.2.2.2.2.1.kept (fun a h1 h2 => hS.2.1 a h1 h2)).narrow hAA)
theorem zCb (C : Cx D dA A ad0 own cc nL p R s m args meth c) {k : zK} {idx d mc ms np : Nat} (hk : Cond.code k.1 k.2.1 k.2.2.1 k.2.2.2 ∈ tb ∧ Cond.initialized k.1.cls ∈ tb ∧ (k.1.cls ≠ "java/lang/invoke/MethodHandle" ∧ k.1.cls ≠ "java/lang/invoke/VarHandle") ∧ (parseMethodDescriptor k.1.desc).map (fun d => d.parameters.length) = some np) (hl : Cond.methodLink own idx k.1 ∈ tb) (hR : d + 11 ≤ R.frames ∧ k.2.2.1 + 319 + 60 * d ≤ R.locals) : CallB R s args own idx k.1 k.2.1 k.2.2.1 k.2.2.2 [Cond.code k.1 k.2.1 k.2.2.1 k.2.2.2] (zR d mc ms) mc ms np := by
  obtain ⟨h1, h2, h3, h4⟩ := hk
  refine ⟨rfl, rfl, by show 10 + d + 1 ≤ _; omega, by show 8 + (k.2.2.1 + 11) + (300 + 60 * d) ≤ _; omega, fun w hw a' U hW => ?_, List.mem_singleton.mpr rfl, C.2.2.2.2.1 _ h1, C.2.2.2.2.1 _ h2, h3, fun sig hs => ?_, C.2.2.2.2.1 _ hl⟩
  · rw [List.mem_singleton.mp hw]
    exact zw_move (tb_ok h1) hW (C.2.2.2.2.1 _ h1)
  · rw [hs] at h4
    exact (Option.some.inj h4).symm
theorem zCn (C : Cx D dA A ad0 own cc nL p R s m args meth c) {k : zK} {idx d mc ms np : Nat} {host : String} (hk : Cond.code k.1 k.2.1 k.2.2.1 k.2.2.2 ∈ tb ∧ Cond.initialized k.1.cls ∈ tb ∧ (k.1.cls ≠ "java/lang/invoke/MethodHandle" ∧ k.1.cls ≠ "java/lang/invoke/VarHandle") ∧ (parseMethodDescriptor k.1.desc).map (fun d => d.parameters.length) = some np) (hl : Cond.methodLinkNest own idx k.1 host ∈ tb) (hR : d + 11 ≤ R.frames ∧ k.2.2.1 + 319 + 60 * d ≤ R.locals) : va_CN R s args own idx k.1 host k.2.1 k.2.2.1 k.2.2.2 [Cond.code k.1 k.2.1 k.2.2.1 k.2.2.2] (zR d mc ms) mc ms np := by
  obtain ⟨h1, h2, h3, h4⟩ := hk
  refine ⟨⟨rfl, rfl, by show 10 + d + 1 ≤ _; omega, by show 8 + (k.2.2.1 + 11) + (300 + 60 * d) ≤ _; omega, fun w hw a' U hW => ?_, List.mem_singleton.mpr rfl⟩, C.2.2.2.2.1 _ h1, C.2.2.2.2.1 _ h2, h3, fun sig hs => ?_, C.2.2.2.2.1 _ hl⟩
  · rw [List.mem_singleton.mp hw]
    exact zw_move (tb_ok h1) hW (C.2.2.2.2.1 _ h1)
  · rw [hs] at h4
    exact (Option.some.inj h4).symm
def zCat (st : List Value) : Nat := (st.map fun v => v.category).sum
theorem zCat_map {ad : Nat → Nat} (st : List Value) : ((st.map (zV ad)).map fun v => v.category).sum = zCat st := by
  unfold zCat
  rw [List.map_map]
  congr 1
  exact List.map_congr_left (fun v _ => zV_cat ad v)
theorem zRecv (C : Cx D dA A ad0 own cc nL p R s m args meth c) {ci b : Nat} {fs : List Value} {y : String} {ad : Nat → Nat} {H : Heap} (hc : ∃ T N, cls[ci]? = some (y, T, N)) (hb : b < n) (he : h b = .inr (ci, fs)) (hP : va_P D cls (wl dA ad h n) H) : ∃ cellB : Cell, H[ad b]? = some cellB ∧ cellB.vm.isStatics = false ∧ s.vm.findClass y = some cellB.cls := by
  obtain ⟨T, N, hc⟩ := hc
  have hw := wl_get (dA := dA) (ad := ad) (h := h) hb
  rw [he] at hw
  exact va_recv (q := (y, T, N)) C.2.2.2.2.2.1 hP hc hw
/-- a call of an instance method (no cells of the world are made) -/
theorem J_callV (C : Cx D dA A ad0 own cc nL p R s m args meth c) {k : zK} {idx d mc ms np ci b : Nat} {as fs : List Value} (hM : CT l D dA k d mc ms n (.ref b :: as) h Post) (hl : ML own idx k np) (hv : MV k ci) (hb : b < n) (he : h b = .inr (ci, fs)) (hn : as.length = np) (hn1 : n ≤ 1000) (hR : d + 11 ≤ R.frames ∧ k.2.2.1 + 319 + 60 * d ≤ R.locals) (hcap : kc + mc ≤ R.cells ∧ ks + ms ≤ R.slots) (hst : zCat st ≤ 8) (hPn : ∀ v h' n', Post v h' n' → n' = n) (hd : decode cc pc = .ok (.invokevirtual idx, 3))
    (kk : ∀ v h', Post v h' n → J D dA A ad0 n0 nL p l e R s m args below meth c Q (pc + 3) (lv) (v.toList ++ st) (h') n (kc + mc) (ks + ms)) : J D dA A ad0 n0 nL p l e R s m args below meth c Q (pc) (lv) (as.reverse ++ .ref b :: st) (h) n kc ks := by
  intro ad H locs ls h0 hP hD hS hL
  have hpre := zPre (as := .ref b :: as) C h0 hn1 hP hD hS
  have hstk : (as.reverse ++ .ref b :: st).map (zV ad) = (as.map (zV ad)).reverse ++ .ref (ad b) :: st.map (zV ad) := by simp [zV]
  have hrun : va_Run p l e R s m args below meth c H locs kc ks mc ms (F0 m pc ls ((as.reverse ++ .ref b :: st).map (zV ad))) (st.map (zV ad)) (zQc D dA (zA ad n H.size) ad n Post (Value.ref (ad b) :: as.map (zV ad)).toArray) (zA ad n H.size) := by
    rcases hl.1 with hlk | ⟨host, hlk⟩
    · exact va_runV (C := k.1.cls) (b := ad b) ⟨C.1, C.2.1, C.2.2.1, C.2.2.2.1, C.2.2.2.2.1⟩ (hM ad H.size) ⟨zCb C hl.2 hlk hR, C.2.2.2.2.1 _ hv.1, C.2.2.2.2.1 _ hv.2.1⟩ ⟨zPc_blind, zRecv C hv.2.2 hb he hP, hpre⟩ rfl (by rw [List.length_map]; exact hn) hL.1 hstk (lv_room (by rw [zCat_map]; exact hst)) hd hcap
    · exact va_runVN (C := k.1.cls) (b := ad b) ⟨C.1, C.2.1, C.2.2.1, C.2.2.2.1, C.2.2.2.2.1⟩ (hM ad H.size) ⟨zCn C hl.2 hlk hR, C.2.2.2.2.1 _ hv.1, C.2.2.2.2.1 _ hv.2.1⟩ ⟨zPc_blind, zRecv C hv.2.2 hb he hP, hpre⟩ rfl (by rw [List.length_map]; exact hn) hL.1 hstk (lv_room (by rw [zCat_map]; exact hst)) hd hcap
  refine zAfter (n' := n) (h' := h) (g := F0 m pc ls []) hrun C.2.2.2.2.2.2.1 hP hD hS ?_
  intro v ad' h' n' H1 locs1 ha hn' hp hP1 hD1 hS1
  obtain rfl := hPn v h' n' hp
  obtain rfl : ad' = ad := funext fun k => ha k (Nat.lt_or_ge k n')
  have e9 : (v.toList ++ st).map (zV ad') = (v.map (zV ad')).toList ++ st.map (zV ad') := by cases v <;> simp
  rw [← e9]
  exact kk v h' hp ad' H1 locs1 ls h0 hP1 hD1 hS1 hL
/-- a call of a static method -/
theorem J_callS (C : Cx D dA A ad0 own cc nL p R s m args meth c) {k : zK} {idx d mc ms np : Nat} {as : List Value} (hM : CT l D dA k d mc ms n as h Post) (hl : ML own idx k np) (hv : Cond.static k.1 ∈ tb) (hn : as.length = np) (hn1 : n ≤ 1000) (hR : d + 11 ≤ R.frames ∧ k.2.2.1 + 319 + 60 * d ≤ R.locals) (hcap : kc + mc ≤ R.cells ∧ ks + ms ≤ R.slots) (hst : zCat st ≤ 8) (hPn : ∀ v h' n', Post v h' n' → n' = n) (hd : decode cc pc = .ok (.invokestatic idx, 3))
    (kk : ∀ v h', Post v h' n → J D dA A ad0 n0 nL p l e R s m args below meth c Q (pc + 3) (lv) (v.toList ++ st) (h') n (kc + mc) (ks + ms)) : J D dA A ad0 n0 nL p l e R s m args below meth c Q (pc) (lv) (as.reverse ++ st) (h) n kc ks := by
  intro ad H locs ls h0 hP hD hS hL
  have hpre := zPre (as := as) C h0 hn1 hP hD hS
  have hstk : (as.reverse ++ st).map (zV ad) = (as.map (zV ad)).reverse ++ st.map (zV ad) := by simp
  have hrun : va_Run p l e R s m args below meth c H locs kc ks mc ms (F0 m pc ls ((as.reverse ++ st).map (zV ad))) (st.map (zV ad)) (zQc D dA (zA ad n H.size) ad n Post (as.map (zV ad)).toArray) (zA ad n H.size) := by
    rcases hl.1 with hlk | ⟨host, hlk⟩
    · exact va_runS ⟨C.1, C.2.1, C.2.2.1, C.2.2.2.1, C.2.2.2.2.1⟩ (hM ad H.size) ⟨zCb C hl.2 hlk hR, C.2.2.2.2.1 _ hv⟩ ⟨zPc_blind, hpre⟩ rfl (by rw [List.length_map]; exact hn) hL.1 hstk (lv_room (by rw [zCat_map]; exact hst)) hd hcap
    · exact va_runSN ⟨C.1, C.2.1, C.2.2.1, C.2.2.2.1, C.2.2.2.2.1⟩ (hM ad H.size) ⟨zCn C hl.2 hlk hR, C.2.2.2.2.1 _ hv, trivial⟩ ⟨zPc_blind, hpre⟩ rfl (by rw [List.length_map]; exact hn) hL.1 hstk (lv_room (by rw [zCat_map]; exact hst)) hd hcap
  refine zAfter (n' := n) (h' := h) (g := F0 m pc ls []) hrun C.2.2.2.2.2.2.1 hP hD hS ?_
  intro v ad' h' n' H1 locs1 ha hn' hp hP1 hD1 hS1
  obtain rfl := hPn v h' n' hp
  obtain rfl : ad' = ad := funext fun k => ha k (Nat.lt_or_ge k n')
  have e9 : (v.toList ++ st).map (zV ad') = (v.map (zV ad')).toList ++ st.map (zV ad') := by cases v <;> simp
  rw [← e9]
  exact kk v h' hp ad' H1 locs1 ls h0 hP1 hD1 hS1 hL
end ZC
end
section
abbrev Mem : Type := Nat → Nat → Int32
def mu (M : Mem) (p k : Nat) (v : Int32) : Mem := va_up M p (upd (M p) k v)
def ma (M : Mem) (p : Nat) (f : Nat → Int32) : Mem := va_up M p f
def zPk (x : Int32) : Nat := 7 + 2 * x.toNatClampNeg
def zT (x : Int32) : Value := match x.toNatClampNeg with
  | 0 => .null
  | k + 1 => .ref (61 + 2 * k)
def Ec (a : Nat) (r : Nat → Int32) : va_E :=
  if 7 ≤ a ∧ a < 55 then (if a % 2 = 1 then .inr (3, [.ref (a + 1), .int (r 1), .int (r 2), .int (r 3), .int (r 4)]) else .inl (0, 3, .inl r))
  else if 61 ≤ a ∧ a < 69 then (if a % 2 = 1 then .inr (6, [.ref (a + 1), .int (r 1), .int (r 2)]) else .inl (0, 60, .inl r))
  else if a = 0 then .inr (0, [.ref 1, .ref 2, .ref 3, .ref 55, .ref 69, .ref 73, .int (r 6)])
  else if a = 1 then .inr (1, [.int (r 0), .int (r 1), .int (r 2)])
  else if a = 2 then .inr (1, [.int (r 0), .int (r 1), .int (r 2)])
  else if a = 3 then .inr (2, [.ref 4, .ref 5, .ref 6, .int (r 3), .int (r 4), .int (r 5), .int (r 6), .int (r 7), .int (r 8), .int (r 9)])
  else if a = 4 then .inl (0, 480, .inl r)
  else if a = 5 then .inl (1, 24, .inl r)
  else if a = 6 then .inl (3, 24, .inr (.inr (.inr (.inr (fun j => some (zPk (r j)))))))
  else if a = 55 then .inr (4, [.ref 3, .ref 56, .ref 60, .int (r 3), .int (r 4), .int (r 5), .int (r 6), .int (r 7), zT (r 8), .int (r 9)])
  else if a = 56 then .inr (5, [.ref 57, .ref 58, .ref 59, .int (r 3), .int (r 4)])
  else if a = 57 then .inl (0, 60, .inl r)
  else if a = 58 then .inl (0, 8, .inl r)
  else if a = 59 then .inl (0, 8, .inl r)
  else if a = 60 then .inl (4, 4, .inr (.inr (.inr (.inr (fun j => some (61 + 2 * j))))))
  else if a = 69 then .inr (7, [.ref 70, .ref 71, .int (r 2)])
  else if a = 70 then .inl (0, 71, .inl r)
  else if a = 71 then .inr (8, [.ref 72, .int (r 1)])
  else if a = 72 then .inl (0, 64, .inl r)
  else if a = 73 then .inr (9, [.ref 74, .ref 75, .int (r 2)])
  else if a = 74 then .inl (0, 32, .inl r)
  else if a = 75 then .inl (0, 2, .inl r)
  else if a = 76 then .inr (10, [.int (r 0), .int (r 1), .ref 77, .int (r 3), .int (r 4), .ref 78, .int (r 6), .int (r 7), .int (r 8), .int (r 9), .int (r 10), .int (r 11), .ref 79, .ref 80, .ref 81, .int (r 15), .ref 82, .ref 83, .ref 84, .ref 85, .ref 86, .int (r 21), .int (r 22), .int (r 23), .ref 87, .int (r 25), .ref 88])
  else if a = 77 then .inl (0, 6, .inl r)
  else if a = 78 then .inl (0, 80, .inl r)
  else if a = 79 then .inl (1, 4, .inl r)
  else if a = 80 then .inl (0, 4, .inl r)
  else if a = 81 then .inl (0, 240, .inl r)
  else if a = 82 then .inl (0, 24, .inl r)
  else if a = 83 then .inl (0, 24, .inl r)
  else if a = 84 then .inl (0, 1440, .inl r)
  else if a = 85 then .inl (0, 72, .inl r)
  else if a = 86 then .inl (0, 24, .inl r)
  else if a = 87 then .inl (0, 32, .inl r)
  else if a = 88 then .inl (0, 2, .inl r)
  else .inl (2, 1, .inr (.inl (fun j => (r j).toInt64)))
def E (M : Mem) : Nat → va_E := fun a => Ec a (M a)
theorem e_0 (M : Mem) : E M 0 = .inr (0, [.ref 1, .ref 2, .ref 3, .ref 55, .ref 69, .ref 73, .int ((M 0) 6)]) := rfl
theorem e_1 (M : Mem) : E M 1 = .inr (1, [.int ((M 1) 0), .int ((M 1) 1), .int ((M 1) 2)]) := rfl
theorem e_2 (M : Mem) : E M 2 = .inr (1, [.int ((M 2) 0), .int ((M 2) 1), .int ((M 2) 2)]) := rfl
theorem e_3 (M : Mem) : E M 3 = .inr (2, [.ref 4, .ref 5, .ref 6, .int ((M 3) 3), .int ((M 3) 4), .int ((M 3) 5), .int ((M 3) 6), .int ((M 3) 7), .int ((M 3) 8), .int ((M 3) 9)]) := rfl
theorem e_4 (M : Mem) : E M 4 = .inl (0, 480, .inl (M 4)) := rfl
theorem e_5 (M : Mem) : E M 5 = .inl (1, 24, .inl (M 5)) := rfl
theorem e_6 (M : Mem) : E M 6 = .inl (3, 24, .inr (.inr (.inr (.inr (fun j => some (zPk ((M 6) j))))))) := rfl
theorem e_55 (M : Mem) : E M 55 = .inr (4, [.ref 3, .ref 56, .ref 60, .int ((M 55) 3), .int ((M 55) 4), .int ((M 55) 5), .int ((M 55) 6), .int ((M 55) 7), zT ((M 55) 8), .int ((M 55) 9)]) := rfl
theorem e_56 (M : Mem) : E M 56 = .inr (5, [.ref 57, .ref 58, .ref 59, .int ((M 56) 3), .int ((M 56) 4)]) := rfl
theorem e_57 (M : Mem) : E M 57 = .inl (0, 60, .inl (M 57)) := rfl
theorem e_58 (M : Mem) : E M 58 = .inl (0, 8, .inl (M 58)) := rfl
theorem e_59 (M : Mem) : E M 59 = .inl (0, 8, .inl (M 59)) := rfl
theorem e_60 (M : Mem) : E M 60 = .inl (4, 4, .inr (.inr (.inr (.inr (fun j => some (61 + 2 * j)))))) := rfl
theorem e_69 (M : Mem) : E M 69 = .inr (7, [.ref 70, .ref 71, .int ((M 69) 2)]) := rfl
theorem e_70 (M : Mem) : E M 70 = .inl (0, 71, .inl (M 70)) := rfl
theorem e_71 (M : Mem) : E M 71 = .inr (8, [.ref 72, .int ((M 71) 1)]) := rfl
theorem e_72 (M : Mem) : E M 72 = .inl (0, 64, .inl (M 72)) := rfl
theorem e_73 (M : Mem) : E M 73 = .inr (9, [.ref 74, .ref 75, .int ((M 73) 2)]) := rfl
theorem e_74 (M : Mem) : E M 74 = .inl (0, 32, .inl (M 74)) := rfl
theorem e_75 (M : Mem) : E M 75 = .inl (0, 2, .inl (M 75)) := rfl
theorem e_76 (M : Mem) : E M 76 = .inr (10, [.int ((M 76) 0), .int ((M 76) 1), .ref 77, .int ((M 76) 3), .int ((M 76) 4), .ref 78, .int ((M 76) 6), .int ((M 76) 7), .int ((M 76) 8), .int ((M 76) 9), .int ((M 76) 10), .int ((M 76) 11), .ref 79, .ref 80, .ref 81, .int ((M 76) 15), .ref 82, .ref 83, .ref 84, .ref 85, .ref 86, .int ((M 76) 21), .int ((M 76) 22), .int ((M 76) 23), .ref 87, .int ((M 76) 25), .ref 88]) := rfl
theorem e_77 (M : Mem) : E M 77 = .inl (0, 6, .inl (M 77)) := rfl
theorem e_78 (M : Mem) : E M 78 = .inl (0, 80, .inl (M 78)) := rfl
theorem e_79 (M : Mem) : E M 79 = .inl (1, 4, .inl (M 79)) := rfl
theorem e_80 (M : Mem) : E M 80 = .inl (0, 4, .inl (M 80)) := rfl
theorem e_81 (M : Mem) : E M 81 = .inl (0, 240, .inl (M 81)) := rfl
theorem e_82 (M : Mem) : E M 82 = .inl (0, 24, .inl (M 82)) := rfl
theorem e_83 (M : Mem) : E M 83 = .inl (0, 24, .inl (M 83)) := rfl
theorem e_84 (M : Mem) : E M 84 = .inl (0, 1440, .inl (M 84)) := rfl
theorem e_85 (M : Mem) : E M 85 = .inl (0, 72, .inl (M 85)) := rfl
theorem e_86 (M : Mem) : E M 86 = .inl (0, 24, .inl (M 86)) := rfl
theorem e_87 (M : Mem) : E M 87 = .inl (0, 32, .inl (M 87)) := rfl
theorem e_88 (M : Mem) : E M 88 = .inl (0, 2, .inl (M 88)) := rfl
theorem e_89 (M : Mem) : E M 89 = .inl (2, 1, .inr (.inl (fun j => ((M 89) j).toInt64))) := rfl
theorem E_mu (M : Mem) (p k : Nat) (v : Int32) : E (mu M p k v) = va_up (E M) p (Ec p (upd (M p) k v)) := by
  funext a
  by_cases h : a = p
  · subst h; simp [E, mu, va_up]
  · simp [E, mu, va_up, h]
theorem E_ma (M : Mem) (p : Nat) (f : Nat → Int32) : E (ma M p f) = va_up (E M) p (Ec p f) := by
  funext a
  by_cases h : a = p
  · subst h; simp [E, ma, va_up]
  · simp [E, ma, va_up, h]
def isI (p len : Nat) : Prop := p < 90 ∧ len < 2 ^ 31 ∧ ∀ r, Ec p r = .inl (0, len, .inl r)
def isZ (p len : Nat) : Prop := p < 90 ∧ len < 2 ^ 31 ∧ ∀ r, Ec p r = .inl (1, len, .inl r)
theorem a_4 : isI 4 480 := ⟨by decide, by decide, fun _ => rfl⟩
theorem a_57 : isI 57 60 := ⟨by decide, by decide, fun _ => rfl⟩
theorem a_58 : isI 58 8 := ⟨by decide, by decide, fun _ => rfl⟩
theorem a_59 : isI 59 8 := ⟨by decide, by decide, fun _ => rfl⟩
theorem a_70 : isI 70 71 := ⟨by decide, by decide, fun _ => rfl⟩
theorem a_72 : isI 72 64 := ⟨by decide, by decide, fun _ => rfl⟩
theorem a_74 : isI 74 32 := ⟨by decide, by decide, fun _ => rfl⟩
theorem a_75 : isI 75 2 := ⟨by decide, by decide, fun _ => rfl⟩
theorem a_77 : isI 77 6 := ⟨by decide, by decide, fun _ => rfl⟩
theorem a_78 : isI 78 80 := ⟨by decide, by decide, fun _ => rfl⟩
theorem a_80 : isI 80 4 := ⟨by decide, by decide, fun _ => rfl⟩
theorem a_81 : isI 81 240 := ⟨by decide, by decide, fun _ => rfl⟩
theorem a_82 : isI 82 24 := ⟨by decide, by decide, fun _ => rfl⟩
theorem a_83 : isI 83 24 := ⟨by decide, by decide, fun _ => rfl⟩
theorem a_84 : isI 84 1440 := ⟨by decide, by decide, fun _ => rfl⟩
theorem a_85 : isI 85 72 := ⟨by decide, by decide, fun _ => rfl⟩
theorem a_86 : isI 86 24 := ⟨by decide, by decide, fun _ => rfl⟩
theorem a_87 : isI 87 32 := ⟨by decide, by decide, fun _ => rfl⟩
theorem a_88 : isI 88 2 := ⟨by decide, by decide, fun _ => rfl⟩
theorem a_5 : isZ 5 24 := ⟨by decide, by decide, fun _ => rfl⟩
theorem a_79 : isZ 79 4 := ⟨by decide, by decide, fun _ => rfl⟩
theorem Ec_pk {j : Nat} (hj : j < 24) (r : Nat → Int32) : Ec (7 + 2 * j) r = .inr (3, [.ref (8 + 2 * j), .int (r 1), .int (r 2), .int (r 3), .int (r 4)]) := by
  unfold Ec
  rw [if_pos ⟨by omega, by omega⟩, if_pos (by omega), show 7 + 2 * j + 1 = 8 + 2 * j by omega]
theorem a_pb {j : Nat} (hj : j < 24) : isI (8 + 2 * j) 3 := ⟨by omega, by decide, fun r => by
  unfold Ec
  rw [if_pos ⟨by omega, by omega⟩, if_neg (by omega)]⟩
theorem Ec_st {j : Nat} (hj : j < 4) (r : Nat → Int32) : Ec (61 + 2 * j) r = .inr (6, [.ref (62 + 2 * j), .int (r 1), .int (r 2)]) := by
  unfold Ec
  rw [if_neg (by omega), if_pos ⟨by omega, by omega⟩, if_pos (by omega), show 61 + 2 * j + 1 = 62 + 2 * j by omega]
theorem a_sp {j : Nat} (hj : j < 4) : isI (62 + 2 * j) 60 := ⟨by omega, by decide, fun r => by
  unfold Ec
  rw [if_neg (by omega), if_pos ⟨by omega, by omega⟩, if_neg (by omega)]⟩
theorem e_pk (M : Mem) {j : Nat} (hj : j < 24) : E M (7 + 2 * j) = .inr (3, [.ref (8 + 2 * j), .int (M (7 + 2 * j) 1), .int (M (7 + 2 * j) 2), .int (M (7 + 2 * j) 3), .int (M (7 + 2 * j) 4)]) := Ec_pk hj _
theorem e_st (M : Mem) {j : Nat} (hj : j < 4) : E M (61 + 2 * j) = .inr (6, [.ref (62 + 2 * j), .int (M (61 + 2 * j) 1), .int (M (61 + 2 * j) 2)]) := Ec_st hj _
theorem zPk_nI {j : Nat} (hj : j < 24) : zPk (nI j) = 7 + 2 * j := by unfold zPk; rw [nI_clamp (by omega)]
theorem zT_0 : zT 0 = .null := rfl
theorem zT_s {j : Nat} (hj : j < 4) : zT (nI (j + 1)) = .ref (61 + 2 * j) := by unfold zT; rw [nI_clamp (by omega)]
theorem mu_same (M : Mem) (p k : Nat) (v : Int32) : mu M p k v p k = v := by simp [mu, va_up, upd]
theorem mu_k (M : Mem) (p : Nat) {k j : Nat} (v : Int32) (h : j ≠ k) : mu M p k v p j = M p j := by simp [mu, va_up, upd, h]
theorem mu_p (M : Mem) {p q : Nat} (k : Nat) (v : Int32) (h : q ≠ p) : mu M p k v q = M q := by simp [mu, va_up, h]
theorem mu_row (M : Mem) (p k : Nat) (v : Int32) : mu M p k v p = upd (M p) k v := by simp [mu, va_up]
theorem ma_row (M : Mem) (p : Nat) (f : Nat → Int32) : ma M p f p = f := by simp [ma, va_up]
theorem ma_p (M : Mem) {p q : Nat} (f : Nat → Int32) (h : q ≠ p) : ma M p f q = M q := by simp [ma, va_up, h]
section ZM
variable {D : va_G} {dA : Nat → ClassId} {A : Nat → Prop} {ad0 : Nat → Nat} {n0 nL : Nat} {p : Program} {l : Launch} {e : Env} {R : Room} {s : State} {m : MethodId} {args : Array Value} {below : List Frame} {meth : Method} {c : Code} {Q : State → Prop} {pc : Nat} {lv : List (Option Value)} {st : List Value} {h : Nat → va_E} {n kc ks : Nat} {own : String} {cc : ByteArray} {M : Mem} {Post : Option Value → (Nat → va_E) → Nat → Prop}
theorem K_put (C : Cx D dA A ad0 own cc nL p R s m args meth c) {idx ci k pos : Nat} {fty : FieldType} {fs : List Value} {v : Int32} {w : Value} (F : FG own idx ci k false fty) (hpos : pos < 90) (he : E M pos = .inr (ci, fs)) (hl : k < fs.length) (hw : ∀ ad, zV ad w = w ∨ True) (hn : ∀ ad, narrow fty (zV ad w) = zV ad w) (hf : ∀ ad, fits fty (zV ad w) = true) (hu : Ec pos (upd (M pos) k v) = .inr (ci, fs.set k w)) (hd : decode cc pc = .ok (.putfield idx, 3)) (kk : J D dA A ad0 n0 nL p l e R s m args below meth c Q (pc + 3) (lv) (st) (E (mu M pos k v)) 90 kc ks) : J D dA A ad0 n0 nL p l e R s m args below meth c Q (pc) (lv) (w :: .ref pos :: st) (E M) 90 kc ks := J_put C F hpos he hl hn hf hd (by rw [← hu, ← E_mu]; exact kk)
theorem K_putI (C : Cx D dA A ad0 own cc nL p R s m args meth c) {idx ci k pos : Nat} {fs : List Value} {v : Int32} (F : FG own idx ci k false .int) (hpos : pos < 90) (he : E M pos = .inr (ci, fs)) (hl : k < fs.length) (hu : Ec pos (upd (M pos) k v) = .inr (ci, fs.set k (.int v))) (hd : decode cc pc = .ok (.putfield idx, 3)) (kk : J D dA A ad0 n0 nL p l e R s m args below meth c Q (pc + 3) (lv) (st) (E (mu M pos k v)) 90 kc ks) : J D dA A ad0 n0 nL p l e R s m args below meth c Q (pc) (lv) (.int v :: .ref pos :: st) (E M) 90 kc ks := K_put C F hpos he hl (fun _ => Or.inr trivial) (fun _ => rfl) (fun _ => rfl) hu hd kk
theorem K_putZ (C : Cx D dA A ad0 own cc nL p R s m args meth c) {idx ci k pos : Nat} {fs : List Value} {v : Int32} (F : FG own idx ci k false .boolean) (hpos : pos < 90) (he : E M pos = .inr (ci, fs)) (hl : k < fs.length) (hz : v = 0 ∨ v = 1) (hu : Ec pos (upd (M pos) k v) = .inr (ci, fs.set k (.int v))) (hd : decode cc pc = .ok (.putfield idx, 3)) (kk : J D dA A ad0 n0 nL p l e R s m args below meth c Q (pc + 3) (lv) (st) (E (mu M pos k v)) 90 kc ks) : J D dA A ad0 n0 nL p l e R s m args below meth c Q (pc) (lv) (.int v :: .ref pos :: st) (E M) 90 kc ks := K_put C F hpos he hl (fun _ => Or.inr trivial) (fun _ => by rcases hz with rfl | rfl <;> rfl) (fun _ => by rcases hz with rfl | rfl <;> rfl) hu hd kk
theorem K_ial (C : Cx D dA A ad0 own cc nL p R s m args meth c) {pos len j : Nat} {i : Int32} (ha : isI pos len) (hj : i = nI j) (hlt : j < len) (hd : decode cc pc = .ok (.iaload, 1)) (kk : J D dA A ad0 n0 nL p l e R s m args below meth c Q (pc + 1) (lv) (.int (M pos j) :: st) (E M) 90 kc ks) : J D dA A ad0 n0 nL p l e R s m args below meth c Q (pc) (lv) (.int i :: .ref pos :: st) (E M) 90 kc ks := J_iaload C ha.1 (ha.2.2 _) (by rw [hj]; exact vp_in_nI hlt ha.2.1) hd (by rw [hj, nI_clamp (Nat.lt_trans hlt ha.2.1)]; exact kk)
theorem K_bal (C : Cx D dA A ad0 own cc nL p R s m args meth c) {pos len j : Nat} {i : Int32} (ha : isZ pos len) (hj : i = nI j) (hlt : j < len) (hd : decode cc pc = .ok (.baload, 1)) (kk : J D dA A ad0 n0 nL p l e R s m args below meth c Q (pc + 1) (lv) (.int (M pos j) :: st) (E M) 90 kc ks) : J D dA A ad0 n0 nL p l e R s m args below meth c Q (pc) (lv) (.int i :: .ref pos :: st) (E M) 90 kc ks := J_baload C ha.1 (ha.2.2 _) (by rw [hj]; exact vp_in_nI hlt ha.2.1) hd (by rw [hj, nI_clamp (Nat.lt_trans hlt ha.2.1)]; exact kk)
theorem K_ias (C : Cx D dA A ad0 own cc nL p R s m args meth c) {pos len j : Nat} {i x : Int32} (ha : isI pos len) (hj : i = nI j) (hlt : j < len) (hd : decode cc pc = .ok (.iastore, 1)) (kk : J D dA A ad0 n0 nL p l e R s m args below meth c Q (pc + 1) (lv) (st) (E (mu M pos j x)) 90 kc ks) : J D dA A ad0 n0 nL p l e R s m args below meth c Q (pc) (lv) (.int x :: .int i :: .ref pos :: st) (E M) 90 kc ks := J_iastore C ha.1 (ha.2.2 _) (by rw [hj]; exact vp_in_nI hlt ha.2.1) hd (by rw [hj, nI_clamp (Nat.lt_trans hlt ha.2.1), ← ha.2.2, ← E_mu]; exact kk)
theorem K_bas (C : Cx D dA A ad0 own cc nL p R s m args meth c) {pos len j : Nat} {i x : Int32} (ha : isZ pos len) (hj : i = nI j) (hlt : j < len) (hx : x = 0 ∨ x = 1) (hd : decode cc pc = .ok (.bastore, 1)) (kk : J D dA A ad0 n0 nL p l e R s m args below meth c Q (pc + 1) (lv) (st) (E (mu M pos j x)) 90 kc ks) : J D dA A ad0 n0 nL p l e R s m args below meth c Q (pc) (lv) (.int x :: .int i :: .ref pos :: st) (E M) 90 kc ks := J_bastore C ha.1 (ha.2.2 _) (by rw [hj]; exact vp_in_nI hlt ha.2.1) hd (by rw [hj, nI_clamp (Nat.lt_trans hlt ha.2.1), show vp_nar .boolean x = x by rcases hx with rfl | rfl <;> rfl, ← ha.2.2, ← E_mu]; exact kk)
theorem K_alen (C : Cx D dA A ad0 own cc nL p R s m args meth c) {pos len : Nat} (ha : isI pos len) (hd : decode cc pc = .ok (.arraylength, 1)) (kk : J D dA A ad0 n0 nL p l e R s m args below meth c Q (pc + 1) (lv) (.int (nI len) :: st) (E M) 90 kc ks) : J D dA A ad0 n0 nL p l e R s m args below meth c Q (pc) (lv) (.ref pos :: st) (E M) 90 kc ks := J_alen C ha.1 (ha.2.2 _) hd kk
theorem K_pkld (C : Cx D dA A ad0 own cc nL p R s m args meth c) {j x : Nat} {i : Int32} (hj : i = nI j) (hlt : j < 24) (hx : M 6 j = nI x) (hx2 : x < 24) (hd : decode cc pc = .ok (.aaload, 1)) (kk : J D dA A ad0 n0 nL p l e R s m args below meth c Q (pc + 1) (lv) (.ref (7 + 2 * x) :: st) (E M) 90 kc ks) : J D dA A ad0 n0 nL p l e R s m args below meth c Q (pc) (lv) (.int i :: .ref 6 :: st) (E M) 90 kc ks := J_aaload C (Or.inl rfl) (by decide) (e_6 M) (by rw [hj]; exact vp_in_nI hlt (by decide)) (by rw [hj, nI_clamp (by omega), hx, zPk_nI hx2]) hd kk
theorem K_pkst (C : Cx D dA A ad0 own cc nL p R s m args meth c) {j x : Nat} {i : Int32} (hj : i = nI j) (hlt : j < 24) (hx2 : x < 24) (hd : decode cc pc = .ok (.aastore, 1)) (kk : J D dA A ad0 n0 nL p l e R s m args below meth c Q (pc + 1) (lv) (st) (E (mu M 6 j (nI x))) 90 kc ks) : J D dA A ad0 n0 nL p l e R s m args below meth c Q (pc) (lv) (.ref (7 + 2 * x) :: .int i :: .ref 6 :: st) (E M) 90 kc ks := by
  refine J_aastore C (Or.inl ⟨rfl, rfl⟩) (by decide) (e_6 M) (by omega) (e_pk M hx2) (by rw [hj]; exact vp_in_nI hlt (by decide)) hd ?_
  have e1 : E (mu M 6 j (nI x)) = va_up (E M) 6 (.inl (3, 24, .inr (.inr (.inr (.inr (va_up (fun j => some (zPk (M 6 j))) i.toNatClampNeg (some (7 + 2 * x)))))))) := by
    rw [E_mu, hj, nI_clamp (by omega)]
    congr 1
    show Sum.inl (3, 24, Sum.inr (Sum.inr (Sum.inr (Sum.inr (fun a => some (zPk (upd (M 6) j (nI x) a))))))) = _
    have e2 : (fun a => some (zPk (upd (M 6) j (nI x) a))) = va_up (fun j => some (zPk (M 6 j))) j (some (7 + 2 * x)) := by
      funext a
      by_cases h : a = j
      · simp [upd, va_up, h, zPk_nI hx2]
      · simp [upd, va_up, h]
    rw [e2]
  rw [← e1]
  exact kk
theorem K_stld (C : Cx D dA A ad0 own cc nL p R s m args meth c) {j : Nat} {i : Int32} (hj : i = nI j) (hlt : j < 4) (hd : decode cc pc = .ok (.aaload, 1)) (kk : J D dA A ad0 n0 nL p l e R s m args below meth c Q (pc + 1) (lv) (.ref (61 + 2 * j) :: st) (E M) 90 kc ks) : J D dA A ad0 n0 nL p l e R s m args below meth c Q (pc) (lv) (.int i :: .ref 60 :: st) (E M) 90 kc ks := J_aaload C (Or.inr rfl) (by decide) (e_60 M) (by rw [hj]; exact vp_in_nI hlt (by decide)) (by rw [hj, nI_clamp (by omega)]) hd kk
/-- A CONTRACT OVER THE MEMORY -/
def CM (l : Launch) (D : va_G) (dA : Nat → ClassId) (k : zK) (d : Nat) (as : List Value) (M : Mem) (P : Option Value → Mem → Prop) : Prop := CT l D dA k d 0 0 90 as (E M) (fun v h' n' => n' = 90 ∧ ∃ M', h' = E M' ∧ P v M')
theorem K_callV (C : Cx D dA A ad0 own cc nL p R s m args meth c) {k : zK} {idx d np ci b : Nat} {as fs : List Value} {PP : Option Value → Mem → Prop} (hM : CM l D dA k d (.ref b :: as) M PP) (hl : ML own idx k np) (hv : MV k ci) (hb : b < 90) (he : E M b = .inr (ci, fs)) (hn : as.length = np) (hR : d + 11 ≤ R.frames ∧ k.2.2.1 + 319 + 60 * d ≤ R.locals) (hcap : kc + 0 ≤ R.cells ∧ ks + 0 ≤ R.slots) (hst : zCat st ≤ 8) (hd : decode cc pc = .ok (.invokevirtual idx, 3))
    (kk : ∀ v M', PP v M' → J D dA A ad0 n0 nL p l e R s m args below meth c Q (pc + 3) (lv) (v.toList ++ st) (E M') 90 kc ks) : J D dA A ad0 n0 nL p l e R s m args below meth c Q (pc) (lv) (as.reverse ++ .ref b :: st) (E M) 90 kc ks :=
  J_callV C hM hl hv hb he hn (by decide) hR hcap hst (fun _ _ _ q => q.1) hd (fun v h' q => by obtain ⟨-, M', rfl, q⟩ := q; exact kk v M' q)
theorem K_callS (C : Cx D dA A ad0 own cc nL p R s m args meth c) {k : zK} {idx d np : Nat} {as : List Value} {PP : Option Value → Mem → Prop} (hM : CM l D dA k d as M PP) (hl : ML own idx k np) (hv : Cond.static k.1 ∈ tb) (hn : as.length = np) (hR : d + 11 ≤ R.frames ∧ k.2.2.1 + 319 + 60 * d ≤ R.locals) (hcap : kc + 0 ≤ R.cells ∧ ks + 0 ≤ R.slots) (hst : zCat st ≤ 8) (hd : decode cc pc = .ok (.invokestatic idx, 3))
    (kk : ∀ v M', PP v M' → J D dA A ad0 n0 nL p l e R s m args below meth c Q (pc + 3) (lv) (v.toList ++ st) (E M') 90 kc ks) : J D dA A ad0 n0 nL p l e R s m args below meth c Q (pc) (lv) (as.reverse ++ st) (E M) 90 kc ks :=
  J_callS C hM hl hv hn (by decide) hR hcap hst (fun _ _ _ q => q.1) hd (fun v h' q => by obtain ⟨-, M', rfl, q⟩ := q; exact kk v M' q)
theorem K_iret (C : Cx D dA A ad0 own cc nL p R s m args meth c) {PP : Option Value → Mem → Prop} {v : Int32} (hr : meth.sig.returnType = some .int) (hP : PP (some (.int v)) M) (hd : decode cc pc = .ok (.ireturn, 1)) : J D dA A ad0 90 nL p l e R s m args below meth c (MQ below (zQc D dA A ad0 90 (fun v h' n' => n' = 90 ∧ ∃ M', h' = E M' ∧ PP v M')) args s 0 0 A) pc lv ([.int v]) (E M) 90 0 0 := J_ireturn C hr (Nat.le_refl _) ⟨rfl, M, rfl, hP⟩ hd
theorem K_zret (C : Cx D dA A ad0 own cc nL p R s m args meth c) {PP : Option Value → Mem → Prop} {v : Int32} (hr : meth.sig.returnType = some .boolean) (hv : v = 0 ∨ v = 1) (hP : PP (some (.int v)) M) (hd : decode cc pc = .ok (.ireturn, 1)) : J D dA A ad0 90 nL p l e R s m args below meth c (MQ below (zQc D dA A ad0 90 (fun v h' n' => n' = 90 ∧ ∃ M', h' = E M' ∧ PP v M')) args s 0 0 A) pc lv ([.int v]) (E M) 90 0 0 := J_zreturn C hr hv (Nat.le_refl _) ⟨rfl, M, rfl, hP⟩ hd
theorem K_aret (C : Cx D dA A ad0 own cc nL p R s m args meth c) {PP : Option Value → Mem → Prop} {x : Nat} {T : String} (hr : meth.sig.returnType = some (.object T)) (hP : PP (some (.ref x)) M) (hd : decode cc pc = .ok (.areturn, 1)) : J D dA A ad0 90 nL p l e R s m args below meth c (MQ below (zQc D dA A ad0 90 (fun v h' n' => n' = 90 ∧ ∃ M', h' = E M' ∧ PP v M')) args s 0 0 A) pc lv ([.ref x]) (E M) 90 0 0 := J_areturn C hr (Nat.le_refl _) ⟨rfl, M, rfl, hP⟩ hd
theorem K_ret (C : Cx D dA A ad0 own cc nL p R s m args meth c) {PP : Option Value → Mem → Prop} (hr : meth.sig.returnType = none) (hP : PP none M) (hd : decode cc pc = .ok (.return_, 1)) : J D dA A ad0 90 nL p l e R s m args below meth c (MQ below (zQc D dA A ad0 90 (fun v h' n' => n' = 90 ∧ ∃ M', h' = E M' ∧ PP v M')) args s 0 0 A) pc lv ([]) (E M) 90 0 0 := J_return C hr (Nat.le_refl _) ⟨rfl, M, rfl, hP⟩ hd
end ZM
end
