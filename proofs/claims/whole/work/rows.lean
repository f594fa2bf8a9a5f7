section
-- ===== PART A: goes FIRST, ahead of the names: the tables' words, and 'selects' of the private methods out of them =====
/-- a private method of a class that the tables say can be made, by its rows of tables_1 -/
def lw_okq (q : MethodName × Nat) : Prop := (q.1.cls ≠ "java/lang/invoke/MethodHandle" ∧ q.1.cls ≠ "java/lang/invoke/VarHandle") ∧ Cond.instantiable q.1.cls q.2 ∈ tables_1 ∧ Cond.privateMethod q.1 ∈ tables_1 ∧ Cond.instanceMethod q.1 ∈ tables_1
theorem lw_p0 : lw_okq (⟨"RelayOrbiter$Session", "forgetSegments", "()V"⟩, 10) := ⟨⟨by decide +kernel, by decide +kernel⟩, List.mem_of_getElem? (i := 143) (by decide +kernel), List.mem_of_getElem? (i := 309) (by decide +kernel), List.mem_of_getElem? (i := 310) (by decide +kernel)⟩
theorem lw_p1 : lw_okq (⟨"java/lang/Throwable", "fillInStackTrace", "(I)Ljava/lang/Throwable;"⟩, 6) := ⟨⟨by decide +kernel, by decide +kernel⟩, List.mem_of_getElem? (i := 376) (by decide +kernel), List.mem_of_getElem? (i := 374) (by decide +kernel), List.mem_of_getElem? (i := 375) (by decide +kernel)⟩
theorem lw_p2 : lw_okq (⟨"RelayOrbiter", "windowOf", "(I)LRelayOrbiter$Window;"⟩, 7) := ⟨⟨by decide +kernel, by decide +kernel⟩, List.mem_of_getElem? (i := 32) (by decide +kernel), List.mem_of_getElem? (i := 402) (by decide +kernel), List.mem_of_getElem? (i := 403) (by decide +kernel)⟩
theorem lw_p3 : lw_okq (⟨"RelayOrbiter", "takeFrames", "()I"⟩, 7) := ⟨⟨by decide +kernel, by decide +kernel⟩, List.mem_of_getElem? (i := 32) (by decide +kernel), List.mem_of_getElem? (i := 455) (by decide +kernel), List.mem_of_getElem? (i := 456) (by decide +kernel)⟩
theorem lw_p4 : lw_okq (⟨"RelayOrbiter$LanderLink", "toldLength", "()I"⟩, 3) := ⟨⟨by decide +kernel, by decide +kernel⟩, List.mem_of_getElem? (i := 228) (by decide +kernel), List.mem_of_getElem? (i := 465) (by decide +kernel), List.mem_of_getElem? (i := 466) (by decide +kernel)⟩
theorem lw_p5 : lw_okq (⟨"RelayOrbiter$LanderLink", "checkHolds", "(I)Z"⟩, 3) := ⟨⟨by decide +kernel, by decide +kernel⟩, List.mem_of_getElem? (i := 228) (by decide +kernel), List.mem_of_getElem? (i := 469) (by decide +kernel), List.mem_of_getElem? (i := 470) (by decide +kernel)⟩
theorem lw_p6 : lw_okq (⟨"RelayOrbiter$Session", "obey", "(LRelayOrbiter$Frame;)V"⟩, 10) := ⟨⟨by decide +kernel, by decide +kernel⟩, List.mem_of_getElem? (i := 143) (by decide +kernel), List.mem_of_getElem? (i := 513) (by decide +kernel), List.mem_of_getElem? (i := 514) (by decide +kernel)⟩
theorem lw_p7 : lw_okq (⟨"RelayOrbiter$Session", "begin", "(I)V"⟩, 10) := ⟨⟨by decide +kernel, by decide +kernel⟩, List.mem_of_getElem? (i := 143) (by decide +kernel), List.mem_of_getElem? (i := 529) (by decide +kernel), List.mem_of_getElem? (i := 530) (by decide +kernel)⟩
theorem lw_p8 : lw_okq (⟨"RelayOrbiter$Session", "isOnFor", "(LRelayOrbiter$Frame;)Z"⟩, 10) := ⟨⟨by decide +kernel, by decide +kernel⟩, List.mem_of_getElem? (i := 143) (by decide +kernel), List.mem_of_getElem? (i := 533) (by decide +kernel), List.mem_of_getElem? (i := 534) (by decide +kernel)⟩
theorem lw_p9 : lw_okq (⟨"RelayOrbiter$Session", "gather", "(LRelayOrbiter$Frame;)V"⟩, 10) := ⟨⟨by decide +kernel, by decide +kernel⟩, List.mem_of_getElem? (i := 143) (by decide +kernel), List.mem_of_getElem? (i := 537) (by decide +kernel), List.mem_of_getElem? (i := 538) (by decide +kernel)⟩
theorem lw_p10 : lw_okq (⟨"RelayOrbiter$Session", "appendData", "(LRelayOrbiter$Frame;I)V"⟩, 10) := ⟨⟨by decide +kernel, by decide +kernel⟩, List.mem_of_getElem? (i := 143) (by decide +kernel), List.mem_of_getElem? (i := 549) (by decide +kernel), List.mem_of_getElem? (i := 550) (by decide +kernel)⟩
theorem lw_p11 : lw_okq (⟨"RelayOrbiter$Harvest", "packetLengthAt", "(I)I"⟩, 5) := ⟨⟨by decide +kernel, by decide +kernel⟩, List.mem_of_getElem? (i := 149) (by decide +kernel), List.mem_of_getElem? (i := 561) (by decide +kernel), List.mem_of_getElem? (i := 562) (by decide +kernel)⟩
theorem lw_p12 : lw_okq (⟨"RelayOrbiter$Session", "gatherSegment", "(LRelayOrbiter$Frame;)V"⟩, 10) := ⟨⟨by decide +kernel, by decide +kernel⟩, List.mem_of_getElem? (i := 143) (by decide +kernel), List.mem_of_getElem? (i := 565) (by decide +kernel), List.mem_of_getElem? (i := 566) (by decide +kernel)⟩
theorem lw_p13 : lw_okq (⟨"RelayOrbiter$Session", "admitExpedited", "()Z"⟩, 10) := ⟨⟨by decide +kernel, by decide +kernel⟩, List.mem_of_getElem? (i := 143) (by decide +kernel), List.mem_of_getElem? (i := 577) (by decide +kernel), List.mem_of_getElem? (i := 578) (by decide +kernel)⟩
theorem lw_p14 : lw_okq (⟨"RelayOrbiter$Session", "admitSequenced", "(I)Z"⟩, 10) := ⟨⟨by decide +kernel, by decide +kernel⟩, List.mem_of_getElem? (i := 143) (by decide +kernel), List.mem_of_getElem? (i := 585) (by decide +kernel), List.mem_of_getElem? (i := 586) (by decide +kernel)⟩
theorem lw_p15 : lw_okq (⟨"RelayOrbiter$Session", "settleStream", "()V"⟩, 10) := ⟨⟨by decide +kernel, by decide +kernel⟩, List.mem_of_getElem? (i := 143) (by decide +kernel), List.mem_of_getElem? (i := 598) (by decide +kernel), List.mem_of_getElem? (i := 599) (by decide +kernel)⟩
def lw_privs_1 : List (MethodName × Nat) := [(⟨"RelayOrbiter$Session", "forgetSegments", "()V"⟩, 10), (⟨"java/lang/Throwable", "fillInStackTrace", "(I)Ljava/lang/Throwable;"⟩, 6), (⟨"RelayOrbiter", "windowOf", "(I)LRelayOrbiter$Window;"⟩, 7), (⟨"RelayOrbiter", "takeFrames", "()I"⟩, 7), (⟨"RelayOrbiter$LanderLink", "toldLength", "()I"⟩, 3), (⟨"RelayOrbiter$LanderLink", "checkHolds", "(I)Z"⟩, 3), (⟨"RelayOrbiter$Session", "obey", "(LRelayOrbiter$Frame;)V"⟩, 10), (⟨"RelayOrbiter$Session", "begin", "(I)V"⟩, 10), (⟨"RelayOrbiter$Session", "isOnFor", "(LRelayOrbiter$Frame;)Z"⟩, 10), (⟨"RelayOrbiter$Session", "gather", "(LRelayOrbiter$Frame;)V"⟩, 10), (⟨"RelayOrbiter$Session", "appendData", "(LRelayOrbiter$Frame;I)V"⟩, 10), (⟨"RelayOrbiter$Harvest", "packetLengthAt", "(I)I"⟩, 5), (⟨"RelayOrbiter$Session", "gatherSegment", "(LRelayOrbiter$Frame;)V"⟩, 10), (⟨"RelayOrbiter$Session", "admitExpedited", "()Z"⟩, 10), (⟨"RelayOrbiter$Session", "admitSequenced", "(I)Z"⟩, 10), (⟨"RelayOrbiter$Session", "settleStream", "()V"⟩, 10)]
theorem lw_r1 : ∀ q ∈ lw_privs_1, lw_okq q := List.forall_mem_cons.mpr ⟨lw_p0, List.forall_mem_cons.mpr ⟨lw_p1, List.forall_mem_cons.mpr ⟨lw_p2, List.forall_mem_cons.mpr ⟨lw_p3, List.forall_mem_cons.mpr ⟨lw_p4, List.forall_mem_cons.mpr ⟨lw_p5, List.forall_mem_cons.mpr ⟨lw_p6, List.forall_mem_cons.mpr ⟨lw_p7, List.forall_mem_cons.mpr ⟨lw_p8, List.forall_mem_cons.mpr ⟨lw_p9, List.forall_mem_cons.mpr ⟨lw_p10, List.forall_mem_cons.mpr ⟨lw_p11, List.forall_mem_cons.mpr ⟨lw_p12, List.forall_mem_cons.mpr ⟨lw_p13, List.forall_mem_cons.mpr ⟨lw_p14, List.forall_mem_cons.mpr ⟨lw_p15, fun _ h => absurd h List.not_mem_nil⟩⟩⟩⟩⟩⟩⟩⟩⟩⟩⟩⟩⟩⟩⟩⟩
theorem lw_p16 : lw_okq (⟨"RelayOrbiter$Session", "keepWhatFits", "()V"⟩, 10) := ⟨⟨by decide +kernel, by decide +kernel⟩, List.mem_of_getElem? (i := 143) (by decide +kernel), List.mem_of_getElem? (i := 607) (by decide +kernel), List.mem_of_getElem? (i := 608) (by decide +kernel)⟩
theorem lw_p17 : lw_okq (⟨"RelayOrbiter$Store", "writeBlocks", "(LRelayOrbiter$Packet;[II)V"⟩, 10) := ⟨⟨by decide +kernel, by decide +kernel⟩, List.mem_of_getElem? (i := 56) (by decide +kernel), List.mem_of_getElem? (i := 617) (by decide +kernel), List.mem_of_getElem? (i := 618) (by decide +kernel)⟩
theorem lw_p18 : lw_okq (⟨"RelayOrbiter$Store", "write", "()V"⟩, 10) := ⟨⟨by decide +kernel, by decide +kernel⟩, List.mem_of_getElem? (i := 56) (by decide +kernel), List.mem_of_getElem? (i := 623) (by decide +kernel), List.mem_of_getElem? (i := 624) (by decide +kernel)⟩
theorem lw_p19 : lw_okq (⟨"RelayOrbiter$Store", "renewFullJournal", "()V"⟩, 10) := ⟨⟨by decide +kernel, by decide +kernel⟩, List.mem_of_getElem? (i := 56) (by decide +kernel), List.mem_of_getElem? (i := 627) (by decide +kernel), List.mem_of_getElem? (i := 628) (by decide +kernel)⟩
theorem lw_p20 : lw_okq (⟨"RelayOrbiter$Store", "enterAdded", "(LRelayOrbiter$Packet;)V"⟩, 10) := ⟨⟨by decide +kernel, by decide +kernel⟩, List.mem_of_getElem? (i := 56) (by decide +kernel), List.mem_of_getElem? (i := 631) (by decide +kernel), List.mem_of_getElem? (i := 632) (by decide +kernel)⟩
theorem lw_p21 : lw_okq (⟨"RelayOrbiter$Store", "markBlocks", "(LRelayOrbiter$Packet;Z)V"⟩, 10) := ⟨⟨by decide +kernel, by decide +kernel⟩, List.mem_of_getElem? (i := 56) (by decide +kernel), List.mem_of_getElem? (i := 635) (by decide +kernel), List.mem_of_getElem? (i := 636) (by decide +kernel)⟩
theorem lw_p22 : lw_okq (⟨"RelayOrbiter$EarthLink", "putNumber", "(III)V"⟩, 3) := ⟨⟨by decide +kernel, by decide +kernel⟩, List.mem_of_getElem? (i := 258) (by decide +kernel), List.mem_of_getElem? (i := 678) (by decide +kernel), List.mem_of_getElem? (i := 679) (by decide +kernel)⟩
theorem lw_p23 : lw_okq (⟨"RelayOrbiter$EarthLink", "fillZone", "(ILRelayOrbiter$Store;)I"⟩, 3) := ⟨⟨by decide +kernel, by decide +kernel⟩, List.mem_of_getElem? (i := 258) (by decide +kernel), List.mem_of_getElem? (i := 682) (by decide +kernel), List.mem_of_getElem? (i := 683) (by decide +kernel)⟩
theorem lw_p24 : lw_okq (⟨"RelayOrbiter$EarthLink", "emitPart", "(LRelayOrbiter$Packet;ILRelayOrbiter$Store;)I"⟩, 3) := ⟨⟨by decide +kernel, by decide +kernel⟩, List.mem_of_getElem? (i := 258) (by decide +kernel), List.mem_of_getElem? (i := 965) (by decide +kernel), List.mem_of_getElem? (i := 966) (by decide +kernel)⟩
theorem lw_p25 : lw_okq (⟨"RelayOrbiter$Store", "enterDropped", "(I)V"⟩, 10) := ⟨⟨by decide +kernel, by decide +kernel⟩, List.mem_of_getElem? (i := 56) (by decide +kernel), List.mem_of_getElem? (i := 979) (by decide +kernel), List.mem_of_getElem? (i := 980) (by decide +kernel)⟩
theorem lw_p26 : lw_okq (⟨"RelayOrbiterModel", "seenBy", "(I)Z"⟩, 27) := ⟨⟨by decide +kernel, by decide +kernel⟩, List.mem_of_getElem? (i := 1043) (by decide +kernel), List.mem_of_getElem? (i := 1147) (by decide +kernel), List.mem_of_getElem? (i := 1148) (by decide +kernel)⟩
theorem lw_p27 : lw_okq (⟨"RelayOrbiterModel", "byteIn", "(I)I"⟩, 27) := ⟨⟨by decide +kernel, by decide +kernel⟩, List.mem_of_getElem? (i := 1043) (by decide +kernel), List.mem_of_getElem? (i := 1155) (by decide +kernel), List.mem_of_getElem? (i := 1156) (by decide +kernel)⟩
theorem lw_p28 : lw_okq (⟨"RelayOrbiterModel", "look", "()I"⟩, 27) := ⟨⟨by decide +kernel, by decide +kernel⟩, List.mem_of_getElem? (i := 1043) (by decide +kernel), List.mem_of_getElem? (i := 1159) (by decide +kernel), List.mem_of_getElem? (i := 1160) (by decide +kernel)⟩
theorem lw_p29 : lw_okq (⟨"RelayOrbiterModel", "checked", "(I)Z"⟩, 27) := ⟨⟨by decide +kernel, by decide +kernel⟩, List.mem_of_getElem? (i := 1043) (by decide +kernel), List.mem_of_getElem? (i := 1163) (by decide +kernel), List.mem_of_getElem? (i := 1164) (by decide +kernel)⟩
theorem lw_p30 : lw_okq (⟨"RelayOrbiterModel", "taken", "(I)V"⟩, 27) := ⟨⟨by decide +kernel, by decide +kernel⟩, List.mem_of_getElem? (i := 1043) (by decide +kernel), List.mem_of_getElem? (i := 1168) (by decide +kernel), List.mem_of_getElem? (i := 1169) (by decide +kernel)⟩
theorem lw_p31 : lw_okq (⟨"RelayOrbiterModel", "directive", "(III)V"⟩, 27) := ⟨⟨by decide +kernel, by decide +kernel⟩, List.mem_of_getElem? (i := 1043) (by decide +kernel), List.mem_of_getElem? (i := 1172) (by decide +kernel), List.mem_of_getElem? (i := 1173) (by decide +kernel)⟩
def lw_privs_2 : List (MethodName × Nat) := [(⟨"RelayOrbiter$Session", "keepWhatFits", "()V"⟩, 10), (⟨"RelayOrbiter$Store", "writeBlocks", "(LRelayOrbiter$Packet;[II)V"⟩, 10), (⟨"RelayOrbiter$Store", "write", "()V"⟩, 10), (⟨"RelayOrbiter$Store", "renewFullJournal", "()V"⟩, 10), (⟨"RelayOrbiter$Store", "enterAdded", "(LRelayOrbiter$Packet;)V"⟩, 10), (⟨"RelayOrbiter$Store", "markBlocks", "(LRelayOrbiter$Packet;Z)V"⟩, 10), (⟨"RelayOrbiter$EarthLink", "putNumber", "(III)V"⟩, 3), (⟨"RelayOrbiter$EarthLink", "fillZone", "(ILRelayOrbiter$Store;)I"⟩, 3), (⟨"RelayOrbiter$EarthLink", "emitPart", "(LRelayOrbiter$Packet;ILRelayOrbiter$Store;)I"⟩, 3), (⟨"RelayOrbiter$Store", "enterDropped", "(I)V"⟩, 10), (⟨"RelayOrbiterModel", "seenBy", "(I)Z"⟩, 27), (⟨"RelayOrbiterModel", "byteIn", "(I)I"⟩, 27), (⟨"RelayOrbiterModel", "look", "()I"⟩, 27), (⟨"RelayOrbiterModel", "checked", "(I)Z"⟩, 27), (⟨"RelayOrbiterModel", "taken", "(I)V"⟩, 27), (⟨"RelayOrbiterModel", "directive", "(III)V"⟩, 27)]
theorem lw_r2 : ∀ q ∈ lw_privs_2, lw_okq q := List.forall_mem_cons.mpr ⟨lw_p16, List.forall_mem_cons.mpr ⟨lw_p17, List.forall_mem_cons.mpr ⟨lw_p18, List.forall_mem_cons.mpr ⟨lw_p19, List.forall_mem_cons.mpr ⟨lw_p20, List.forall_mem_cons.mpr ⟨lw_p21, List.forall_mem_cons.mpr ⟨lw_p22, List.forall_mem_cons.mpr ⟨lw_p23, List.forall_mem_cons.mpr ⟨lw_p24, List.forall_mem_cons.mpr ⟨lw_p25, List.forall_mem_cons.mpr ⟨lw_p26, List.forall_mem_cons.mpr ⟨lw_p27, List.forall_mem_cons.mpr ⟨lw_p28, List.forall_mem_cons.mpr ⟨lw_p29, List.forall_mem_cons.mpr ⟨lw_p30, List.forall_mem_cons.mpr ⟨lw_p31, fun _ h => absurd h List.not_mem_nil⟩⟩⟩⟩⟩⟩⟩⟩⟩⟩⟩⟩⟩⟩⟩⟩
theorem lw_p32 : lw_okq (⟨"RelayOrbiterModel", "packetsIn", "(IIZ)Z"⟩, 27) := ⟨⟨by decide +kernel, by decide +kernel⟩, List.mem_of_getElem? (i := 1043) (by decide +kernel), List.mem_of_getElem? (i := 1176) (by decide +kernel), List.mem_of_getElem? (i := 1177) (by decide +kernel)⟩
theorem lw_p33 : lw_okq (⟨"RelayOrbiterModel", "freeBlocks", "()I"⟩, 27) := ⟨⟨by decide +kernel, by decide +kernel⟩, List.mem_of_getElem? (i := 1043) (by decide +kernel), List.mem_of_getElem? (i := 1186) (by decide +kernel), List.mem_of_getElem? (i := 1187) (by decide +kernel)⟩
theorem lw_p34 : lw_okq (⟨"RelayOrbiterModel", "isFree", "(I)Z"⟩, 27) := ⟨⟨by decide +kernel, by decide +kernel⟩, List.mem_of_getElem? (i := 1043) (by decide +kernel), List.mem_of_getElem? (i := 1190) (by decide +kernel), List.mem_of_getElem? (i := 1191) (by decide +kernel)⟩
theorem lw_p35 : lw_okq (⟨"RelayOrbiterModel", "keepPacket", "([III)V"⟩, 27) := ⟨⟨by decide +kernel, by decide +kernel⟩, List.mem_of_getElem? (i := 1043) (by decide +kernel), List.mem_of_getElem? (i := 1194) (by decide +kernel), List.mem_of_getElem? (i := 1195) (by decide +kernel)⟩
theorem lw_p36 : lw_okq (⟨"RelayOrbiterModel", "write", "()Z"⟩, 27) := ⟨⟨by decide +kernel, by decide +kernel⟩, List.mem_of_getElem? (i := 1043) (by decide +kernel), List.mem_of_getElem? (i := 1198) (by decide +kernel), List.mem_of_getElem? (i := 1199) (by decide +kernel)⟩
theorem lw_p37 : lw_okq (⟨"RelayOrbiterModel", "journal", "()Z"⟩, 27) := ⟨⟨by decide +kernel, by decide +kernel⟩, List.mem_of_getElem? (i := 1043) (by decide +kernel), List.mem_of_getElem? (i := 1202) (by decide +kernel), List.mem_of_getElem? (i := 1203) (by decide +kernel)⟩
theorem lw_p38 : lw_okq (⟨"RelayOrbiterModel", "segmentIn", "(IIZ)Z"⟩, 27) := ⟨⟨by decide +kernel, by decide +kernel⟩, List.mem_of_getElem? (i := 1043) (by decide +kernel), List.mem_of_getElem? (i := 1206) (by decide +kernel), List.mem_of_getElem? (i := 1207) (by decide +kernel)⟩
theorem lw_p39 : lw_okq (⟨"RelayOrbiterModel", "goesOn", "(III)Z"⟩, 27) := ⟨⟨by decide +kernel, by decide +kernel⟩, List.mem_of_getElem? (i := 1043) (by decide +kernel), List.mem_of_getElem? (i := 1210) (by decide +kernel), List.mem_of_getElem? (i := 1211) (by decide +kernel)⟩
theorem lw_p40 : lw_okq (⟨"RelayOrbiterModel", "leave", "(I)V"⟩, 27) := ⟨⟨by decide +kernel, by decide +kernel⟩, List.mem_of_getElem? (i := 1043) (by decide +kernel), List.mem_of_getElem? (i := 1214) (by decide +kernel), List.mem_of_getElem? (i := 1215) (by decide +kernel)⟩
theorem lw_p41 : lw_okq (⟨"RelayOrbiterModel", "fill", "(I)V"⟩, 27) := ⟨⟨by decide +kernel, by decide +kernel⟩, List.mem_of_getElem? (i := 1043) (by decide +kernel), List.mem_of_getElem? (i := 1228) (by decide +kernel), List.mem_of_getElem? (i := 1229) (by decide +kernel)⟩
theorem lw_p42 : lw_okq (⟨"RelayOrbiterModel", "check16", "()V"⟩, 27) := ⟨⟨by decide +kernel, by decide +kernel⟩, List.mem_of_getElem? (i := 1043) (by decide +kernel), List.mem_of_getElem? (i := 1232) (by decide +kernel), List.mem_of_getElem? (i := 1233) (by decide +kernel)⟩
theorem lw_p43 : lw_okq (⟨"RelayOrbiterModel", "drop", "(I)V"⟩, 27) := ⟨⟨by decide +kernel, by decide +kernel⟩, List.mem_of_getElem? (i := 1043) (by decide +kernel), List.mem_of_getElem? (i := 1237) (by decide +kernel), List.mem_of_getElem? (i := 1238) (by decide +kernel)⟩
def lw_privs_3 : List (MethodName × Nat) := [(⟨"RelayOrbiterModel", "packetsIn", "(IIZ)Z"⟩, 27), (⟨"RelayOrbiterModel", "freeBlocks", "()I"⟩, 27), (⟨"RelayOrbiterModel", "isFree", "(I)Z"⟩, 27), (⟨"RelayOrbiterModel", "keepPacket", "([III)V"⟩, 27), (⟨"RelayOrbiterModel", "write", "()Z"⟩, 27), (⟨"RelayOrbiterModel", "journal", "()Z"⟩, 27), (⟨"RelayOrbiterModel", "segmentIn", "(IIZ)Z"⟩, 27), (⟨"RelayOrbiterModel", "goesOn", "(III)Z"⟩, 27), (⟨"RelayOrbiterModel", "leave", "(I)V"⟩, 27), (⟨"RelayOrbiterModel", "fill", "(I)V"⟩, 27), (⟨"RelayOrbiterModel", "check16", "()V"⟩, 27), (⟨"RelayOrbiterModel", "drop", "(I)V"⟩, 27)]
theorem lw_r3 : ∀ q ∈ lw_privs_3, lw_okq q := List.forall_mem_cons.mpr ⟨lw_p32, List.forall_mem_cons.mpr ⟨lw_p33, List.forall_mem_cons.mpr ⟨lw_p34, List.forall_mem_cons.mpr ⟨lw_p35, List.forall_mem_cons.mpr ⟨lw_p36, List.forall_mem_cons.mpr ⟨lw_p37, List.forall_mem_cons.mpr ⟨lw_p38, List.forall_mem_cons.mpr ⟨lw_p39, List.forall_mem_cons.mpr ⟨lw_p40, List.forall_mem_cons.mpr ⟨lw_p41, List.forall_mem_cons.mpr ⟨lw_p42, List.forall_mem_cons.mpr ⟨lw_p43, fun _ h => absurd h List.not_mem_nil⟩⟩⟩⟩⟩⟩⟩⟩⟩⟩⟩⟩
def lw_privs : List (MethodName × Nat) := lw_privs_1 ++ (lw_privs_2 ++ (lw_privs_3))
def lw_tbl : List Cond := k2_sels lw_privs ++ tables_1
theorem lw_privs_ok : ∀ q ∈ lw_privs, lw_okq q := by
  show ∀ q ∈ lw_privs_1 ++ (lw_privs_2 ++ (lw_privs_3)), lw_okq q
  exact List.forall_mem_append.mpr ⟨lw_r1, List.forall_mem_append.mpr ⟨lw_r2, lw_r3⟩⟩
end
section
theorem d_Orb_init_0 : decode prog_1_method_1_code 0 = .ok (.aload_n 0, 1) := by decide +kernel
theorem d_Orb_init_1 : decode prog_1_method_1_code 1 = .ok (.invokespecial 1, 3) := by decide +kernel
theorem d_Orb_init_4 : decode prog_1_method_1_code 4 = .ok (.aload_n 0, 1) := by decide +kernel
theorem d_Orb_init_5 : decode prog_1_method_1_code 5 = .ok (.new 7, 3) := by decide +kernel
theorem d_Orb_init_8 : decode prog_1_method_1_code 8 = .ok (.dup, 1) := by decide +kernel
theorem d_Orb_init_9 : decode prog_1_method_1_code 9 = .ok (.invokespecial 9, 3) := by decide +kernel
theorem d_Orb_init_12 : decode prog_1_method_1_code 12 = .ok (.putfield 10, 3) := by decide +kernel
theorem d_Orb_init_15 : decode prog_1_method_1_code 15 = .ok (.aload_n 0, 1) := by decide +kernel
theorem d_Orb_init_16 : decode prog_1_method_1_code 16 = .ok (.new 7, 3) := by decide +kernel
theorem d_Orb_init_19 : decode prog_1_method_1_code 19 = .ok (.dup, 1) := by decide +kernel
theorem d_Orb_init_20 : decode prog_1_method_1_code 20 = .ok (.invokespecial 9, 3) := by decide +kernel
theorem d_Orb_init_23 : decode prog_1_method_1_code 23 = .ok (.putfield 16, 3) := by decide +kernel
theorem d_Orb_init_26 : decode prog_1_method_1_code 26 = .ok (.aload_n 0, 1) := by decide +kernel
theorem d_Orb_init_27 : decode prog_1_method_1_code 27 = .ok (.new 19, 3) := by decide +kernel
theorem d_Orb_init_30 : decode prog_1_method_1_code 30 = .ok (.dup, 1) := by decide +kernel
theorem d_Orb_init_31 : decode prog_1_method_1_code 31 = .ok (.invokespecial 21, 3) := by decide +kernel
theorem d_Orb_init_34 : decode prog_1_method_1_code 34 = .ok (.putfield 22, 3) := by decide +kernel
theorem d_Orb_init_37 : decode prog_1_method_1_code 37 = .ok (.aload_n 0, 1) := by decide +kernel
theorem d_Orb_init_38 : decode prog_1_method_1_code 38 = .ok (.new 26, 3) := by decide +kernel
theorem d_Orb_init_41 : decode prog_1_method_1_code 41 = .ok (.dup, 1) := by decide +kernel
theorem d_Orb_init_42 : decode prog_1_method_1_code 42 = .ok (.aload_n 0, 1) := by decide +kernel
theorem d_Orb_init_43 : decode prog_1_method_1_code 43 = .ok (.getfield 22, 3) := by decide +kernel
theorem d_Orb_init_46 : decode prog_1_method_1_code 46 = .ok (.invokespecial 28, 3) := by decide +kernel
theorem d_Orb_init_49 : decode prog_1_method_1_code 49 = .ok (.putfield 31, 3) := by decide +kernel
theorem d_Orb_init_52 : decode prog_1_method_1_code 52 = .ok (.aload_n 0, 1) := by decide +kernel
theorem d_Orb_init_53 : decode prog_1_method_1_code 53 = .ok (.new 35, 3) := by decide +kernel
theorem d_Orb_init_56 : decode prog_1_method_1_code 56 = .ok (.dup, 1) := by decide +kernel
theorem d_Orb_init_57 : decode prog_1_method_1_code 57 = .ok (.invokespecial 37, 3) := by decide +kernel
theorem d_Orb_init_60 : decode prog_1_method_1_code 60 = .ok (.putfield 38, 3) := by decide +kernel
theorem d_Orb_init_63 : decode prog_1_method_1_code 63 = .ok (.aload_n 0, 1) := by decide +kernel
theorem d_Orb_init_64 : decode prog_1_method_1_code 64 = .ok (.new 42, 3) := by decide +kernel
theorem d_Orb_init_67 : decode prog_1_method_1_code 67 = .ok (.dup, 1) := by decide +kernel
theorem d_Orb_init_68 : decode prog_1_method_1_code 68 = .ok (.invokespecial 44, 3) := by decide +kernel
theorem d_Orb_init_71 : decode prog_1_method_1_code 71 = .ok (.putfield 45, 3) := by decide +kernel
theorem d_Orb_init_74 : decode prog_1_method_1_code 74 = .ok (.aload_n 0, 1) := by decide +kernel
theorem d_Orb_init_75 : decode prog_1_method_1_code 75 = .ok (.iconst 0, 1) := by decide +kernel
theorem d_Orb_init_76 : decode prog_1_method_1_code 76 = .ok (.putfield 49, 3) := by decide +kernel
theorem d_Orb_init_79 : decode prog_1_method_1_code 79 = .ok (.return_, 1) := by decide +kernel
theorem d_Orb_window_0 : decode prog_1_method_2_code 0 = .ok (.iload_n 1, 1) := by decide +kernel
theorem d_Orb_window_1 : decode prog_1_method_2_code 1 = .ok (.invokestatic 53, 3) := by decide +kernel
theorem d_Orb_window_4 : decode prog_1_method_2_code 4 = .ok (.ifCond .ne (17), 3) := by decide +kernel
theorem d_Orb_window_7 : decode prog_1_method_2_code 7 = .ok (.iload_n 2, 1) := by decide +kernel
theorem d_Orb_window_8 : decode prog_1_method_2_code 8 = .ok (.ifCond .lt (13), 3) := by decide +kernel
theorem d_Orb_window_11 : decode prog_1_method_2_code 11 = .ok (.iload_n 3, 1) := by decide +kernel
theorem d_Orb_window_12 : decode prog_1_method_2_code 12 = .ok (.iconst 1, 1) := by decide +kernel
theorem d_Orb_window_13 : decode prog_1_method_2_code 13 = .ok (.if_icmp .lt (8), 3) := by decide +kernel
theorem d_Orb_window_16 : decode prog_1_method_2_code 16 = .ok (.iload 4, 2) := by decide +kernel
theorem d_Orb_window_18 : decode prog_1_method_2_code 18 = .ok (.ifCond .ge (11), 3) := by decide +kernel
theorem d_Orb_window_21 : decode prog_1_method_2_code 21 = .ok (.new 57, 3) := by decide +kernel
theorem d_Orb_window_24 : decode prog_1_method_2_code 24 = .ok (.dup, 1) := by decide +kernel
theorem d_Orb_window_25 : decode prog_1_method_2_code 25 = .ok (.invokespecial 59, 3) := by decide +kernel
theorem d_Orb_window_28 : decode prog_1_method_2_code 28 = .ok (.athrow, 1) := by decide +kernel
theorem d_Orb_window_29 : decode prog_1_method_2_code 29 = .ok (.aload_n 0, 1) := by decide +kernel
theorem d_Orb_window_30 : decode prog_1_method_2_code 30 = .ok (.iload_n 1, 1) := by decide +kernel
theorem d_Orb_window_31 : decode prog_1_method_2_code 31 = .ok (.invokevirtual 60, 3) := by decide +kernel
theorem d_Orb_window_34 : decode prog_1_method_2_code 34 = .ok (.iload_n 2, 1) := by decide +kernel
theorem d_Orb_window_35 : decode prog_1_method_2_code 35 = .ok (.iload_n 3, 1) := by decide +kernel
theorem d_Orb_window_36 : decode prog_1_method_2_code 36 = .ok (.iload 4, 2) := by decide +kernel
theorem d_Orb_window_38 : decode prog_1_method_2_code 38 = .ok (.invokevirtual 64, 3) := by decide +kernel
theorem d_Orb_window_41 : decode prog_1_method_2_code 41 = .ok (.return_, 1) := by decide +kernel
theorem d_Orb_minute_0 : decode prog_1_method_3_code 0 = .ok (.iload_n 1, 1) := by decide +kernel
theorem d_Orb_minute_1 : decode prog_1_method_3_code 1 = .ok (.iconst 1, 1) := by decide +kernel
theorem d_Orb_minute_2 : decode prog_1_method_3_code 2 = .ok (.if_icmp .lt (10), 3) := by decide +kernel
theorem d_Orb_minute_5 : decode prog_1_method_3_code 5 = .ok (.iload_n 1, 1) := by decide +kernel
theorem d_Orb_minute_6 : decode prog_1_method_3_code 6 = .ok (.sipush (1000), 3) := by decide +kernel
theorem d_Orb_minute_9 : decode prog_1_method_3_code 9 = .ok (.if_icmp .le (11), 3) := by decide +kernel
theorem d_Orb_minute_12 : decode prog_1_method_3_code 12 = .ok (.new 57, 3) := by decide +kernel
theorem d_Orb_minute_15 : decode prog_1_method_3_code 15 = .ok (.dup, 1) := by decide +kernel
theorem d_Orb_minute_16 : decode prog_1_method_3_code 16 = .ok (.invokespecial 59, 3) := by decide +kernel
theorem d_Orb_minute_19 : decode prog_1_method_3_code 19 = .ok (.athrow, 1) := by decide +kernel
theorem d_Orb_minute_20 : decode prog_1_method_3_code 20 = .ok (.aload_n 0, 1) := by decide +kernel
theorem d_Orb_minute_21 : decode prog_1_method_3_code 21 = .ok (.dup, 1) := by decide +kernel
theorem d_Orb_minute_22 : decode prog_1_method_3_code 22 = .ok (.getfield 49, 3) := by decide +kernel
theorem d_Orb_minute_25 : decode prog_1_method_3_code 25 = .ok (.iload_n 1, 1) := by decide +kernel
theorem d_Orb_minute_26 : decode prog_1_method_3_code 26 = .ok (.iadd, 1) := by decide +kernel
theorem d_Orb_minute_27 : decode prog_1_method_3_code 27 = .ok (.putfield 49, 3) := by decide +kernel
theorem d_Orb_minute_30 : decode prog_1_method_3_code 30 = .ok (.aload_n 0, 1) := by decide +kernel
theorem d_Orb_minute_31 : decode prog_1_method_3_code 31 = .ok (.getfield 49, 3) := by decide +kernel
theorem d_Orb_minute_34 : decode prog_1_method_3_code 34 = .ok (.ireturn, 1) := by decide +kernel
theorem d_Orb_seen_0 : decode prog_1_method_4_code 0 = .ok (.iload_n 1, 1) := by decide +kernel
theorem d_Orb_seen_1 : decode prog_1_method_4_code 1 = .ok (.invokestatic 53, 3) := by decide +kernel
theorem d_Orb_seen_4 : decode prog_1_method_4_code 4 = .ok (.ifCond .eq (11), 3) := by decide +kernel
theorem d_Orb_seen_7 : decode prog_1_method_4_code 7 = .ok (.new 57, 3) := by decide +kernel
theorem d_Orb_seen_10 : decode prog_1_method_4_code 10 = .ok (.dup, 1) := by decide +kernel
theorem d_Orb_seen_11 : decode prog_1_method_4_code 11 = .ok (.invokespecial 59, 3) := by decide +kernel
theorem d_Orb_seen_14 : decode prog_1_method_4_code 14 = .ok (.athrow, 1) := by decide +kernel
theorem d_Orb_seen_15 : decode prog_1_method_4_code 15 = .ok (.aload_n 0, 1) := by decide +kernel
theorem d_Orb_seen_16 : decode prog_1_method_4_code 16 = .ok (.iload_n 1, 1) := by decide +kernel
theorem d_Orb_seen_17 : decode prog_1_method_4_code 17 = .ok (.invokevirtual 60, 3) := by decide +kernel
theorem d_Orb_seen_20 : decode prog_1_method_4_code 20 = .ok (.aload_n 0, 1) := by decide +kernel
theorem d_Orb_seen_21 : decode prog_1_method_4_code 21 = .ok (.getfield 49, 3) := by decide +kernel
theorem d_Orb_seen_24 : decode prog_1_method_4_code 24 = .ok (.invokevirtual 68, 3) := by decide +kernel
theorem d_Orb_seen_27 : decode prog_1_method_4_code 27 = .ok (.ireturn, 1) := by decide +kernel
theorem d_Orb_receive_0 : decode prog_1_method_5_code 0 = .ok (.aload_n 0, 1) := by decide +kernel
theorem d_Orb_receive_1 : decode prog_1_method_5_code 1 = .ok (.getfield 22, 3) := by decide +kernel
theorem d_Orb_receive_4 : decode prog_1_method_5_code 4 = .ok (.getfield 71, 3) := by decide +kernel
theorem d_Orb_receive_7 : decode prog_1_method_5_code 7 = .ok (.ifCond .eq (11), 3) := by decide +kernel
theorem d_Orb_receive_10 : decode prog_1_method_5_code 10 = .ok (.new 75, 3) := by decide +kernel
theorem d_Orb_receive_13 : decode prog_1_method_5_code 13 = .ok (.dup, 1) := by decide +kernel
theorem d_Orb_receive_14 : decode prog_1_method_5_code 14 = .ok (.invokespecial 77, 3) := by decide +kernel
theorem d_Orb_receive_17 : decode prog_1_method_5_code 17 = .ok (.athrow, 1) := by decide +kernel
theorem d_Orb_receive_18 : decode prog_1_method_5_code 18 = .ok (.iload_n 2, 1) := by decide +kernel
theorem d_Orb_receive_19 : decode prog_1_method_5_code 19 = .ok (.iconst 1, 1) := by decide +kernel
theorem d_Orb_receive_20 : decode prog_1_method_5_code 20 = .ok (.if_icmp .lt (8), 3) := by decide +kernel
theorem d_Orb_receive_23 : decode prog_1_method_5_code 23 = .ok (.iload_n 2, 1) := by decide +kernel
theorem d_Orb_receive_24 : decode prog_1_method_5_code 24 = .ok (.iconst 4, 1) := by decide +kernel
theorem d_Orb_receive_25 : decode prog_1_method_5_code 25 = .ok (.if_icmp .le (11), 3) := by decide +kernel
theorem d_Orb_receive_28 : decode prog_1_method_5_code 28 = .ok (.new 57, 3) := by decide +kernel
theorem d_Orb_receive_31 : decode prog_1_method_5_code 31 = .ok (.dup, 1) := by decide +kernel
theorem d_Orb_receive_32 : decode prog_1_method_5_code 32 = .ok (.invokespecial 59, 3) := by decide +kernel
theorem d_Orb_receive_35 : decode prog_1_method_5_code 35 = .ok (.athrow, 1) := by decide +kernel
theorem d_Orb_receive_36 : decode prog_1_method_5_code 36 = .ok (.iconst 0, 1) := by decide +kernel
theorem d_Orb_receive_37 : decode prog_1_method_5_code 37 = .ok (.istore_n 3, 1) := by decide +kernel
theorem d_Orb_receive_38 : decode prog_1_method_5_code 38 = .ok (.iload_n 2, 1) := by decide +kernel
theorem d_Orb_receive_39 : decode prog_1_method_5_code 39 = .ok (.iconst 1, 1) := by decide +kernel
theorem d_Orb_receive_40 : decode prog_1_method_5_code 40 = .ok (.isub, 1) := by decide +kernel
theorem d_Orb_receive_41 : decode prog_1_method_5_code 41 = .ok (.istore 4, 2) := by decide +kernel
theorem d_Orb_receive_43 : decode prog_1_method_5_code 43 = .ok (.iload 4, 2) := by decide +kernel
theorem d_Orb_receive_45 : decode prog_1_method_5_code 45 = .ok (.ifCond .lt (44), 3) := by decide +kernel
theorem d_Orb_receive_48 : decode prog_1_method_5_code 48 = .ok (.aload_n 0, 1) := by decide +kernel
theorem d_Orb_receive_49 : decode prog_1_method_5_code 49 = .ok (.getfield 22, 3) := by decide +kernel
theorem d_Orb_receive_52 : decode prog_1_method_5_code 52 = .ok (.getfield 71, 3) := by decide +kernel
theorem d_Orb_receive_55 : decode prog_1_method_5_code 55 = .ok (.ifCond .ne (34), 3) := by decide +kernel
theorem d_Orb_receive_58 : decode prog_1_method_5_code 58 = .ok (.aload_n 0, 1) := by decide +kernel
theorem d_Orb_receive_59 : decode prog_1_method_5_code 59 = .ok (.getfield 38, 3) := by decide +kernel
theorem d_Orb_receive_62 : decode prog_1_method_5_code 62 = .ok (.iload_n 1, 1) := by decide +kernel
theorem d_Orb_receive_63 : decode prog_1_method_5_code 63 = .ok (.bipush (8), 2) := by decide +kernel
theorem d_Orb_receive_65 : decode prog_1_method_5_code 65 = .ok (.iload 4, 2) := by decide +kernel
theorem d_Orb_receive_67 : decode prog_1_method_5_code 67 = .ok (.imul, 1) := by decide +kernel
theorem d_Orb_receive_68 : decode prog_1_method_5_code 68 = .ok (.iushr, 1) := by decide +kernel
theorem d_Orb_receive_69 : decode prog_1_method_5_code 69 = .ok (.sipush (255), 3) := by decide +kernel
theorem d_Orb_receive_72 : decode prog_1_method_5_code 72 = .ok (.iand, 1) := by decide +kernel
theorem d_Orb_receive_73 : decode prog_1_method_5_code 73 = .ok (.invokevirtual 78, 3) := by decide +kernel
theorem d_Orb_receive_76 : decode prog_1_method_5_code 76 = .ok (.iload_n 3, 1) := by decide +kernel
theorem d_Orb_receive_77 : decode prog_1_method_5_code 77 = .ok (.aload_n 0, 1) := by decide +kernel
theorem d_Orb_receive_78 : decode prog_1_method_5_code 78 = .ok (.invokevirtual 82, 3) := by decide +kernel
theorem d_Orb_receive_81 : decode prog_1_method_5_code 81 = .ok (.iadd, 1) := by decide +kernel
theorem d_Orb_receive_82 : decode prog_1_method_5_code 82 = .ok (.istore_n 3, 1) := by decide +kernel
theorem d_Orb_receive_83 : decode prog_1_method_5_code 83 = .ok (.iinc 4 (-1), 3) := by decide +kernel
theorem d_Orb_receive_86 : decode prog_1_method_5_code 86 = .ok (.goto (-43), 3) := by decide +kernel
theorem d_Orb_receive_89 : decode prog_1_method_5_code 89 = .ok (.iload_n 3, 1) := by decide +kernel
theorem d_Orb_receive_90 : decode prog_1_method_5_code 90 = .ok (.ireturn, 1) := by decide +kernel
theorem d_Orb_report_0 : decode prog_1_method_6_code 0 = .ok (.aload_n 0, 1) := by decide +kernel
theorem d_Orb_report_1 : decode prog_1_method_6_code 1 = .ok (.getfield 22, 3) := by decide +kernel
theorem d_Orb_report_4 : decode prog_1_method_6_code 4 = .ok (.getfield 71, 3) := by decide +kernel
theorem d_Orb_report_7 : decode prog_1_method_6_code 7 = .ok (.ifCond .eq (11), 3) := by decide +kernel
theorem d_Orb_report_10 : decode prog_1_method_6_code 10 = .ok (.new 75, 3) := by decide +kernel
theorem d_Orb_report_13 : decode prog_1_method_6_code 13 = .ok (.dup, 1) := by decide +kernel
theorem d_Orb_report_14 : decode prog_1_method_6_code 14 = .ok (.invokespecial 77, 3) := by decide +kernel
theorem d_Orb_report_17 : decode prog_1_method_6_code 17 = .ok (.athrow, 1) := by decide +kernel
theorem d_Orb_report_18 : decode prog_1_method_6_code 18 = .ok (.aload_n 0, 1) := by decide +kernel
theorem d_Orb_report_19 : decode prog_1_method_6_code 19 = .ok (.getfield 31, 3) := by decide +kernel
theorem d_Orb_report_22 : decode prog_1_method_6_code 22 = .ok (.invokevirtual 86, 3) := by decide +kernel
theorem d_Orb_report_25 : decode prog_1_method_6_code 25 = .ok (.ireturn, 1) := by decide +kernel
theorem d_Orb_send_0 : decode prog_1_method_7_code 0 = .ok (.aload_n 0, 1) := by decide +kernel
theorem d_Orb_send_1 : decode prog_1_method_7_code 1 = .ok (.getfield 22, 3) := by decide +kernel
theorem d_Orb_send_4 : decode prog_1_method_7_code 4 = .ok (.getfield 71, 3) := by decide +kernel
theorem d_Orb_send_7 : decode prog_1_method_7_code 7 = .ok (.ifCond .eq (11), 3) := by decide +kernel
theorem d_Orb_send_10 : decode prog_1_method_7_code 10 = .ok (.new 75, 3) := by decide +kernel
theorem d_Orb_send_13 : decode prog_1_method_7_code 13 = .ok (.dup, 1) := by decide +kernel
theorem d_Orb_send_14 : decode prog_1_method_7_code 14 = .ok (.invokespecial 77, 3) := by decide +kernel
theorem d_Orb_send_17 : decode prog_1_method_7_code 17 = .ok (.athrow, 1) := by decide +kernel
theorem d_Orb_send_18 : decode prog_1_method_7_code 18 = .ok (.iload_n 1, 1) := by decide +kernel
theorem d_Orb_send_19 : decode prog_1_method_7_code 19 = .ok (.invokestatic 53, 3) := by decide +kernel
theorem d_Orb_send_22 : decode prog_1_method_7_code 22 = .ok (.ifCond .eq (11), 3) := by decide +kernel
theorem d_Orb_send_25 : decode prog_1_method_7_code 25 = .ok (.new 57, 3) := by decide +kernel
theorem d_Orb_send_28 : decode prog_1_method_7_code 28 = .ok (.dup, 1) := by decide +kernel
theorem d_Orb_send_29 : decode prog_1_method_7_code 29 = .ok (.invokespecial 59, 3) := by decide +kernel
theorem d_Orb_send_32 : decode prog_1_method_7_code 32 = .ok (.athrow, 1) := by decide +kernel
theorem d_Orb_send_33 : decode prog_1_method_7_code 33 = .ok (.aload_n 0, 1) := by decide +kernel
theorem d_Orb_send_34 : decode prog_1_method_7_code 34 = .ok (.getfield 16, 3) := by decide +kernel
theorem d_Orb_send_37 : decode prog_1_method_7_code 37 = .ok (.aload_n 0, 1) := by decide +kernel
theorem d_Orb_send_38 : decode prog_1_method_7_code 38 = .ok (.getfield 49, 3) := by decide +kernel
theorem d_Orb_send_41 : decode prog_1_method_7_code 41 = .ok (.invokevirtual 68, 3) := by decide +kernel
theorem d_Orb_send_44 : decode prog_1_method_7_code 44 = .ok (.ifCond .ne (11), 3) := by decide +kernel
theorem d_Orb_send_47 : decode prog_1_method_7_code 47 = .ok (.new 89, 3) := by decide +kernel
theorem d_Orb_send_50 : decode prog_1_method_7_code 50 = .ok (.dup, 1) := by decide +kernel
theorem d_Orb_send_51 : decode prog_1_method_7_code 51 = .ok (.invokespecial 91, 3) := by decide +kernel
theorem d_Orb_send_54 : decode prog_1_method_7_code 54 = .ok (.athrow, 1) := by decide +kernel
theorem d_Orb_send_55 : decode prog_1_method_7_code 55 = .ok (.aload_n 0, 1) := by decide +kernel
theorem d_Orb_send_56 : decode prog_1_method_7_code 56 = .ok (.getfield 45, 3) := by decide +kernel
theorem d_Orb_send_59 : decode prog_1_method_7_code 59 = .ok (.iload_n 1, 1) := by decide +kernel
theorem d_Orb_send_60 : decode prog_1_method_7_code 60 = .ok (.aload_n 0, 1) := by decide +kernel
theorem d_Orb_send_61 : decode prog_1_method_7_code 61 = .ok (.getfield 22, 3) := by decide +kernel
theorem d_Orb_send_64 : decode prog_1_method_7_code 64 = .ok (.invokevirtual 92, 3) := by decide +kernel
theorem d_Orb_send_67 : decode prog_1_method_7_code 67 = .ok (.ireturn, 1) := by decide +kernel
theorem d_Orb_sent_0 : decode prog_1_method_8_code 0 = .ok (.aload_n 0, 1) := by decide +kernel
theorem d_Orb_sent_1 : decode prog_1_method_8_code 1 = .ok (.getfield 45, 3) := by decide +kernel
theorem d_Orb_sent_4 : decode prog_1_method_8_code 4 = .ok (.iload_n 1, 1) := by decide +kernel
theorem d_Orb_sent_5 : decode prog_1_method_8_code 5 = .ok (.invokevirtual 96, 3) := by decide +kernel
theorem d_Orb_sent_8 : decode prog_1_method_8_code 8 = .ok (.ifCond .ne (11), 3) := by decide +kernel
theorem d_Orb_sent_11 : decode prog_1_method_8_code 11 = .ok (.new 99, 3) := by decide +kernel
theorem d_Orb_sent_14 : decode prog_1_method_8_code 14 = .ok (.dup, 1) := by decide +kernel
theorem d_Orb_sent_15 : decode prog_1_method_8_code 15 = .ok (.invokespecial 101, 3) := by decide +kernel
theorem d_Orb_sent_18 : decode prog_1_method_8_code 18 = .ok (.athrow, 1) := by decide +kernel
theorem d_Orb_sent_19 : decode prog_1_method_8_code 19 = .ok (.aload_n 0, 1) := by decide +kernel
theorem d_Orb_sent_20 : decode prog_1_method_8_code 20 = .ok (.getfield 45, 3) := by decide +kernel
theorem d_Orb_sent_23 : decode prog_1_method_8_code 23 = .ok (.getfield 102, 3) := by decide +kernel
theorem d_Orb_sent_26 : decode prog_1_method_8_code 26 = .ok (.iload_n 1, 1) := by decide +kernel
theorem d_Orb_sent_27 : decode prog_1_method_8_code 27 = .ok (.iaload, 1) := by decide +kernel
theorem d_Orb_sent_28 : decode prog_1_method_8_code 28 = .ok (.ireturn, 1) := by decide +kernel
theorem d_Orb_fail_0 : decode prog_1_method_9_code 0 = .ok (.aload_n 0, 1) := by decide +kernel
theorem d_Orb_fail_1 : decode prog_1_method_9_code 1 = .ok (.getfield 22, 3) := by decide +kernel
theorem d_Orb_fail_4 : decode prog_1_method_9_code 4 = .ok (.getfield 71, 3) := by decide +kernel
theorem d_Orb_fail_7 : decode prog_1_method_9_code 7 = .ok (.ifCond .eq (11), 3) := by decide +kernel
theorem d_Orb_fail_10 : decode prog_1_method_9_code 10 = .ok (.new 75, 3) := by decide +kernel
theorem d_Orb_fail_13 : decode prog_1_method_9_code 13 = .ok (.dup, 1) := by decide +kernel
theorem d_Orb_fail_14 : decode prog_1_method_9_code 14 = .ok (.invokespecial 77, 3) := by decide +kernel
theorem d_Orb_fail_17 : decode prog_1_method_9_code 17 = .ok (.athrow, 1) := by decide +kernel
theorem d_Orb_fail_18 : decode prog_1_method_9_code 18 = .ok (.iload_n 1, 1) := by decide +kernel
theorem d_Orb_fail_19 : decode prog_1_method_9_code 19 = .ok (.iconst 1, 1) := by decide +kernel
theorem d_Orb_fail_20 : decode prog_1_method_9_code 20 = .ok (.if_icmp .lt (9), 3) := by decide +kernel
theorem d_Orb_fail_23 : decode prog_1_method_9_code 23 = .ok (.iload_n 1, 1) := by decide +kernel
theorem d_Orb_fail_24 : decode prog_1_method_9_code 24 = .ok (.bipush (100), 2) := by decide +kernel
theorem d_Orb_fail_26 : decode prog_1_method_9_code 26 = .ok (.if_icmp .le (11), 3) := by decide +kernel
theorem d_Orb_fail_29 : decode prog_1_method_9_code 29 = .ok (.new 57, 3) := by decide +kernel
theorem d_Orb_fail_32 : decode prog_1_method_9_code 32 = .ok (.dup, 1) := by decide +kernel
theorem d_Orb_fail_33 : decode prog_1_method_9_code 33 = .ok (.invokespecial 59, 3) := by decide +kernel
theorem d_Orb_fail_36 : decode prog_1_method_9_code 36 = .ok (.athrow, 1) := by decide +kernel
theorem d_Orb_fail_37 : decode prog_1_method_9_code 37 = .ok (.aload_n 0, 1) := by decide +kernel
theorem d_Orb_fail_38 : decode prog_1_method_9_code 38 = .ok (.getfield 22, 3) := by decide +kernel
theorem d_Orb_fail_41 : decode prog_1_method_9_code 41 = .ok (.iload_n 1, 1) := by decide +kernel
theorem d_Orb_fail_42 : decode prog_1_method_9_code 42 = .ok (.putfield 106, 3) := by decide +kernel
theorem d_Orb_fail_45 : decode prog_1_method_9_code 45 = .ok (.return_, 1) := by decide +kernel
theorem d_Orb_power_0 : decode prog_1_method_10_code 0 = .ok (.aload_n 0, 1) := by decide +kernel
theorem d_Orb_power_1 : decode prog_1_method_10_code 1 = .ok (.getfield 22, 3) := by decide +kernel
theorem d_Orb_power_4 : decode prog_1_method_10_code 4 = .ok (.invokevirtual 109, 3) := by decide +kernel
theorem d_Orb_power_7 : decode prog_1_method_10_code 7 = .ok (.aload_n 0, 1) := by decide +kernel
theorem d_Orb_power_8 : decode prog_1_method_10_code 8 = .ok (.getfield 31, 3) := by decide +kernel
theorem d_Orb_power_11 : decode prog_1_method_10_code 11 = .ok (.invokevirtual 112, 3) := by decide +kernel
theorem d_Orb_power_14 : decode prog_1_method_10_code 14 = .ok (.aload_n 0, 1) := by decide +kernel
theorem d_Orb_power_15 : decode prog_1_method_10_code 15 = .ok (.getfield 38, 3) := by decide +kernel
theorem d_Orb_power_18 : decode prog_1_method_10_code 18 = .ok (.invokevirtual 113, 3) := by decide +kernel
theorem d_Orb_power_21 : decode prog_1_method_10_code 21 = .ok (.aload_n 0, 1) := by decide +kernel
theorem d_Orb_power_22 : decode prog_1_method_10_code 22 = .ok (.getfield 22, 3) := by decide +kernel
theorem d_Orb_power_25 : decode prog_1_method_10_code 25 = .ok (.getfield 116, 3) := by decide +kernel
theorem d_Orb_power_28 : decode prog_1_method_10_code 28 = .ok (.ireturn, 1) := by decide +kernel
theorem d_Orb_out_0 : decode prog_1_method_11_code 0 = .ok (.aload_n 0, 1) := by decide +kernel
theorem d_Orb_out_1 : decode prog_1_method_11_code 1 = .ok (.getfield 22, 3) := by decide +kernel
theorem d_Orb_out_4 : decode prog_1_method_11_code 4 = .ok (.getfield 71, 3) := by decide +kernel
theorem d_Orb_out_7 : decode prog_1_method_11_code 7 = .ok (.ireturn, 1) := by decide +kernel
theorem d_Orb_store_0 : decode prog_1_method_12_code 0 = .ok (.iload_n 1, 1) := by decide +kernel
theorem d_Orb_store_1 : decode prog_1_method_12_code 1 = .ok (.tableswitch (63) 0 3 #[31, 39, 47, 55], 31) := by decide +kernel
theorem d_Orb_store_32 : decode prog_1_method_12_code 32 = .ok (.aload_n 0, 1) := by decide +kernel
theorem d_Orb_store_33 : decode prog_1_method_12_code 33 = .ok (.getfield 22, 3) := by decide +kernel
theorem d_Orb_store_36 : decode prog_1_method_12_code 36 = .ok (.getfield 116, 3) := by decide +kernel
theorem d_Orb_store_39 : decode prog_1_method_12_code 39 = .ok (.ireturn, 1) := by decide +kernel
theorem d_Orb_store_40 : decode prog_1_method_12_code 40 = .ok (.aload_n 0, 1) := by decide +kernel
theorem d_Orb_store_41 : decode prog_1_method_12_code 41 = .ok (.getfield 22, 3) := by decide +kernel
theorem d_Orb_store_44 : decode prog_1_method_12_code 44 = .ok (.getfield 119, 3) := by decide +kernel
theorem d_Orb_store_47 : decode prog_1_method_12_code 47 = .ok (.ireturn, 1) := by decide +kernel
theorem d_Orb_store_48 : decode prog_1_method_12_code 48 = .ok (.aload_n 0, 1) := by decide +kernel
theorem d_Orb_store_49 : decode prog_1_method_12_code 49 = .ok (.getfield 22, 3) := by decide +kernel
theorem d_Orb_store_52 : decode prog_1_method_12_code 52 = .ok (.getfield 122, 3) := by decide +kernel
theorem d_Orb_store_55 : decode prog_1_method_12_code 55 = .ok (.ireturn, 1) := by decide +kernel
theorem d_Orb_store_56 : decode prog_1_method_12_code 56 = .ok (.aload_n 0, 1) := by decide +kernel
theorem d_Orb_store_57 : decode prog_1_method_12_code 57 = .ok (.getfield 22, 3) := by decide +kernel
theorem d_Orb_store_60 : decode prog_1_method_12_code 60 = .ok (.getfield 125, 3) := by decide +kernel
theorem d_Orb_store_63 : decode prog_1_method_12_code 63 = .ok (.ireturn, 1) := by decide +kernel
theorem d_Orb_store_64 : decode prog_1_method_12_code 64 = .ok (.new 57, 3) := by decide +kernel
theorem d_Orb_store_67 : decode prog_1_method_12_code 67 = .ok (.dup, 1) := by decide +kernel
theorem d_Orb_store_68 : decode prog_1_method_12_code 68 = .ok (.invokespecial 59, 3) := by decide +kernel
theorem d_Orb_store_71 : decode prog_1_method_12_code 71 = .ok (.athrow, 1) := by decide +kernel
theorem d_Orb_packet_0 : decode prog_1_method_13_code 0 = .ok (.aload_n 0, 1) := by decide +kernel
theorem d_Orb_packet_1 : decode prog_1_method_13_code 1 = .ok (.getfield 22, 3) := by decide +kernel
theorem d_Orb_packet_4 : decode prog_1_method_13_code 4 = .ok (.iload_n 1, 1) := by decide +kernel
theorem d_Orb_packet_5 : decode prog_1_method_13_code 5 = .ok (.invokevirtual 128, 3) := by decide +kernel
theorem d_Orb_packet_8 : decode prog_1_method_13_code 8 = .ok (.ifCond .ne (11), 3) := by decide +kernel
theorem d_Orb_packet_11 : decode prog_1_method_13_code 11 = .ok (.new 99, 3) := by decide +kernel
theorem d_Orb_packet_14 : decode prog_1_method_13_code 14 = .ok (.dup, 1) := by decide +kernel
theorem d_Orb_packet_15 : decode prog_1_method_13_code 15 = .ok (.invokespecial 101, 3) := by decide +kernel
theorem d_Orb_packet_18 : decode prog_1_method_13_code 18 = .ok (.athrow, 1) := by decide +kernel
theorem d_Orb_packet_19 : decode prog_1_method_13_code 19 = .ok (.aload_n 0, 1) := by decide +kernel
theorem d_Orb_packet_20 : decode prog_1_method_13_code 20 = .ok (.getfield 22, 3) := by decide +kernel
theorem d_Orb_packet_23 : decode prog_1_method_13_code 23 = .ok (.getfield 131, 3) := by decide +kernel
theorem d_Orb_packet_26 : decode prog_1_method_13_code 26 = .ok (.iload_n 1, 1) := by decide +kernel
theorem d_Orb_packet_27 : decode prog_1_method_13_code 27 = .ok (.aaload, 1) := by decide +kernel
theorem d_Orb_packet_28 : decode prog_1_method_13_code 28 = .ok (.astore_n 3, 1) := by decide +kernel
theorem d_Orb_packet_29 : decode prog_1_method_13_code 29 = .ok (.iload_n 2, 1) := by decide +kernel
theorem d_Orb_packet_30 : decode prog_1_method_13_code 30 = .ok (.tableswitch (61) 0 4 #[34, 39, 44, 49, 56], 34) := by decide +kernel
theorem d_Orb_packet_64 : decode prog_1_method_13_code 64 = .ok (.aload_n 3, 1) := by decide +kernel
theorem d_Orb_packet_65 : decode prog_1_method_13_code 65 = .ok (.getfield 135, 3) := by decide +kernel
theorem d_Orb_packet_68 : decode prog_1_method_13_code 68 = .ok (.ireturn, 1) := by decide +kernel
theorem d_Orb_packet_69 : decode prog_1_method_13_code 69 = .ok (.aload_n 3, 1) := by decide +kernel
theorem d_Orb_packet_70 : decode prog_1_method_13_code 70 = .ok (.getfield 140, 3) := by decide +kernel
theorem d_Orb_packet_73 : decode prog_1_method_13_code 73 = .ok (.ireturn, 1) := by decide +kernel
theorem d_Orb_packet_74 : decode prog_1_method_13_code 74 = .ok (.aload_n 3, 1) := by decide +kernel
theorem d_Orb_packet_75 : decode prog_1_method_13_code 75 = .ok (.getfield 143, 3) := by decide +kernel
theorem d_Orb_packet_78 : decode prog_1_method_13_code 78 = .ok (.ireturn, 1) := by decide +kernel
theorem d_Orb_packet_79 : decode prog_1_method_13_code 79 = .ok (.aload_n 3, 1) := by decide +kernel
theorem d_Orb_packet_80 : decode prog_1_method_13_code 80 = .ok (.getfield 146, 3) := by decide +kernel
theorem d_Orb_packet_83 : decode prog_1_method_13_code 83 = .ok (.iconst 0, 1) := by decide +kernel
theorem d_Orb_packet_84 : decode prog_1_method_13_code 84 = .ok (.iaload, 1) := by decide +kernel
theorem d_Orb_packet_85 : decode prog_1_method_13_code 85 = .ok (.ireturn, 1) := by decide +kernel
theorem d_Orb_packet_86 : decode prog_1_method_13_code 86 = .ok (.aload_n 3, 1) := by decide +kernel
theorem d_Orb_packet_87 : decode prog_1_method_13_code 87 = .ok (.getfield 149, 3) := by decide +kernel
theorem d_Orb_packet_90 : decode prog_1_method_13_code 90 = .ok (.ireturn, 1) := by decide +kernel
theorem d_Orb_packet_91 : decode prog_1_method_13_code 91 = .ok (.new 57, 3) := by decide +kernel
theorem d_Orb_packet_94 : decode prog_1_method_13_code 94 = .ok (.dup, 1) := by decide +kernel
theorem d_Orb_packet_95 : decode prog_1_method_13_code 95 = .ok (.invokespecial 59, 3) := by decide +kernel
theorem d_Orb_packet_98 : decode prog_1_method_13_code 98 = .ok (.athrow, 1) := by decide +kernel
theorem d_Orb_content_0 : decode prog_1_method_14_code 0 = .ok (.aload_n 0, 1) := by decide +kernel
theorem d_Orb_content_1 : decode prog_1_method_14_code 1 = .ok (.getfield 22, 3) := by decide +kernel
theorem d_Orb_content_4 : decode prog_1_method_14_code 4 = .ok (.iload_n 1, 1) := by decide +kernel
theorem d_Orb_content_5 : decode prog_1_method_14_code 5 = .ok (.invokevirtual 128, 3) := by decide +kernel
theorem d_Orb_content_8 : decode prog_1_method_14_code 8 = .ok (.ifCond .eq (23), 3) := by decide +kernel
theorem d_Orb_content_11 : decode prog_1_method_14_code 11 = .ok (.iload_n 2, 1) := by decide +kernel
theorem d_Orb_content_12 : decode prog_1_method_14_code 12 = .ok (.ifCond .lt (19), 3) := by decide +kernel
theorem d_Orb_content_15 : decode prog_1_method_14_code 15 = .ok (.iload_n 2, 1) := by decide +kernel
theorem d_Orb_content_16 : decode prog_1_method_14_code 16 = .ok (.aload_n 0, 1) := by decide +kernel
theorem d_Orb_content_17 : decode prog_1_method_14_code 17 = .ok (.getfield 22, 3) := by decide +kernel
theorem d_Orb_content_20 : decode prog_1_method_14_code 20 = .ok (.getfield 131, 3) := by decide +kernel
theorem d_Orb_content_23 : decode prog_1_method_14_code 23 = .ok (.iload_n 1, 1) := by decide +kernel
theorem d_Orb_content_24 : decode prog_1_method_14_code 24 = .ok (.aaload, 1) := by decide +kernel
theorem d_Orb_content_25 : decode prog_1_method_14_code 25 = .ok (.getfield 140, 3) := by decide +kernel
theorem d_Orb_content_28 : decode prog_1_method_14_code 28 = .ok (.if_icmp .lt (11), 3) := by decide +kernel
theorem d_Orb_content_31 : decode prog_1_method_14_code 31 = .ok (.new 99, 3) := by decide +kernel
theorem d_Orb_content_34 : decode prog_1_method_14_code 34 = .ok (.dup, 1) := by decide +kernel
theorem d_Orb_content_35 : decode prog_1_method_14_code 35 = .ok (.invokespecial 101, 3) := by decide +kernel
theorem d_Orb_content_38 : decode prog_1_method_14_code 38 = .ok (.athrow, 1) := by decide +kernel
theorem d_Orb_content_39 : decode prog_1_method_14_code 39 = .ok (.aload_n 0, 1) := by decide +kernel
theorem d_Orb_content_40 : decode prog_1_method_14_code 40 = .ok (.getfield 22, 3) := by decide +kernel
theorem d_Orb_content_43 : decode prog_1_method_14_code 43 = .ok (.aload_n 0, 1) := by decide +kernel
theorem d_Orb_content_44 : decode prog_1_method_14_code 44 = .ok (.getfield 22, 3) := by decide +kernel
theorem d_Orb_content_47 : decode prog_1_method_14_code 47 = .ok (.getfield 131, 3) := by decide +kernel
theorem d_Orb_content_50 : decode prog_1_method_14_code 50 = .ok (.iload_n 1, 1) := by decide +kernel
theorem d_Orb_content_51 : decode prog_1_method_14_code 51 = .ok (.aaload, 1) := by decide +kernel
theorem d_Orb_content_52 : decode prog_1_method_14_code 52 = .ok (.iload_n 2, 1) := by decide +kernel
theorem d_Orb_content_53 : decode prog_1_method_14_code 53 = .ok (.invokevirtual 152, 3) := by decide +kernel
theorem d_Orb_content_56 : decode prog_1_method_14_code 56 = .ok (.ireturn, 1) := by decide +kernel
theorem d_Orb_isNoPair_0 : decode prog_1_method_15_code 0 = .ok (.iload_n 0, 1) := by decide +kernel
theorem d_Orb_isNoPair_1 : decode prog_1_method_15_code 1 = .ok (.ifCond .eq (12), 3) := by decide +kernel
theorem d_Orb_isNoPair_4 : decode prog_1_method_15_code 4 = .ok (.iload_n 0, 1) := by decide +kernel
theorem d_Orb_isNoPair_5 : decode prog_1_method_15_code 5 = .ok (.iconst 1, 1) := by decide +kernel
theorem d_Orb_isNoPair_6 : decode prog_1_method_15_code 6 = .ok (.if_icmp .eq (7), 3) := by decide +kernel
theorem d_Orb_isNoPair_9 : decode prog_1_method_15_code 9 = .ok (.iconst 1, 1) := by decide +kernel
theorem d_Orb_isNoPair_10 : decode prog_1_method_15_code 10 = .ok (.goto (4), 3) := by decide +kernel
theorem d_Orb_isNoPair_13 : decode prog_1_method_15_code 13 = .ok (.iconst 0, 1) := by decide +kernel
theorem d_Orb_isNoPair_14 : decode prog_1_method_15_code 14 = .ok (.ireturn, 1) := by decide +kernel
theorem d_Orb_windowOf_0 : decode prog_1_method_16_code 0 = .ok (.iload_n 1, 1) := by decide +kernel
theorem d_Orb_windowOf_1 : decode prog_1_method_16_code 1 = .ok (.ifCond .ne (10), 3) := by decide +kernel
theorem d_Orb_windowOf_4 : decode prog_1_method_16_code 4 = .ok (.aload_n 0, 1) := by decide +kernel
theorem d_Orb_windowOf_5 : decode prog_1_method_16_code 5 = .ok (.getfield 10, 3) := by decide +kernel
theorem d_Orb_windowOf_8 : decode prog_1_method_16_code 8 = .ok (.goto (7), 3) := by decide +kernel
theorem d_Orb_windowOf_11 : decode prog_1_method_16_code 11 = .ok (.aload_n 0, 1) := by decide +kernel
theorem d_Orb_windowOf_12 : decode prog_1_method_16_code 12 = .ok (.getfield 16, 3) := by decide +kernel
theorem d_Orb_windowOf_15 : decode prog_1_method_16_code 15 = .ok (.areturn, 1) := by decide +kernel
theorem d_Orb_takeFrames_0 : decode prog_1_method_17_code 0 = .ok (.iconst 0, 1) := by decide +kernel
theorem d_Orb_takeFrames_1 : decode prog_1_method_17_code 1 = .ok (.istore_n 1, 1) := by decide +kernel
theorem d_Orb_takeFrames_2 : decode prog_1_method_17_code 2 = .ok (.iconst 0, 1) := by decide +kernel
theorem d_Orb_takeFrames_3 : decode prog_1_method_17_code 3 = .ok (.istore_n 2, 1) := by decide +kernel
theorem d_Orb_takeFrames_4 : decode prog_1_method_17_code 4 = .ok (.iload_n 2, 1) := by decide +kernel
theorem d_Orb_takeFrames_5 : decode prog_1_method_17_code 5 = .ok (.bipush (71), 2) := by decide +kernel
theorem d_Orb_takeFrames_7 : decode prog_1_method_17_code 7 = .ok (.if_icmp .ge (88), 3) := by decide +kernel
theorem d_Orb_takeFrames_10 : decode prog_1_method_17_code 10 = .ok (.aload_n 0, 1) := by decide +kernel
theorem d_Orb_takeFrames_11 : decode prog_1_method_17_code 11 = .ok (.getfield 22, 3) := by decide +kernel
theorem d_Orb_takeFrames_14 : decode prog_1_method_17_code 14 = .ok (.getfield 71, 3) := by decide +kernel
theorem d_Orb_takeFrames_17 : decode prog_1_method_17_code 17 = .ok (.ifCond .ne (78), 3) := by decide +kernel
theorem d_Orb_takeFrames_20 : decode prog_1_method_17_code 20 = .ok (.aload_n 0, 1) := by decide +kernel
theorem d_Orb_takeFrames_21 : decode prog_1_method_17_code 21 = .ok (.getfield 38, 3) := by decide +kernel
theorem d_Orb_takeFrames_24 : decode prog_1_method_17_code 24 = .ok (.invokevirtual 156, 3) := by decide +kernel
theorem d_Orb_takeFrames_27 : decode prog_1_method_17_code 27 = .ok (.istore_n 3, 1) := by decide +kernel
theorem d_Orb_takeFrames_28 : decode prog_1_method_17_code 28 = .ok (.iload_n 3, 1) := by decide +kernel
theorem d_Orb_takeFrames_29 : decode prog_1_method_17_code 29 = .ok (.ifCond .ne (6), 3) := by decide +kernel
theorem d_Orb_takeFrames_32 : decode prog_1_method_17_code 32 = .ok (.goto (63), 3) := by decide +kernel
theorem d_Orb_takeFrames_35 : decode prog_1_method_17_code 35 = .ok (.iload_n 3, 1) := by decide +kernel
theorem d_Orb_takeFrames_36 : decode prog_1_method_17_code 36 = .ok (.iconst (-1), 1) := by decide +kernel
theorem d_Orb_takeFrames_37 : decode prog_1_method_17_code 37 = .ok (.if_icmp .ne (14), 3) := by decide +kernel
theorem d_Orb_takeFrames_40 : decode prog_1_method_17_code 40 = .ok (.aload_n 0, 1) := by decide +kernel
theorem d_Orb_takeFrames_41 : decode prog_1_method_17_code 41 = .ok (.getfield 38, 3) := by decide +kernel
theorem d_Orb_takeFrames_44 : decode prog_1_method_17_code 44 = .ok (.iconst 1, 1) := by decide +kernel
theorem d_Orb_takeFrames_45 : decode prog_1_method_17_code 45 = .ok (.invokevirtual 159, 3) := by decide +kernel
theorem d_Orb_takeFrames_48 : decode prog_1_method_17_code 48 = .ok (.goto (41), 3) := by decide +kernel
theorem d_Orb_takeFrames_51 : decode prog_1_method_17_code 51 = .ok (.aload_n 0, 1) := by decide +kernel
theorem d_Orb_takeFrames_52 : decode prog_1_method_17_code 52 = .ok (.getfield 38, 3) := by decide +kernel
theorem d_Orb_takeFrames_55 : decode prog_1_method_17_code 55 = .ok (.invokevirtual 162, 3) := by decide +kernel
theorem d_Orb_takeFrames_58 : decode prog_1_method_17_code 58 = .ok (.iinc 1 (1), 3) := by decide +kernel
theorem d_Orb_takeFrames_61 : decode prog_1_method_17_code 61 = .ok (.aload_n 0, 1) := by decide +kernel
theorem d_Orb_takeFrames_62 : decode prog_1_method_17_code 62 = .ok (.getfield 10, 3) := by decide +kernel
theorem d_Orb_takeFrames_65 : decode prog_1_method_17_code 65 = .ok (.aload_n 0, 1) := by decide +kernel
theorem d_Orb_takeFrames_66 : decode prog_1_method_17_code 66 = .ok (.getfield 49, 3) := by decide +kernel
theorem d_Orb_takeFrames_69 : decode prog_1_method_17_code 69 = .ok (.invokevirtual 68, 3) := by decide +kernel
theorem d_Orb_takeFrames_72 : decode prog_1_method_17_code 72 = .ok (.ifCond .eq (17), 3) := by decide +kernel
theorem d_Orb_takeFrames_75 : decode prog_1_method_17_code 75 = .ok (.aload_n 0, 1) := by decide +kernel
theorem d_Orb_takeFrames_76 : decode prog_1_method_17_code 76 = .ok (.getfield 31, 3) := by decide +kernel
theorem d_Orb_takeFrames_79 : decode prog_1_method_17_code 79 = .ok (.aload_n 0, 1) := by decide +kernel
theorem d_Orb_takeFrames_80 : decode prog_1_method_17_code 80 = .ok (.getfield 38, 3) := by decide +kernel
theorem d_Orb_takeFrames_83 : decode prog_1_method_17_code 83 = .ok (.getfield 165, 3) := by decide +kernel
theorem d_Orb_takeFrames_86 : decode prog_1_method_17_code 86 = .ok (.invokevirtual 168, 3) := by decide +kernel
theorem d_Orb_takeFrames_89 : decode prog_1_method_17_code 89 = .ok (.iinc 2 (1), 3) := by decide +kernel
theorem d_Orb_takeFrames_92 : decode prog_1_method_17_code 92 = .ok (.goto (-88), 3) := by decide +kernel
theorem d_Orb_takeFrames_95 : decode prog_1_method_17_code 95 = .ok (.iload_n 1, 1) := by decide +kernel
theorem d_Orb_takeFrames_96 : decode prog_1_method_17_code 96 = .ok (.ireturn, 1) := by decide +kernel
theorem d_Orb_check_0 : decode prog_1_method_18_code 0 = .ok (.iload 4, 2) := by decide +kernel
theorem d_Orb_check_2 : decode prog_1_method_18_code 2 = .ok (.istore 6, 2) := by decide +kernel
theorem d_Orb_check_4 : decode prog_1_method_18_code 4 = .ok (.iload_n 1, 1) := by decide +kernel
theorem d_Orb_check_5 : decode prog_1_method_18_code 5 = .ok (.istore 7, 2) := by decide +kernel
theorem d_Orb_check_7 : decode prog_1_method_18_code 7 = .ok (.iload 7, 2) := by decide +kernel
theorem d_Orb_check_9 : decode prog_1_method_18_code 9 = .ok (.iload_n 2, 1) := by decide +kernel
theorem d_Orb_check_10 : decode prog_1_method_18_code 10 = .ok (.if_icmp .ge (68), 3) := by decide +kernel
theorem d_Orb_check_13 : decode prog_1_method_18_code 13 = .ok (.iload 7, 2) := by decide +kernel
theorem d_Orb_check_15 : decode prog_1_method_18_code 15 = .ok (.aload_n 0, 1) := by decide +kernel
theorem d_Orb_check_16 : decode prog_1_method_18_code 16 = .ok (.arraylength, 1) := by decide +kernel
theorem d_Orb_check_17 : decode prog_1_method_18_code 17 = .ok (.if_icmp .ge (61), 3) := by decide +kernel
theorem d_Orb_check_20 : decode prog_1_method_18_code 20 = .ok (.bipush (7), 2) := by decide +kernel
theorem d_Orb_check_22 : decode prog_1_method_18_code 22 = .ok (.istore 8, 2) := by decide +kernel
theorem d_Orb_check_24 : decode prog_1_method_18_code 24 = .ok (.iload 8, 2) := by decide +kernel
theorem d_Orb_check_26 : decode prog_1_method_18_code 26 = .ok (.ifCond .lt (46), 3) := by decide +kernel
theorem d_Orb_check_29 : decode prog_1_method_18_code 29 = .ok (.iload 6, 2) := by decide +kernel
theorem d_Orb_check_31 : decode prog_1_method_18_code 31 = .ok (.iload_n 3, 1) := by decide +kernel
theorem d_Orb_check_32 : decode prog_1_method_18_code 32 = .ok (.iconst 1, 1) := by decide +kernel
theorem d_Orb_check_33 : decode prog_1_method_18_code 33 = .ok (.isub, 1) := by decide +kernel
theorem d_Orb_check_34 : decode prog_1_method_18_code 34 = .ok (.iushr, 1) := by decide +kernel
theorem d_Orb_check_35 : decode prog_1_method_18_code 35 = .ok (.aload_n 0, 1) := by decide +kernel
theorem d_Orb_check_36 : decode prog_1_method_18_code 36 = .ok (.iload 7, 2) := by decide +kernel
theorem d_Orb_check_38 : decode prog_1_method_18_code 38 = .ok (.iaload, 1) := by decide +kernel
theorem d_Orb_check_39 : decode prog_1_method_18_code 39 = .ok (.iload 8, 2) := by decide +kernel
theorem d_Orb_check_41 : decode prog_1_method_18_code 41 = .ok (.iushr, 1) := by decide +kernel
theorem d_Orb_check_42 : decode prog_1_method_18_code 42 = .ok (.ixor, 1) := by decide +kernel
theorem d_Orb_check_43 : decode prog_1_method_18_code 43 = .ok (.iconst 1, 1) := by decide +kernel
theorem d_Orb_check_44 : decode prog_1_method_18_code 44 = .ok (.iand, 1) := by decide +kernel
theorem d_Orb_check_45 : decode prog_1_method_18_code 45 = .ok (.istore 9, 2) := by decide +kernel
theorem d_Orb_check_47 : decode prog_1_method_18_code 47 = .ok (.iload 6, 2) := by decide +kernel
theorem d_Orb_check_49 : decode prog_1_method_18_code 49 = .ok (.iconst 1, 1) := by decide +kernel
theorem d_Orb_check_50 : decode prog_1_method_18_code 50 = .ok (.ishl, 1) := by decide +kernel
theorem d_Orb_check_51 : decode prog_1_method_18_code 51 = .ok (.istore 6, 2) := by decide +kernel
theorem d_Orb_check_53 : decode prog_1_method_18_code 53 = .ok (.iload 9, 2) := by decide +kernel
theorem d_Orb_check_55 : decode prog_1_method_18_code 55 = .ok (.iconst 1, 1) := by decide +kernel
theorem d_Orb_check_56 : decode prog_1_method_18_code 56 = .ok (.if_icmp .ne (10), 3) := by decide +kernel
theorem d_Orb_check_59 : decode prog_1_method_18_code 59 = .ok (.iload 6, 2) := by decide +kernel
theorem d_Orb_check_61 : decode prog_1_method_18_code 61 = .ok (.iload 5, 2) := by decide +kernel
theorem d_Orb_check_63 : decode prog_1_method_18_code 63 = .ok (.ixor, 1) := by decide +kernel
theorem d_Orb_check_64 : decode prog_1_method_18_code 64 = .ok (.istore 6, 2) := by decide +kernel
theorem d_Orb_check_66 : decode prog_1_method_18_code 66 = .ok (.iinc 8 (-1), 3) := by decide +kernel
theorem d_Orb_check_69 : decode prog_1_method_18_code 69 = .ok (.goto (-45), 3) := by decide +kernel
theorem d_Orb_check_72 : decode prog_1_method_18_code 72 = .ok (.iinc 7 (1), 3) := by decide +kernel
theorem d_Orb_check_75 : decode prog_1_method_18_code 75 = .ok (.goto (-68), 3) := by decide +kernel
theorem d_Orb_check_78 : decode prog_1_method_18_code 78 = .ok (.iload 6, 2) := by decide +kernel
theorem d_Orb_check_80 : decode prog_1_method_18_code 80 = .ok (.ireturn, 1) := by decide +kernel
end
section
theorem d_Mod_init_0 : decode prog_12_method_1_code 0 = .ok (.aload_n 0, 1) := by decide +kernel
theorem d_Mod_init_1 : decode prog_12_method_1_code 1 = .ok (.invokespecial 1, 3) := by decide +kernel
theorem d_Mod_init_4 : decode prog_12_method_1_code 4 = .ok (.aload_n 0, 1) := by decide +kernel
theorem d_Mod_init_5 : decode prog_12_method_1_code 5 = .ok (.iconst 0, 1) := by decide +kernel
theorem d_Mod_init_6 : decode prog_12_method_1_code 6 = .ok (.putfield 7, 3) := by decide +kernel
theorem d_Mod_init_9 : decode prog_12_method_1_code 9 = .ok (.aload_n 0, 1) := by decide +kernel
theorem d_Mod_init_10 : decode prog_12_method_1_code 10 = .ok (.iconst 0, 1) := by decide +kernel
theorem d_Mod_init_11 : decode prog_12_method_1_code 11 = .ok (.putfield 13, 3) := by decide +kernel
theorem d_Mod_init_14 : decode prog_12_method_1_code 14 = .ok (.aload_n 0, 1) := by decide +kernel
theorem d_Mod_init_15 : decode prog_12_method_1_code 15 = .ok (.bipush (6), 2) := by decide +kernel
theorem d_Mod_init_17 : decode prog_12_method_1_code 17 = .ok (.newarray .int, 2) := by decide +kernel
theorem d_Mod_init_19 : decode prog_12_method_1_code 19 = .ok (.putfield 16, 3) := by decide +kernel
theorem d_Mod_init_22 : decode prog_12_method_1_code 22 = .ok (.aload_n 0, 1) := by decide +kernel
theorem d_Mod_init_23 : decode prog_12_method_1_code 23 = .ok (.iconst 0, 1) := by decide +kernel
theorem d_Mod_init_24 : decode prog_12_method_1_code 24 = .ok (.putfield 20, 3) := by decide +kernel
theorem d_Mod_init_27 : decode prog_12_method_1_code 27 = .ok (.aload_n 0, 1) := by decide +kernel
theorem d_Mod_init_28 : decode prog_12_method_1_code 28 = .ok (.iconst 0, 1) := by decide +kernel
theorem d_Mod_init_29 : decode prog_12_method_1_code 29 = .ok (.putfield 24, 3) := by decide +kernel
theorem d_Mod_init_32 : decode prog_12_method_1_code 32 = .ok (.aload_n 0, 1) := by decide +kernel
theorem d_Mod_init_33 : decode prog_12_method_1_code 33 = .ok (.bipush (80), 2) := by decide +kernel
theorem d_Mod_init_35 : decode prog_12_method_1_code 35 = .ok (.newarray .int, 2) := by decide +kernel
theorem d_Mod_init_37 : decode prog_12_method_1_code 37 = .ok (.putfield 27, 3) := by decide +kernel
theorem d_Mod_init_40 : decode prog_12_method_1_code 40 = .ok (.aload_n 0, 1) := by decide +kernel
theorem d_Mod_init_41 : decode prog_12_method_1_code 41 = .ok (.iconst 0, 1) := by decide +kernel
theorem d_Mod_init_42 : decode prog_12_method_1_code 42 = .ok (.putfield 30, 3) := by decide +kernel
theorem d_Mod_init_45 : decode prog_12_method_1_code 45 = .ok (.aload_n 0, 1) := by decide +kernel
theorem d_Mod_init_46 : decode prog_12_method_1_code 46 = .ok (.iconst 0, 1) := by decide +kernel
theorem d_Mod_init_47 : decode prog_12_method_1_code 47 = .ok (.putfield 33, 3) := by decide +kernel
theorem d_Mod_init_50 : decode prog_12_method_1_code 50 = .ok (.aload_n 0, 1) := by decide +kernel
theorem d_Mod_init_51 : decode prog_12_method_1_code 51 = .ok (.iconst 0, 1) := by decide +kernel
theorem d_Mod_init_52 : decode prog_12_method_1_code 52 = .ok (.putfield 36, 3) := by decide +kernel
theorem d_Mod_init_55 : decode prog_12_method_1_code 55 = .ok (.aload_n 0, 1) := by decide +kernel
theorem d_Mod_init_56 : decode prog_12_method_1_code 56 = .ok (.iconst 0, 1) := by decide +kernel
theorem d_Mod_init_57 : decode prog_12_method_1_code 57 = .ok (.putfield 39, 3) := by decide +kernel
theorem d_Mod_init_60 : decode prog_12_method_1_code 60 = .ok (.aload_n 0, 1) := by decide +kernel
theorem d_Mod_init_61 : decode prog_12_method_1_code 61 = .ok (.iconst 0, 1) := by decide +kernel
theorem d_Mod_init_62 : decode prog_12_method_1_code 62 = .ok (.putfield 42, 3) := by decide +kernel
theorem d_Mod_init_65 : decode prog_12_method_1_code 65 = .ok (.aload_n 0, 1) := by decide +kernel
theorem d_Mod_init_66 : decode prog_12_method_1_code 66 = .ok (.iconst 0, 1) := by decide +kernel
theorem d_Mod_init_67 : decode prog_12_method_1_code 67 = .ok (.putfield 45, 3) := by decide +kernel
theorem d_Mod_init_70 : decode prog_12_method_1_code 70 = .ok (.aload_n 0, 1) := by decide +kernel
theorem d_Mod_init_71 : decode prog_12_method_1_code 71 = .ok (.iconst 4, 1) := by decide +kernel
theorem d_Mod_init_72 : decode prog_12_method_1_code 72 = .ok (.newarray .boolean, 2) := by decide +kernel
theorem d_Mod_init_74 : decode prog_12_method_1_code 74 = .ok (.putfield 48, 3) := by decide +kernel
theorem d_Mod_init_77 : decode prog_12_method_1_code 77 = .ok (.aload_n 0, 1) := by decide +kernel
theorem d_Mod_init_78 : decode prog_12_method_1_code 78 = .ok (.iconst 4, 1) := by decide +kernel
theorem d_Mod_init_79 : decode prog_12_method_1_code 79 = .ok (.newarray .int, 2) := by decide +kernel
theorem d_Mod_init_81 : decode prog_12_method_1_code 81 = .ok (.putfield 52, 3) := by decide +kernel
theorem d_Mod_init_84 : decode prog_12_method_1_code 84 = .ok (.aload_n 0, 1) := by decide +kernel
theorem d_Mod_init_85 : decode prog_12_method_1_code 85 = .ok (.sipush (240), 3) := by decide +kernel
theorem d_Mod_init_88 : decode prog_12_method_1_code 88 = .ok (.newarray .int, 2) := by decide +kernel
theorem d_Mod_init_90 : decode prog_12_method_1_code 90 = .ok (.putfield 55, 3) := by decide +kernel
theorem d_Mod_init_93 : decode prog_12_method_1_code 93 = .ok (.aload_n 0, 1) := by decide +kernel
theorem d_Mod_init_94 : decode prog_12_method_1_code 94 = .ok (.iconst 0, 1) := by decide +kernel
theorem d_Mod_init_95 : decode prog_12_method_1_code 95 = .ok (.putfield 58, 3) := by decide +kernel
theorem d_Mod_init_98 : decode prog_12_method_1_code 98 = .ok (.aload_n 0, 1) := by decide +kernel
theorem d_Mod_init_99 : decode prog_12_method_1_code 99 = .ok (.bipush (24), 2) := by decide +kernel
theorem d_Mod_init_101 : decode prog_12_method_1_code 101 = .ok (.newarray .int, 2) := by decide +kernel
theorem d_Mod_init_103 : decode prog_12_method_1_code 103 = .ok (.putfield 61, 3) := by decide +kernel
theorem d_Mod_init_106 : decode prog_12_method_1_code 106 = .ok (.aload_n 0, 1) := by decide +kernel
theorem d_Mod_init_107 : decode prog_12_method_1_code 107 = .ok (.bipush (24), 2) := by decide +kernel
theorem d_Mod_init_109 : decode prog_12_method_1_code 109 = .ok (.newarray .int, 2) := by decide +kernel
theorem d_Mod_init_111 : decode prog_12_method_1_code 111 = .ok (.putfield 64, 3) := by decide +kernel
theorem d_Mod_init_114 : decode prog_12_method_1_code 114 = .ok (.aload_n 0, 1) := by decide +kernel
theorem d_Mod_init_115 : decode prog_12_method_1_code 115 = .ok (.sipush (1440), 3) := by decide +kernel
theorem d_Mod_init_118 : decode prog_12_method_1_code 118 = .ok (.newarray .int, 2) := by decide +kernel
theorem d_Mod_init_120 : decode prog_12_method_1_code 120 = .ok (.putfield 67, 3) := by decide +kernel
theorem d_Mod_init_123 : decode prog_12_method_1_code 123 = .ok (.aload_n 0, 1) := by decide +kernel
theorem d_Mod_init_124 : decode prog_12_method_1_code 124 = .ok (.bipush (72), 2) := by decide +kernel
theorem d_Mod_init_126 : decode prog_12_method_1_code 126 = .ok (.newarray .int, 2) := by decide +kernel
theorem d_Mod_init_128 : decode prog_12_method_1_code 128 = .ok (.putfield 70, 3) := by decide +kernel
theorem d_Mod_init_131 : decode prog_12_method_1_code 131 = .ok (.aload_n 0, 1) := by decide +kernel
theorem d_Mod_init_132 : decode prog_12_method_1_code 132 = .ok (.bipush (24), 2) := by decide +kernel
theorem d_Mod_init_134 : decode prog_12_method_1_code 134 = .ok (.newarray .int, 2) := by decide +kernel
theorem d_Mod_init_136 : decode prog_12_method_1_code 136 = .ok (.putfield 73, 3) := by decide +kernel
theorem d_Mod_init_139 : decode prog_12_method_1_code 139 = .ok (.aload_n 0, 1) := by decide +kernel
theorem d_Mod_init_140 : decode prog_12_method_1_code 140 = .ok (.iconst 0, 1) := by decide +kernel
theorem d_Mod_init_141 : decode prog_12_method_1_code 141 = .ok (.putfield 76, 3) := by decide +kernel
theorem d_Mod_init_144 : decode prog_12_method_1_code 144 = .ok (.aload_n 0, 1) := by decide +kernel
theorem d_Mod_init_145 : decode prog_12_method_1_code 145 = .ok (.iconst 0, 1) := by decide +kernel
theorem d_Mod_init_146 : decode prog_12_method_1_code 146 = .ok (.putfield 79, 3) := by decide +kernel
theorem d_Mod_init_149 : decode prog_12_method_1_code 149 = .ok (.aload_n 0, 1) := by decide +kernel
theorem d_Mod_init_150 : decode prog_12_method_1_code 150 = .ok (.iconst 0, 1) := by decide +kernel
theorem d_Mod_init_151 : decode prog_12_method_1_code 151 = .ok (.putfield 82, 3) := by decide +kernel
theorem d_Mod_init_154 : decode prog_12_method_1_code 154 = .ok (.aload_n 0, 1) := by decide +kernel
theorem d_Mod_init_155 : decode prog_12_method_1_code 155 = .ok (.bipush (32), 2) := by decide +kernel
theorem d_Mod_init_157 : decode prog_12_method_1_code 157 = .ok (.newarray .int, 2) := by decide +kernel
theorem d_Mod_init_159 : decode prog_12_method_1_code 159 = .ok (.putfield 85, 3) := by decide +kernel
theorem d_Mod_init_162 : decode prog_12_method_1_code 162 = .ok (.aload_n 0, 1) := by decide +kernel
theorem d_Mod_init_163 : decode prog_12_method_1_code 163 = .ok (.iconst 0, 1) := by decide +kernel
theorem d_Mod_init_164 : decode prog_12_method_1_code 164 = .ok (.putfield 88, 3) := by decide +kernel
theorem d_Mod_init_167 : decode prog_12_method_1_code 167 = .ok (.aload_n 0, 1) := by decide +kernel
theorem d_Mod_init_168 : decode prog_12_method_1_code 168 = .ok (.iconst 2, 1) := by decide +kernel
theorem d_Mod_init_169 : decode prog_12_method_1_code 169 = .ok (.newarray .int, 2) := by decide +kernel
theorem d_Mod_init_171 : decode prog_12_method_1_code 171 = .ok (.putfield 91, 3) := by decide +kernel
theorem d_Mod_init_174 : decode prog_12_method_1_code 174 = .ok (.iconst 0, 1) := by decide +kernel
theorem d_Mod_init_175 : decode prog_12_method_1_code 175 = .ok (.istore_n 1, 1) := by decide +kernel
theorem d_Mod_init_176 : decode prog_12_method_1_code 176 = .ok (.iload_n 1, 1) := by decide +kernel
theorem d_Mod_init_177 : decode prog_12_method_1_code 177 = .ok (.iconst 2, 1) := by decide +kernel
theorem d_Mod_init_178 : decode prog_12_method_1_code 178 = .ok (.if_icmp .ge (31), 3) := by decide +kernel
theorem d_Mod_init_181 : decode prog_12_method_1_code 181 = .ok (.aload_n 0, 1) := by decide +kernel
theorem d_Mod_init_182 : decode prog_12_method_1_code 182 = .ok (.getfield 16, 3) := by decide +kernel
theorem d_Mod_init_185 : decode prog_12_method_1_code 185 = .ok (.iconst 3, 1) := by decide +kernel
theorem d_Mod_init_186 : decode prog_12_method_1_code 186 = .ok (.iload_n 1, 1) := by decide +kernel
theorem d_Mod_init_187 : decode prog_12_method_1_code 187 = .ok (.imul, 1) := by decide +kernel
theorem d_Mod_init_188 : decode prog_12_method_1_code 188 = .ok (.iconst 1, 1) := by decide +kernel
theorem d_Mod_init_189 : decode prog_12_method_1_code 189 = .ok (.iadd, 1) := by decide +kernel
theorem d_Mod_init_190 : decode prog_12_method_1_code 190 = .ok (.iconst 1, 1) := by decide +kernel
theorem d_Mod_init_191 : decode prog_12_method_1_code 191 = .ok (.iastore, 1) := by decide +kernel
theorem d_Mod_init_192 : decode prog_12_method_1_code 192 = .ok (.aload_n 0, 1) := by decide +kernel
theorem d_Mod_init_193 : decode prog_12_method_1_code 193 = .ok (.getfield 16, 3) := by decide +kernel
theorem d_Mod_init_196 : decode prog_12_method_1_code 196 = .ok (.iconst 3, 1) := by decide +kernel
theorem d_Mod_init_197 : decode prog_12_method_1_code 197 = .ok (.iload_n 1, 1) := by decide +kernel
theorem d_Mod_init_198 : decode prog_12_method_1_code 198 = .ok (.imul, 1) := by decide +kernel
theorem d_Mod_init_199 : decode prog_12_method_1_code 199 = .ok (.iconst 2, 1) := by decide +kernel
theorem d_Mod_init_200 : decode prog_12_method_1_code 200 = .ok (.iadd, 1) := by decide +kernel
theorem d_Mod_init_201 : decode prog_12_method_1_code 201 = .ok (.iconst 1, 1) := by decide +kernel
theorem d_Mod_init_202 : decode prog_12_method_1_code 202 = .ok (.iastore, 1) := by decide +kernel
theorem d_Mod_init_203 : decode prog_12_method_1_code 203 = .ok (.iinc 1 (1), 3) := by decide +kernel
theorem d_Mod_init_206 : decode prog_12_method_1_code 206 = .ok (.goto (-30), 3) := by decide +kernel
theorem d_Mod_init_209 : decode prog_12_method_1_code 209 = .ok (.return_, 1) := by decide +kernel
theorem d_Mod_write_0 : decode prog_12_method_2_code 0 = .ok (.aload_n 0, 1) := by decide +kernel
theorem d_Mod_write_1 : decode prog_12_method_2_code 1 = .ok (.dup, 1) := by decide +kernel
theorem d_Mod_write_2 : decode prog_12_method_2_code 2 = .ok (.getfield 82, 3) := by decide +kernel
theorem d_Mod_write_5 : decode prog_12_method_2_code 5 = .ok (.iconst 1, 1) := by decide +kernel
theorem d_Mod_write_6 : decode prog_12_method_2_code 6 = .ok (.iadd, 1) := by decide +kernel
theorem d_Mod_write_7 : decode prog_12_method_2_code 7 = .ok (.putfield 82, 3) := by decide +kernel
theorem d_Mod_write_10 : decode prog_12_method_2_code 10 = .ok (.aload_n 0, 1) := by decide +kernel
theorem d_Mod_write_11 : decode prog_12_method_2_code 11 = .ok (.getfield 24, 3) := by decide +kernel
theorem d_Mod_write_14 : decode prog_12_method_2_code 14 = .ok (.ifCond .le (25), 3) := by decide +kernel
theorem d_Mod_write_17 : decode prog_12_method_2_code 17 = .ok (.aload_n 0, 1) := by decide +kernel
theorem d_Mod_write_18 : decode prog_12_method_2_code 18 = .ok (.dup, 1) := by decide +kernel
theorem d_Mod_write_19 : decode prog_12_method_2_code 19 = .ok (.getfield 24, 3) := by decide +kernel
theorem d_Mod_write_22 : decode prog_12_method_2_code 22 = .ok (.iconst 1, 1) := by decide +kernel
theorem d_Mod_write_23 : decode prog_12_method_2_code 23 = .ok (.isub, 1) := by decide +kernel
theorem d_Mod_write_24 : decode prog_12_method_2_code 24 = .ok (.putfield 24, 3) := by decide +kernel
theorem d_Mod_write_27 : decode prog_12_method_2_code 27 = .ok (.aload_n 0, 1) := by decide +kernel
theorem d_Mod_write_28 : decode prog_12_method_2_code 28 = .ok (.getfield 24, 3) := by decide +kernel
theorem d_Mod_write_31 : decode prog_12_method_2_code 31 = .ok (.ifCond .ne (8), 3) := by decide +kernel
theorem d_Mod_write_34 : decode prog_12_method_2_code 34 = .ok (.aload_n 0, 1) := by decide +kernel
theorem d_Mod_write_35 : decode prog_12_method_2_code 35 = .ok (.iconst 1, 1) := by decide +kernel
theorem d_Mod_write_36 : decode prog_12_method_2_code 36 = .ok (.putfield 20, 3) := by decide +kernel
theorem d_Mod_write_39 : decode prog_12_method_2_code 39 = .ok (.aload_n 0, 1) := by decide +kernel
theorem d_Mod_write_40 : decode prog_12_method_2_code 40 = .ok (.getfield 20, 3) := by decide +kernel
theorem d_Mod_write_43 : decode prog_12_method_2_code 43 = .ok (.ifCond .ne (7), 3) := by decide +kernel
theorem d_Mod_write_46 : decode prog_12_method_2_code 46 = .ok (.iconst 1, 1) := by decide +kernel
theorem d_Mod_write_47 : decode prog_12_method_2_code 47 = .ok (.goto (4), 3) := by decide +kernel
theorem d_Mod_write_50 : decode prog_12_method_2_code 50 = .ok (.iconst 0, 1) := by decide +kernel
theorem d_Mod_write_51 : decode prog_12_method_2_code 51 = .ok (.ireturn, 1) := by decide +kernel
theorem d_Mod_journal_0 : decode prog_12_method_3_code 0 = .ok (.aload_n 0, 1) := by decide +kernel
theorem d_Mod_journal_1 : decode prog_12_method_3_code 1 = .ok (.getfield 79, 3) := by decide +kernel
theorem d_Mod_journal_4 : decode prog_12_method_3_code 4 = .ok (.bipush (40), 2) := by decide +kernel
theorem d_Mod_journal_6 : decode prog_12_method_3_code 6 = .ok (.if_icmp .ge (5), 3) := by decide +kernel
theorem d_Mod_journal_9 : decode prog_12_method_3_code 9 = .ok (.iconst 1, 1) := by decide +kernel
theorem d_Mod_journal_10 : decode prog_12_method_3_code 10 = .ok (.ireturn, 1) := by decide +kernel
theorem d_Mod_journal_11 : decode prog_12_method_3_code 11 = .ok (.aload_n 0, 1) := by decide +kernel
theorem d_Mod_journal_12 : decode prog_12_method_3_code 12 = .ok (.aload_n 0, 1) := by decide +kernel
theorem d_Mod_journal_13 : decode prog_12_method_3_code 13 = .ok (.getfield 58, 3) := by decide +kernel
theorem d_Mod_journal_16 : decode prog_12_method_3_code 16 = .ok (.putfield 79, 3) := by decide +kernel
theorem d_Mod_journal_19 : decode prog_12_method_3_code 19 = .ok (.aload_n 0, 1) := by decide +kernel
theorem d_Mod_journal_20 : decode prog_12_method_3_code 20 = .ok (.invokevirtual 94, 3) := by decide +kernel
theorem d_Mod_journal_23 : decode prog_12_method_3_code 23 = .ok (.ireturn, 1) := by decide +kernel
theorem d_Mod_isFree_0 : decode prog_12_method_4_code 0 = .ok (.iconst 0, 1) := by decide +kernel
theorem d_Mod_isFree_1 : decode prog_12_method_4_code 1 = .ok (.istore_n 2, 1) := by decide +kernel
theorem d_Mod_isFree_2 : decode prog_12_method_4_code 2 = .ok (.iload_n 2, 1) := by decide +kernel
theorem d_Mod_isFree_3 : decode prog_12_method_4_code 3 = .ok (.aload_n 0, 1) := by decide +kernel
theorem d_Mod_isFree_4 : decode prog_12_method_4_code 4 = .ok (.getfield 58, 3) := by decide +kernel
theorem d_Mod_isFree_7 : decode prog_12_method_4_code 7 = .ok (.if_icmp .ge (38), 3) := by decide +kernel
theorem d_Mod_isFree_10 : decode prog_12_method_4_code 10 = .ok (.iconst 0, 1) := by decide +kernel
theorem d_Mod_isFree_11 : decode prog_12_method_4_code 11 = .ok (.istore_n 3, 1) := by decide +kernel
theorem d_Mod_isFree_12 : decode prog_12_method_4_code 12 = .ok (.iload_n 3, 1) := by decide +kernel
theorem d_Mod_isFree_13 : decode prog_12_method_4_code 13 = .ok (.iconst 3, 1) := by decide +kernel
theorem d_Mod_isFree_14 : decode prog_12_method_4_code 14 = .ok (.if_icmp .ge (25), 3) := by decide +kernel
theorem d_Mod_isFree_17 : decode prog_12_method_4_code 17 = .ok (.aload_n 0, 1) := by decide +kernel
theorem d_Mod_isFree_18 : decode prog_12_method_4_code 18 = .ok (.getfield 70, 3) := by decide +kernel
theorem d_Mod_isFree_21 : decode prog_12_method_4_code 21 = .ok (.iconst 3, 1) := by decide +kernel
theorem d_Mod_isFree_22 : decode prog_12_method_4_code 22 = .ok (.iload_n 2, 1) := by decide +kernel
theorem d_Mod_isFree_23 : decode prog_12_method_4_code 23 = .ok (.imul, 1) := by decide +kernel
theorem d_Mod_isFree_24 : decode prog_12_method_4_code 24 = .ok (.iload_n 3, 1) := by decide +kernel
theorem d_Mod_isFree_25 : decode prog_12_method_4_code 25 = .ok (.iadd, 1) := by decide +kernel
theorem d_Mod_isFree_26 : decode prog_12_method_4_code 26 = .ok (.iaload, 1) := by decide +kernel
theorem d_Mod_isFree_27 : decode prog_12_method_4_code 27 = .ok (.iload_n 1, 1) := by decide +kernel
theorem d_Mod_isFree_28 : decode prog_12_method_4_code 28 = .ok (.if_icmp .ne (5), 3) := by decide +kernel
theorem d_Mod_isFree_31 : decode prog_12_method_4_code 31 = .ok (.iconst 0, 1) := by decide +kernel
theorem d_Mod_isFree_32 : decode prog_12_method_4_code 32 = .ok (.ireturn, 1) := by decide +kernel
theorem d_Mod_isFree_33 : decode prog_12_method_4_code 33 = .ok (.iinc 3 (1), 3) := by decide +kernel
theorem d_Mod_isFree_36 : decode prog_12_method_4_code 36 = .ok (.goto (-24), 3) := by decide +kernel
theorem d_Mod_isFree_39 : decode prog_12_method_4_code 39 = .ok (.iinc 2 (1), 3) := by decide +kernel
theorem d_Mod_isFree_42 : decode prog_12_method_4_code 42 = .ok (.goto (-40), 3) := by decide +kernel
theorem d_Mod_isFree_45 : decode prog_12_method_4_code 45 = .ok (.iconst 1, 1) := by decide +kernel
theorem d_Mod_isFree_46 : decode prog_12_method_4_code 46 = .ok (.ireturn, 1) := by decide +kernel
theorem d_Mod_freeBlocks_0 : decode prog_12_method_5_code 0 = .ok (.iconst 0, 1) := by decide +kernel
theorem d_Mod_freeBlocks_1 : decode prog_12_method_5_code 1 = .ok (.istore_n 1, 1) := by decide +kernel
theorem d_Mod_freeBlocks_2 : decode prog_12_method_5_code 2 = .ok (.iconst 0, 1) := by decide +kernel
theorem d_Mod_freeBlocks_3 : decode prog_12_method_5_code 3 = .ok (.istore_n 2, 1) := by decide +kernel
theorem d_Mod_freeBlocks_4 : decode prog_12_method_5_code 4 = .ok (.iload_n 2, 1) := by decide +kernel
theorem d_Mod_freeBlocks_5 : decode prog_12_method_5_code 5 = .ok (.bipush (24), 2) := by decide +kernel
theorem d_Mod_freeBlocks_7 : decode prog_12_method_5_code 7 = .ok (.if_icmp .ge (25), 3) := by decide +kernel
theorem d_Mod_freeBlocks_10 : decode prog_12_method_5_code 10 = .ok (.iload_n 1, 1) := by decide +kernel
theorem d_Mod_freeBlocks_11 : decode prog_12_method_5_code 11 = .ok (.aload_n 0, 1) := by decide +kernel
theorem d_Mod_freeBlocks_12 : decode prog_12_method_5_code 12 = .ok (.iload_n 2, 1) := by decide +kernel
theorem d_Mod_freeBlocks_13 : decode prog_12_method_5_code 13 = .ok (.invokevirtual 98, 3) := by decide +kernel
theorem d_Mod_freeBlocks_16 : decode prog_12_method_5_code 16 = .ok (.ifCond .eq (7), 3) := by decide +kernel
theorem d_Mod_freeBlocks_19 : decode prog_12_method_5_code 19 = .ok (.iconst 1, 1) := by decide +kernel
theorem d_Mod_freeBlocks_20 : decode prog_12_method_5_code 20 = .ok (.goto (4), 3) := by decide +kernel
theorem d_Mod_freeBlocks_23 : decode prog_12_method_5_code 23 = .ok (.iconst 0, 1) := by decide +kernel
theorem d_Mod_freeBlocks_24 : decode prog_12_method_5_code 24 = .ok (.iadd, 1) := by decide +kernel
theorem d_Mod_freeBlocks_25 : decode prog_12_method_5_code 25 = .ok (.istore_n 1, 1) := by decide +kernel
theorem d_Mod_freeBlocks_26 : decode prog_12_method_5_code 26 = .ok (.iinc 2 (1), 3) := by decide +kernel
theorem d_Mod_freeBlocks_29 : decode prog_12_method_5_code 29 = .ok (.goto (-25), 3) := by decide +kernel
theorem d_Mod_freeBlocks_32 : decode prog_12_method_5_code 32 = .ok (.iload_n 1, 1) := by decide +kernel
theorem d_Mod_freeBlocks_33 : decode prog_12_method_5_code 33 = .ok (.ireturn, 1) := by decide +kernel
theorem d_Mod_keepPacket_0 : decode prog_12_method_6_code 0 = .ok (.iconst 0, 1) := by decide +kernel
theorem d_Mod_keepPacket_1 : decode prog_12_method_6_code 1 = .ok (.istore 4, 2) := by decide +kernel
theorem d_Mod_keepPacket_3 : decode prog_12_method_6_code 3 = .ok (.iconst 0, 1) := by decide +kernel
theorem d_Mod_keepPacket_4 : decode prog_12_method_6_code 4 = .ok (.istore 5, 2) := by decide +kernel
theorem d_Mod_keepPacket_6 : decode prog_12_method_6_code 6 = .ok (.iload 5, 2) := by decide +kernel
theorem d_Mod_keepPacket_8 : decode prog_12_method_6_code 8 = .ok (.iconst 3, 1) := by decide +kernel
theorem d_Mod_keepPacket_9 : decode prog_12_method_6_code 9 = .ok (.if_icmp .ge (24), 3) := by decide +kernel
theorem d_Mod_keepPacket_12 : decode prog_12_method_6_code 12 = .ok (.aload_n 0, 1) := by decide +kernel
theorem d_Mod_keepPacket_13 : decode prog_12_method_6_code 13 = .ok (.getfield 70, 3) := by decide +kernel
theorem d_Mod_keepPacket_16 : decode prog_12_method_6_code 16 = .ok (.iconst 3, 1) := by decide +kernel
theorem d_Mod_keepPacket_17 : decode prog_12_method_6_code 17 = .ok (.aload_n 0, 1) := by decide +kernel
theorem d_Mod_keepPacket_18 : decode prog_12_method_6_code 18 = .ok (.getfield 58, 3) := by decide +kernel
theorem d_Mod_keepPacket_21 : decode prog_12_method_6_code 21 = .ok (.imul, 1) := by decide +kernel
theorem d_Mod_keepPacket_22 : decode prog_12_method_6_code 22 = .ok (.iload 5, 2) := by decide +kernel
theorem d_Mod_keepPacket_24 : decode prog_12_method_6_code 24 = .ok (.iadd, 1) := by decide +kernel
theorem d_Mod_keepPacket_25 : decode prog_12_method_6_code 25 = .ok (.iconst (-1), 1) := by decide +kernel
theorem d_Mod_keepPacket_26 : decode prog_12_method_6_code 26 = .ok (.iastore, 1) := by decide +kernel
theorem d_Mod_keepPacket_27 : decode prog_12_method_6_code 27 = .ok (.iinc 5 (1), 3) := by decide +kernel
theorem d_Mod_keepPacket_30 : decode prog_12_method_6_code 30 = .ok (.goto (-24), 3) := by decide +kernel
theorem d_Mod_keepPacket_33 : decode prog_12_method_6_code 33 = .ok (.iconst 0, 1) := by decide +kernel
theorem d_Mod_keepPacket_34 : decode prog_12_method_6_code 34 = .ok (.istore 5, 2) := by decide +kernel
theorem d_Mod_keepPacket_36 : decode prog_12_method_6_code 36 = .ok (.bipush (20), 2) := by decide +kernel
theorem d_Mod_keepPacket_38 : decode prog_12_method_6_code 38 = .ok (.iload 5, 2) := by decide +kernel
theorem d_Mod_keepPacket_40 : decode prog_12_method_6_code 40 = .ok (.imul, 1) := by decide +kernel
theorem d_Mod_keepPacket_41 : decode prog_12_method_6_code 41 = .ok (.iload_n 3, 1) := by decide +kernel
theorem d_Mod_keepPacket_42 : decode prog_12_method_6_code 42 = .ok (.if_icmp .ge (51), 3) := by decide +kernel
theorem d_Mod_keepPacket_45 : decode prog_12_method_6_code 45 = .ok (.aload_n 0, 1) := by decide +kernel
theorem d_Mod_keepPacket_46 : decode prog_12_method_6_code 46 = .ok (.iload 4, 2) := by decide +kernel
theorem d_Mod_keepPacket_48 : decode prog_12_method_6_code 48 = .ok (.invokevirtual 98, 3) := by decide +kernel
theorem d_Mod_keepPacket_51 : decode prog_12_method_6_code 51 = .ok (.ifCond .ne (9), 3) := by decide +kernel
theorem d_Mod_keepPacket_54 : decode prog_12_method_6_code 54 = .ok (.iinc 4 (1), 3) := by decide +kernel
theorem d_Mod_keepPacket_57 : decode prog_12_method_6_code 57 = .ok (.goto (-12), 3) := by decide +kernel
theorem d_Mod_keepPacket_60 : decode prog_12_method_6_code 60 = .ok (.aload_n 0, 1) := by decide +kernel
theorem d_Mod_keepPacket_61 : decode prog_12_method_6_code 61 = .ok (.getfield 70, 3) := by decide +kernel
theorem d_Mod_keepPacket_64 : decode prog_12_method_6_code 64 = .ok (.iconst 3, 1) := by decide +kernel
theorem d_Mod_keepPacket_65 : decode prog_12_method_6_code 65 = .ok (.aload_n 0, 1) := by decide +kernel
theorem d_Mod_keepPacket_66 : decode prog_12_method_6_code 66 = .ok (.getfield 58, 3) := by decide +kernel
theorem d_Mod_keepPacket_69 : decode prog_12_method_6_code 69 = .ok (.imul, 1) := by decide +kernel
theorem d_Mod_keepPacket_70 : decode prog_12_method_6_code 70 = .ok (.iload 5, 2) := by decide +kernel
theorem d_Mod_keepPacket_72 : decode prog_12_method_6_code 72 = .ok (.iadd, 1) := by decide +kernel
theorem d_Mod_keepPacket_73 : decode prog_12_method_6_code 73 = .ok (.iload 4, 2) := by decide +kernel
theorem d_Mod_keepPacket_75 : decode prog_12_method_6_code 75 = .ok (.iastore, 1) := by decide +kernel
theorem d_Mod_keepPacket_76 : decode prog_12_method_6_code 76 = .ok (.iinc 4 (1), 3) := by decide +kernel
theorem d_Mod_keepPacket_79 : decode prog_12_method_6_code 79 = .ok (.aload_n 0, 1) := by decide +kernel
theorem d_Mod_keepPacket_80 : decode prog_12_method_6_code 80 = .ok (.invokevirtual 94, 3) := by decide +kernel
theorem d_Mod_keepPacket_83 : decode prog_12_method_6_code 83 = .ok (.ifCond .ne (4), 3) := by decide +kernel
theorem d_Mod_keepPacket_86 : decode prog_12_method_6_code 86 = .ok (.return_, 1) := by decide +kernel
theorem d_Mod_keepPacket_87 : decode prog_12_method_6_code 87 = .ok (.iinc 5 (1), 3) := by decide +kernel
theorem d_Mod_keepPacket_90 : decode prog_12_method_6_code 90 = .ok (.goto (-54), 3) := by decide +kernel
theorem d_Mod_keepPacket_93 : decode prog_12_method_6_code 93 = .ok (.aload_n 0, 1) := by decide +kernel
theorem d_Mod_keepPacket_94 : decode prog_12_method_6_code 94 = .ok (.invokevirtual 102, 3) := by decide +kernel
theorem d_Mod_keepPacket_97 : decode prog_12_method_6_code 97 = .ok (.ifCond .ne (4), 3) := by decide +kernel
theorem d_Mod_keepPacket_100 : decode prog_12_method_6_code 100 = .ok (.return_, 1) := by decide +kernel
theorem d_Mod_keepPacket_101 : decode prog_12_method_6_code 101 = .ok (.aload_n 0, 1) := by decide +kernel
theorem d_Mod_keepPacket_102 : decode prog_12_method_6_code 102 = .ok (.dup, 1) := by decide +kernel
theorem d_Mod_keepPacket_103 : decode prog_12_method_6_code 103 = .ok (.getfield 79, 3) := by decide +kernel
theorem d_Mod_keepPacket_106 : decode prog_12_method_6_code 106 = .ok (.iconst 1, 1) := by decide +kernel
theorem d_Mod_keepPacket_107 : decode prog_12_method_6_code 107 = .ok (.iadd, 1) := by decide +kernel
theorem d_Mod_keepPacket_108 : decode prog_12_method_6_code 108 = .ok (.putfield 79, 3) := by decide +kernel
theorem d_Mod_keepPacket_111 : decode prog_12_method_6_code 111 = .ok (.iconst 0, 1) := by decide +kernel
theorem d_Mod_keepPacket_112 : decode prog_12_method_6_code 112 = .ok (.istore 5, 2) := by decide +kernel
theorem d_Mod_keepPacket_114 : decode prog_12_method_6_code 114 = .ok (.iload 5, 2) := by decide +kernel
theorem d_Mod_keepPacket_116 : decode prog_12_method_6_code 116 = .ok (.iload_n 3, 1) := by decide +kernel
theorem d_Mod_keepPacket_117 : decode prog_12_method_6_code 117 = .ok (.if_icmp .ge (30), 3) := by decide +kernel
theorem d_Mod_keepPacket_120 : decode prog_12_method_6_code 120 = .ok (.aload_n 0, 1) := by decide +kernel
theorem d_Mod_keepPacket_121 : decode prog_12_method_6_code 121 = .ok (.getfield 67, 3) := by decide +kernel
theorem d_Mod_keepPacket_124 : decode prog_12_method_6_code 124 = .ok (.bipush (60), 2) := by decide +kernel
theorem d_Mod_keepPacket_126 : decode prog_12_method_6_code 126 = .ok (.aload_n 0, 1) := by decide +kernel
theorem d_Mod_keepPacket_127 : decode prog_12_method_6_code 127 = .ok (.getfield 58, 3) := by decide +kernel
theorem d_Mod_keepPacket_130 : decode prog_12_method_6_code 130 = .ok (.imul, 1) := by decide +kernel
theorem d_Mod_keepPacket_131 : decode prog_12_method_6_code 131 = .ok (.iload 5, 2) := by decide +kernel
theorem d_Mod_keepPacket_133 : decode prog_12_method_6_code 133 = .ok (.iadd, 1) := by decide +kernel
theorem d_Mod_keepPacket_134 : decode prog_12_method_6_code 134 = .ok (.aload_n 1, 1) := by decide +kernel
theorem d_Mod_keepPacket_135 : decode prog_12_method_6_code 135 = .ok (.iload_n 2, 1) := by decide +kernel
theorem d_Mod_keepPacket_136 : decode prog_12_method_6_code 136 = .ok (.iload 5, 2) := by decide +kernel
theorem d_Mod_keepPacket_138 : decode prog_12_method_6_code 138 = .ok (.iadd, 1) := by decide +kernel
theorem d_Mod_keepPacket_139 : decode prog_12_method_6_code 139 = .ok (.iaload, 1) := by decide +kernel
theorem d_Mod_keepPacket_140 : decode prog_12_method_6_code 140 = .ok (.iastore, 1) := by decide +kernel
theorem d_Mod_keepPacket_141 : decode prog_12_method_6_code 141 = .ok (.iinc 5 (1), 3) := by decide +kernel
theorem d_Mod_keepPacket_144 : decode prog_12_method_6_code 144 = .ok (.goto (-30), 3) := by decide +kernel
theorem d_Mod_keepPacket_147 : decode prog_12_method_6_code 147 = .ok (.aload_n 0, 1) := by decide +kernel
theorem d_Mod_keepPacket_148 : decode prog_12_method_6_code 148 = .ok (.getfield 61, 3) := by decide +kernel
theorem d_Mod_keepPacket_151 : decode prog_12_method_6_code 151 = .ok (.aload_n 0, 1) := by decide +kernel
theorem d_Mod_keepPacket_152 : decode prog_12_method_6_code 152 = .ok (.getfield 58, 3) := by decide +kernel
theorem d_Mod_keepPacket_155 : decode prog_12_method_6_code 155 = .ok (.aload_n 0, 1) := by decide +kernel
theorem d_Mod_keepPacket_156 : decode prog_12_method_6_code 156 = .ok (.getfield 76, 3) := by decide +kernel
theorem d_Mod_keepPacket_159 : decode prog_12_method_6_code 159 = .ok (.iastore, 1) := by decide +kernel
theorem d_Mod_keepPacket_160 : decode prog_12_method_6_code 160 = .ok (.aload_n 0, 1) := by decide +kernel
theorem d_Mod_keepPacket_161 : decode prog_12_method_6_code 161 = .ok (.getfield 64, 3) := by decide +kernel
theorem d_Mod_keepPacket_164 : decode prog_12_method_6_code 164 = .ok (.aload_n 0, 1) := by decide +kernel
theorem d_Mod_keepPacket_165 : decode prog_12_method_6_code 165 = .ok (.getfield 58, 3) := by decide +kernel
theorem d_Mod_keepPacket_168 : decode prog_12_method_6_code 168 = .ok (.iload_n 3, 1) := by decide +kernel
theorem d_Mod_keepPacket_169 : decode prog_12_method_6_code 169 = .ok (.iastore, 1) := by decide +kernel
theorem d_Mod_keepPacket_170 : decode prog_12_method_6_code 170 = .ok (.aload_n 0, 1) := by decide +kernel
theorem d_Mod_keepPacket_171 : decode prog_12_method_6_code 171 = .ok (.getfield 73, 3) := by decide +kernel
theorem d_Mod_keepPacket_174 : decode prog_12_method_6_code 174 = .ok (.aload_n 0, 1) := by decide +kernel
theorem d_Mod_keepPacket_175 : decode prog_12_method_6_code 175 = .ok (.getfield 58, 3) := by decide +kernel
theorem d_Mod_keepPacket_178 : decode prog_12_method_6_code 178 = .ok (.iconst 0, 1) := by decide +kernel
theorem d_Mod_keepPacket_179 : decode prog_12_method_6_code 179 = .ok (.iastore, 1) := by decide +kernel
theorem d_Mod_keepPacket_180 : decode prog_12_method_6_code 180 = .ok (.aload_n 0, 1) := by decide +kernel
theorem d_Mod_keepPacket_181 : decode prog_12_method_6_code 181 = .ok (.dup, 1) := by decide +kernel
theorem d_Mod_keepPacket_182 : decode prog_12_method_6_code 182 = .ok (.getfield 76, 3) := by decide +kernel
theorem d_Mod_keepPacket_185 : decode prog_12_method_6_code 185 = .ok (.iconst 1, 1) := by decide +kernel
theorem d_Mod_keepPacket_186 : decode prog_12_method_6_code 186 = .ok (.iadd, 1) := by decide +kernel
theorem d_Mod_keepPacket_187 : decode prog_12_method_6_code 187 = .ok (.putfield 76, 3) := by decide +kernel
theorem d_Mod_keepPacket_190 : decode prog_12_method_6_code 190 = .ok (.aload_n 0, 1) := by decide +kernel
theorem d_Mod_keepPacket_191 : decode prog_12_method_6_code 191 = .ok (.dup, 1) := by decide +kernel
theorem d_Mod_keepPacket_192 : decode prog_12_method_6_code 192 = .ok (.getfield 58, 3) := by decide +kernel
theorem d_Mod_keepPacket_195 : decode prog_12_method_6_code 195 = .ok (.iconst 1, 1) := by decide +kernel
theorem d_Mod_keepPacket_196 : decode prog_12_method_6_code 196 = .ok (.iadd, 1) := by decide +kernel
theorem d_Mod_keepPacket_197 : decode prog_12_method_6_code 197 = .ok (.putfield 58, 3) := by decide +kernel
theorem d_Mod_keepPacket_200 : decode prog_12_method_6_code 200 = .ok (.aload_n 0, 1) := by decide +kernel
theorem d_Mod_keepPacket_201 : decode prog_12_method_6_code 201 = .ok (.invokevirtual 94, 3) := by decide +kernel
theorem d_Mod_keepPacket_204 : decode prog_12_method_6_code 204 = .ok (.pop, 1) := by decide +kernel
theorem d_Mod_keepPacket_205 : decode prog_12_method_6_code 205 = .ok (.return_, 1) := by decide +kernel
theorem d_Mod_drop_0 : decode prog_12_method_7_code 0 = .ok (.aload_n 0, 1) := by decide +kernel
theorem d_Mod_drop_1 : decode prog_12_method_7_code 1 = .ok (.invokevirtual 102, 3) := by decide +kernel
theorem d_Mod_drop_4 : decode prog_12_method_7_code 4 = .ok (.ifCond .ne (4), 3) := by decide +kernel
theorem d_Mod_drop_7 : decode prog_12_method_7_code 7 = .ok (.return_, 1) := by decide +kernel
theorem d_Mod_drop_8 : decode prog_12_method_7_code 8 = .ok (.aload_n 0, 1) := by decide +kernel
theorem d_Mod_drop_9 : decode prog_12_method_7_code 9 = .ok (.dup, 1) := by decide +kernel
theorem d_Mod_drop_10 : decode prog_12_method_7_code 10 = .ok (.getfield 79, 3) := by decide +kernel
theorem d_Mod_drop_13 : decode prog_12_method_7_code 13 = .ok (.iconst 1, 1) := by decide +kernel
theorem d_Mod_drop_14 : decode prog_12_method_7_code 14 = .ok (.iadd, 1) := by decide +kernel
theorem d_Mod_drop_15 : decode prog_12_method_7_code 15 = .ok (.putfield 79, 3) := by decide +kernel
theorem d_Mod_drop_18 : decode prog_12_method_7_code 18 = .ok (.aload_n 0, 1) := by decide +kernel
theorem d_Mod_drop_19 : decode prog_12_method_7_code 19 = .ok (.dup, 1) := by decide +kernel
theorem d_Mod_drop_20 : decode prog_12_method_7_code 20 = .ok (.getfield 58, 3) := by decide +kernel
theorem d_Mod_drop_23 : decode prog_12_method_7_code 23 = .ok (.iconst 1, 1) := by decide +kernel
theorem d_Mod_drop_24 : decode prog_12_method_7_code 24 = .ok (.isub, 1) := by decide +kernel
theorem d_Mod_drop_25 : decode prog_12_method_7_code 25 = .ok (.putfield 58, 3) := by decide +kernel
theorem d_Mod_drop_28 : decode prog_12_method_7_code 28 = .ok (.iload_n 1, 1) := by decide +kernel
theorem d_Mod_drop_29 : decode prog_12_method_7_code 29 = .ok (.istore_n 2, 1) := by decide +kernel
theorem d_Mod_drop_30 : decode prog_12_method_7_code 30 = .ok (.iload_n 2, 1) := by decide +kernel
theorem d_Mod_drop_31 : decode prog_12_method_7_code 31 = .ok (.aload_n 0, 1) := by decide +kernel
theorem d_Mod_drop_32 : decode prog_12_method_7_code 32 = .ok (.getfield 58, 3) := by decide +kernel
theorem d_Mod_drop_35 : decode prog_12_method_7_code 35 = .ok (.if_icmp .ge (125), 3) := by decide +kernel
theorem d_Mod_drop_38 : decode prog_12_method_7_code 38 = .ok (.aload_n 0, 1) := by decide +kernel
theorem d_Mod_drop_39 : decode prog_12_method_7_code 39 = .ok (.getfield 61, 3) := by decide +kernel
theorem d_Mod_drop_42 : decode prog_12_method_7_code 42 = .ok (.iload_n 2, 1) := by decide +kernel
theorem d_Mod_drop_43 : decode prog_12_method_7_code 43 = .ok (.aload_n 0, 1) := by decide +kernel
theorem d_Mod_drop_44 : decode prog_12_method_7_code 44 = .ok (.getfield 61, 3) := by decide +kernel
theorem d_Mod_drop_47 : decode prog_12_method_7_code 47 = .ok (.iload_n 2, 1) := by decide +kernel
theorem d_Mod_drop_48 : decode prog_12_method_7_code 48 = .ok (.iconst 1, 1) := by decide +kernel
theorem d_Mod_drop_49 : decode prog_12_method_7_code 49 = .ok (.iadd, 1) := by decide +kernel
theorem d_Mod_drop_50 : decode prog_12_method_7_code 50 = .ok (.iaload, 1) := by decide +kernel
theorem d_Mod_drop_51 : decode prog_12_method_7_code 51 = .ok (.iastore, 1) := by decide +kernel
theorem d_Mod_drop_52 : decode prog_12_method_7_code 52 = .ok (.aload_n 0, 1) := by decide +kernel
theorem d_Mod_drop_53 : decode prog_12_method_7_code 53 = .ok (.getfield 64, 3) := by decide +kernel
theorem d_Mod_drop_56 : decode prog_12_method_7_code 56 = .ok (.iload_n 2, 1) := by decide +kernel
theorem d_Mod_drop_57 : decode prog_12_method_7_code 57 = .ok (.aload_n 0, 1) := by decide +kernel
theorem d_Mod_drop_58 : decode prog_12_method_7_code 58 = .ok (.getfield 64, 3) := by decide +kernel
theorem d_Mod_drop_61 : decode prog_12_method_7_code 61 = .ok (.iload_n 2, 1) := by decide +kernel
theorem d_Mod_drop_62 : decode prog_12_method_7_code 62 = .ok (.iconst 1, 1) := by decide +kernel
theorem d_Mod_drop_63 : decode prog_12_method_7_code 63 = .ok (.iadd, 1) := by decide +kernel
theorem d_Mod_drop_64 : decode prog_12_method_7_code 64 = .ok (.iaload, 1) := by decide +kernel
theorem d_Mod_drop_65 : decode prog_12_method_7_code 65 = .ok (.iastore, 1) := by decide +kernel
theorem d_Mod_drop_66 : decode prog_12_method_7_code 66 = .ok (.aload_n 0, 1) := by decide +kernel
theorem d_Mod_drop_67 : decode prog_12_method_7_code 67 = .ok (.getfield 73, 3) := by decide +kernel
theorem d_Mod_drop_70 : decode prog_12_method_7_code 70 = .ok (.iload_n 2, 1) := by decide +kernel
theorem d_Mod_drop_71 : decode prog_12_method_7_code 71 = .ok (.aload_n 0, 1) := by decide +kernel
theorem d_Mod_drop_72 : decode prog_12_method_7_code 72 = .ok (.getfield 73, 3) := by decide +kernel
theorem d_Mod_drop_75 : decode prog_12_method_7_code 75 = .ok (.iload_n 2, 1) := by decide +kernel
theorem d_Mod_drop_76 : decode prog_12_method_7_code 76 = .ok (.iconst 1, 1) := by decide +kernel
theorem d_Mod_drop_77 : decode prog_12_method_7_code 77 = .ok (.iadd, 1) := by decide +kernel
theorem d_Mod_drop_78 : decode prog_12_method_7_code 78 = .ok (.iaload, 1) := by decide +kernel
theorem d_Mod_drop_79 : decode prog_12_method_7_code 79 = .ok (.iastore, 1) := by decide +kernel
theorem d_Mod_drop_80 : decode prog_12_method_7_code 80 = .ok (.iconst 0, 1) := by decide +kernel
theorem d_Mod_drop_81 : decode prog_12_method_7_code 81 = .ok (.istore_n 3, 1) := by decide +kernel
theorem d_Mod_drop_82 : decode prog_12_method_7_code 82 = .ok (.iload_n 3, 1) := by decide +kernel
theorem d_Mod_drop_83 : decode prog_12_method_7_code 83 = .ok (.bipush (60), 2) := by decide +kernel
theorem d_Mod_drop_85 : decode prog_12_method_7_code 85 = .ok (.if_icmp .ge (34), 3) := by decide +kernel
theorem d_Mod_drop_88 : decode prog_12_method_7_code 88 = .ok (.aload_n 0, 1) := by decide +kernel
theorem d_Mod_drop_89 : decode prog_12_method_7_code 89 = .ok (.getfield 67, 3) := by decide +kernel
theorem d_Mod_drop_92 : decode prog_12_method_7_code 92 = .ok (.bipush (60), 2) := by decide +kernel
theorem d_Mod_drop_94 : decode prog_12_method_7_code 94 = .ok (.iload_n 2, 1) := by decide +kernel
theorem d_Mod_drop_95 : decode prog_12_method_7_code 95 = .ok (.imul, 1) := by decide +kernel
theorem d_Mod_drop_96 : decode prog_12_method_7_code 96 = .ok (.iload_n 3, 1) := by decide +kernel
theorem d_Mod_drop_97 : decode prog_12_method_7_code 97 = .ok (.iadd, 1) := by decide +kernel
theorem d_Mod_drop_98 : decode prog_12_method_7_code 98 = .ok (.aload_n 0, 1) := by decide +kernel
theorem d_Mod_drop_99 : decode prog_12_method_7_code 99 = .ok (.getfield 67, 3) := by decide +kernel
theorem d_Mod_drop_102 : decode prog_12_method_7_code 102 = .ok (.bipush (60), 2) := by decide +kernel
theorem d_Mod_drop_104 : decode prog_12_method_7_code 104 = .ok (.iload_n 2, 1) := by decide +kernel
theorem d_Mod_drop_105 : decode prog_12_method_7_code 105 = .ok (.imul, 1) := by decide +kernel
theorem d_Mod_drop_106 : decode prog_12_method_7_code 106 = .ok (.bipush (60), 2) := by decide +kernel
theorem d_Mod_drop_108 : decode prog_12_method_7_code 108 = .ok (.iadd, 1) := by decide +kernel
theorem d_Mod_drop_109 : decode prog_12_method_7_code 109 = .ok (.iload_n 3, 1) := by decide +kernel
theorem d_Mod_drop_110 : decode prog_12_method_7_code 110 = .ok (.iadd, 1) := by decide +kernel
theorem d_Mod_drop_111 : decode prog_12_method_7_code 111 = .ok (.iaload, 1) := by decide +kernel
theorem d_Mod_drop_112 : decode prog_12_method_7_code 112 = .ok (.iastore, 1) := by decide +kernel
theorem d_Mod_drop_113 : decode prog_12_method_7_code 113 = .ok (.iinc 3 (1), 3) := by decide +kernel
theorem d_Mod_drop_116 : decode prog_12_method_7_code 116 = .ok (.goto (-34), 3) := by decide +kernel
theorem d_Mod_drop_119 : decode prog_12_method_7_code 119 = .ok (.iconst 0, 1) := by decide +kernel
theorem d_Mod_drop_120 : decode prog_12_method_7_code 120 = .ok (.istore_n 3, 1) := by decide +kernel
theorem d_Mod_drop_121 : decode prog_12_method_7_code 121 = .ok (.iload_n 3, 1) := by decide +kernel
theorem d_Mod_drop_122 : decode prog_12_method_7_code 122 = .ok (.iconst 3, 1) := by decide +kernel
theorem d_Mod_drop_123 : decode prog_12_method_7_code 123 = .ok (.if_icmp .ge (31), 3) := by decide +kernel
theorem d_Mod_drop_126 : decode prog_12_method_7_code 126 = .ok (.aload_n 0, 1) := by decide +kernel
theorem d_Mod_drop_127 : decode prog_12_method_7_code 127 = .ok (.getfield 70, 3) := by decide +kernel
theorem d_Mod_drop_130 : decode prog_12_method_7_code 130 = .ok (.iconst 3, 1) := by decide +kernel
theorem d_Mod_drop_131 : decode prog_12_method_7_code 131 = .ok (.iload_n 2, 1) := by decide +kernel
theorem d_Mod_drop_132 : decode prog_12_method_7_code 132 = .ok (.imul, 1) := by decide +kernel
theorem d_Mod_drop_133 : decode prog_12_method_7_code 133 = .ok (.iload_n 3, 1) := by decide +kernel
theorem d_Mod_drop_134 : decode prog_12_method_7_code 134 = .ok (.iadd, 1) := by decide +kernel
theorem d_Mod_drop_135 : decode prog_12_method_7_code 135 = .ok (.aload_n 0, 1) := by decide +kernel
theorem d_Mod_drop_136 : decode prog_12_method_7_code 136 = .ok (.getfield 70, 3) := by decide +kernel
theorem d_Mod_drop_139 : decode prog_12_method_7_code 139 = .ok (.iconst 3, 1) := by decide +kernel
theorem d_Mod_drop_140 : decode prog_12_method_7_code 140 = .ok (.iload_n 2, 1) := by decide +kernel
theorem d_Mod_drop_141 : decode prog_12_method_7_code 141 = .ok (.imul, 1) := by decide +kernel
theorem d_Mod_drop_142 : decode prog_12_method_7_code 142 = .ok (.iconst 3, 1) := by decide +kernel
theorem d_Mod_drop_143 : decode prog_12_method_7_code 143 = .ok (.iadd, 1) := by decide +kernel
theorem d_Mod_drop_144 : decode prog_12_method_7_code 144 = .ok (.iload_n 3, 1) := by decide +kernel
theorem d_Mod_drop_145 : decode prog_12_method_7_code 145 = .ok (.iadd, 1) := by decide +kernel
theorem d_Mod_drop_146 : decode prog_12_method_7_code 146 = .ok (.iaload, 1) := by decide +kernel
theorem d_Mod_drop_147 : decode prog_12_method_7_code 147 = .ok (.iastore, 1) := by decide +kernel
theorem d_Mod_drop_148 : decode prog_12_method_7_code 148 = .ok (.iinc 3 (1), 3) := by decide +kernel
theorem d_Mod_drop_151 : decode prog_12_method_7_code 151 = .ok (.goto (-30), 3) := by decide +kernel
theorem d_Mod_drop_154 : decode prog_12_method_7_code 154 = .ok (.iinc 2 (1), 3) := by decide +kernel
theorem d_Mod_drop_157 : decode prog_12_method_7_code 157 = .ok (.goto (-127), 3) := by decide +kernel
theorem d_Mod_drop_160 : decode prog_12_method_7_code 160 = .ok (.aload_n 0, 1) := by decide +kernel
theorem d_Mod_drop_161 : decode prog_12_method_7_code 161 = .ok (.invokevirtual 94, 3) := by decide +kernel
theorem d_Mod_drop_164 : decode prog_12_method_7_code 164 = .ok (.pop, 1) := by decide +kernel
theorem d_Mod_drop_165 : decode prog_12_method_7_code 165 = .ok (.return_, 1) := by decide +kernel
theorem d_Mod_packetAt_0 : decode prog_12_method_8_code 0 = .ok (.iload_n 1, 1) := by decide +kernel
theorem d_Mod_packetAt_1 : decode prog_12_method_8_code 1 = .ok (.bipush (7), 2) := by decide +kernel
theorem d_Mod_packetAt_3 : decode prog_12_method_8_code 3 = .ok (.iadd, 1) := by decide +kernel
theorem d_Mod_packetAt_4 : decode prog_12_method_8_code 4 = .ok (.iload_n 2, 1) := by decide +kernel
theorem d_Mod_packetAt_5 : decode prog_12_method_8_code 5 = .ok (.if_icmp .gt (19), 3) := by decide +kernel
theorem d_Mod_packetAt_8 : decode prog_12_method_8_code 8 = .ok (.aload_n 0, 1) := by decide +kernel
theorem d_Mod_packetAt_9 : decode prog_12_method_8_code 9 = .ok (.iload_n 1, 1) := by decide +kernel
theorem d_Mod_packetAt_10 : decode prog_12_method_8_code 10 = .ok (.iaload, 1) := by decide +kernel
theorem d_Mod_packetAt_11 : decode prog_12_method_8_code 11 = .ok (.bipush (8), 2) := by decide +kernel
theorem d_Mod_packetAt_13 : decode prog_12_method_8_code 13 = .ok (.if_icmp .lt (11), 3) := by decide +kernel
theorem d_Mod_packetAt_16 : decode prog_12_method_8_code 16 = .ok (.aload_n 0, 1) := by decide +kernel
theorem d_Mod_packetAt_17 : decode prog_12_method_8_code 17 = .ok (.iload_n 1, 1) := by decide +kernel
theorem d_Mod_packetAt_18 : decode prog_12_method_8_code 18 = .ok (.iaload, 1) := by decide +kernel
theorem d_Mod_packetAt_19 : decode prog_12_method_8_code 19 = .ok (.bipush (15), 2) := by decide +kernel
theorem d_Mod_packetAt_21 : decode prog_12_method_8_code 21 = .ok (.if_icmp .le (5), 3) := by decide +kernel
theorem d_Mod_packetAt_24 : decode prog_12_method_8_code 24 = .ok (.iconst 0, 1) := by decide +kernel
theorem d_Mod_packetAt_25 : decode prog_12_method_8_code 25 = .ok (.ireturn, 1) := by decide +kernel
theorem d_Mod_packetAt_26 : decode prog_12_method_8_code 26 = .ok (.aload_n 0, 1) := by decide +kernel
theorem d_Mod_packetAt_27 : decode prog_12_method_8_code 27 = .ok (.iload_n 1, 1) := by decide +kernel
theorem d_Mod_packetAt_28 : decode prog_12_method_8_code 28 = .ok (.iconst 4, 1) := by decide +kernel
theorem d_Mod_packetAt_29 : decode prog_12_method_8_code 29 = .ok (.iadd, 1) := by decide +kernel
theorem d_Mod_packetAt_30 : decode prog_12_method_8_code 30 = .ok (.iaload, 1) := by decide +kernel
theorem d_Mod_packetAt_31 : decode prog_12_method_8_code 31 = .ok (.sipush (256), 3) := by decide +kernel
theorem d_Mod_packetAt_34 : decode prog_12_method_8_code 34 = .ok (.imul, 1) := by decide +kernel
theorem d_Mod_packetAt_35 : decode prog_12_method_8_code 35 = .ok (.aload_n 0, 1) := by decide +kernel
theorem d_Mod_packetAt_36 : decode prog_12_method_8_code 36 = .ok (.iload_n 1, 1) := by decide +kernel
theorem d_Mod_packetAt_37 : decode prog_12_method_8_code 37 = .ok (.iconst 5, 1) := by decide +kernel
theorem d_Mod_packetAt_38 : decode prog_12_method_8_code 38 = .ok (.iadd, 1) := by decide +kernel
theorem d_Mod_packetAt_39 : decode prog_12_method_8_code 39 = .ok (.iaload, 1) := by decide +kernel
theorem d_Mod_packetAt_40 : decode prog_12_method_8_code 40 = .ok (.iadd, 1) := by decide +kernel
theorem d_Mod_packetAt_41 : decode prog_12_method_8_code 41 = .ok (.bipush (7), 2) := by decide +kernel
theorem d_Mod_packetAt_43 : decode prog_12_method_8_code 43 = .ok (.iadd, 1) := by decide +kernel
theorem d_Mod_packetAt_44 : decode prog_12_method_8_code 44 = .ok (.istore_n 3, 1) := by decide +kernel
theorem d_Mod_packetAt_45 : decode prog_12_method_8_code 45 = .ok (.iload_n 3, 1) := by decide +kernel
theorem d_Mod_packetAt_46 : decode prog_12_method_8_code 46 = .ok (.bipush (60), 2) := by decide +kernel
theorem d_Mod_packetAt_48 : decode prog_12_method_8_code 48 = .ok (.if_icmp .gt (14), 3) := by decide +kernel
theorem d_Mod_packetAt_51 : decode prog_12_method_8_code 51 = .ok (.iload_n 1, 1) := by decide +kernel
theorem d_Mod_packetAt_52 : decode prog_12_method_8_code 52 = .ok (.iload_n 3, 1) := by decide +kernel
theorem d_Mod_packetAt_53 : decode prog_12_method_8_code 53 = .ok (.iadd, 1) := by decide +kernel
theorem d_Mod_packetAt_54 : decode prog_12_method_8_code 54 = .ok (.iload_n 2, 1) := by decide +kernel
theorem d_Mod_packetAt_55 : decode prog_12_method_8_code 55 = .ok (.if_icmp .gt (7), 3) := by decide +kernel
theorem d_Mod_packetAt_58 : decode prog_12_method_8_code 58 = .ok (.iload_n 3, 1) := by decide +kernel
theorem d_Mod_packetAt_59 : decode prog_12_method_8_code 59 = .ok (.goto (4), 3) := by decide +kernel
theorem d_Mod_packetAt_62 : decode prog_12_method_8_code 62 = .ok (.iconst 0, 1) := by decide +kernel
theorem d_Mod_packetAt_63 : decode prog_12_method_8_code 63 = .ok (.ireturn, 1) := by decide +kernel
theorem d_Mod_blocksOf_0 : decode prog_12_method_9_code 0 = .ok (.iload_n 0, 1) := by decide +kernel
theorem d_Mod_blocksOf_1 : decode prog_12_method_9_code 1 = .ok (.bipush (19), 2) := by decide +kernel
theorem d_Mod_blocksOf_3 : decode prog_12_method_9_code 3 = .ok (.iadd, 1) := by decide +kernel
theorem d_Mod_blocksOf_4 : decode prog_12_method_9_code 4 = .ok (.bipush (20), 2) := by decide +kernel
theorem d_Mod_blocksOf_6 : decode prog_12_method_9_code 6 = .ok (.idiv, 1) := by decide +kernel
theorem d_Mod_blocksOf_7 : decode prog_12_method_9_code 7 = .ok (.ireturn, 1) := by decide +kernel
theorem d_Mod_packetsIn_0 : decode prog_12_method_10_code 0 = .ok (.iconst 0, 1) := by decide +kernel
theorem d_Mod_packetsIn_1 : decode prog_12_method_10_code 1 = .ok (.istore 4, 2) := by decide +kernel
theorem d_Mod_packetsIn_3 : decode prog_12_method_10_code 3 = .ok (.iload_n 1, 1) := by decide +kernel
theorem d_Mod_packetsIn_4 : decode prog_12_method_10_code 4 = .ok (.istore 5, 2) := by decide +kernel
theorem d_Mod_packetsIn_6 : decode prog_12_method_10_code 6 = .ok (.aload_n 0, 1) := by decide +kernel
theorem d_Mod_packetsIn_7 : decode prog_12_method_10_code 7 = .ok (.getfield 27, 3) := by decide +kernel
theorem d_Mod_packetsIn_10 : decode prog_12_method_10_code 10 = .ok (.iload 5, 2) := by decide +kernel
theorem d_Mod_packetsIn_12 : decode prog_12_method_10_code 12 = .ok (.iload_n 2, 1) := by decide +kernel
theorem d_Mod_packetsIn_13 : decode prog_12_method_10_code 13 = .ok (.invokestatic 105, 3) := by decide +kernel
theorem d_Mod_packetsIn_16 : decode prog_12_method_10_code 16 = .ok (.istore 6, 2) := by decide +kernel
theorem d_Mod_packetsIn_18 : decode prog_12_method_10_code 18 = .ok (.iload 6, 2) := by decide +kernel
theorem d_Mod_packetsIn_20 : decode prog_12_method_10_code 20 = .ok (.ifCond .le (35), 3) := by decide +kernel
theorem d_Mod_packetsIn_23 : decode prog_12_method_10_code 23 = .ok (.iload 4, 2) := by decide +kernel
theorem d_Mod_packetsIn_25 : decode prog_12_method_10_code 25 = .ok (.iload 6, 2) := by decide +kernel
theorem d_Mod_packetsIn_27 : decode prog_12_method_10_code 27 = .ok (.invokestatic 109, 3) := by decide +kernel
theorem d_Mod_packetsIn_30 : decode prog_12_method_10_code 30 = .ok (.iadd, 1) := by decide +kernel
theorem d_Mod_packetsIn_31 : decode prog_12_method_10_code 31 = .ok (.istore 4, 2) := by decide +kernel
theorem d_Mod_packetsIn_33 : decode prog_12_method_10_code 33 = .ok (.iload 5, 2) := by decide +kernel
theorem d_Mod_packetsIn_35 : decode prog_12_method_10_code 35 = .ok (.iload 6, 2) := by decide +kernel
theorem d_Mod_packetsIn_37 : decode prog_12_method_10_code 37 = .ok (.iadd, 1) := by decide +kernel
theorem d_Mod_packetsIn_38 : decode prog_12_method_10_code 38 = .ok (.istore 5, 2) := by decide +kernel
theorem d_Mod_packetsIn_40 : decode prog_12_method_10_code 40 = .ok (.aload_n 0, 1) := by decide +kernel
theorem d_Mod_packetsIn_41 : decode prog_12_method_10_code 41 = .ok (.getfield 27, 3) := by decide +kernel
theorem d_Mod_packetsIn_44 : decode prog_12_method_10_code 44 = .ok (.iload 5, 2) := by decide +kernel
theorem d_Mod_packetsIn_46 : decode prog_12_method_10_code 46 = .ok (.iload_n 2, 1) := by decide +kernel
theorem d_Mod_packetsIn_47 : decode prog_12_method_10_code 47 = .ok (.invokestatic 105, 3) := by decide +kernel
theorem d_Mod_packetsIn_50 : decode prog_12_method_10_code 50 = .ok (.istore 6, 2) := by decide +kernel
theorem d_Mod_packetsIn_52 : decode prog_12_method_10_code 52 = .ok (.goto (-34), 3) := by decide +kernel
theorem d_Mod_packetsIn_55 : decode prog_12_method_10_code 55 = .ok (.iload_n 3, 1) := by decide +kernel
theorem d_Mod_packetsIn_56 : decode prog_12_method_10_code 56 = .ok (.ifCond .eq (14), 3) := by decide +kernel
theorem d_Mod_packetsIn_59 : decode prog_12_method_10_code 59 = .ok (.iload 4, 2) := by decide +kernel
theorem d_Mod_packetsIn_61 : decode prog_12_method_10_code 61 = .ok (.aload_n 0, 1) := by decide +kernel
theorem d_Mod_packetsIn_62 : decode prog_12_method_10_code 62 = .ok (.invokevirtual 113, 3) := by decide +kernel
theorem d_Mod_packetsIn_65 : decode prog_12_method_10_code 65 = .ok (.if_icmp .le (5), 3) := by decide +kernel
theorem d_Mod_packetsIn_68 : decode prog_12_method_10_code 68 = .ok (.iconst 0, 1) := by decide +kernel
theorem d_Mod_packetsIn_69 : decode prog_12_method_10_code 69 = .ok (.ireturn, 1) := by decide +kernel
theorem d_Mod_packetsIn_70 : decode prog_12_method_10_code 70 = .ok (.iload_n 1, 1) := by decide +kernel
theorem d_Mod_packetsIn_71 : decode prog_12_method_10_code 71 = .ok (.istore 5, 2) := by decide +kernel
theorem d_Mod_packetsIn_73 : decode prog_12_method_10_code 73 = .ok (.aload_n 0, 1) := by decide +kernel
theorem d_Mod_packetsIn_74 : decode prog_12_method_10_code 74 = .ok (.getfield 27, 3) := by decide +kernel
theorem d_Mod_packetsIn_77 : decode prog_12_method_10_code 77 = .ok (.iload 5, 2) := by decide +kernel
theorem d_Mod_packetsIn_79 : decode prog_12_method_10_code 79 = .ok (.iload_n 2, 1) := by decide +kernel
theorem d_Mod_packetsIn_80 : decode prog_12_method_10_code 80 = .ok (.invokestatic 105, 3) := by decide +kernel
theorem d_Mod_packetsIn_83 : decode prog_12_method_10_code 83 = .ok (.istore 6, 2) := by decide +kernel
theorem d_Mod_packetsIn_85 : decode prog_12_method_10_code 85 = .ok (.iload 6, 2) := by decide +kernel
theorem d_Mod_packetsIn_87 : decode prog_12_method_10_code 87 = .ok (.ifCond .le (56), 3) := by decide +kernel
theorem d_Mod_packetsIn_90 : decode prog_12_method_10_code 90 = .ok (.aload_n 0, 1) := by decide +kernel
theorem d_Mod_packetsIn_91 : decode prog_12_method_10_code 91 = .ok (.getfield 20, 3) := by decide +kernel
theorem d_Mod_packetsIn_94 : decode prog_12_method_10_code 94 = .ok (.ifCond .ne (49), 3) := by decide +kernel
theorem d_Mod_packetsIn_97 : decode prog_12_method_10_code 97 = .ok (.iload 6, 2) := by decide +kernel
theorem d_Mod_packetsIn_99 : decode prog_12_method_10_code 99 = .ok (.invokestatic 109, 3) := by decide +kernel
theorem d_Mod_packetsIn_102 : decode prog_12_method_10_code 102 = .ok (.aload_n 0, 1) := by decide +kernel
theorem d_Mod_packetsIn_103 : decode prog_12_method_10_code 103 = .ok (.invokevirtual 113, 3) := by decide +kernel
theorem d_Mod_packetsIn_106 : decode prog_12_method_10_code 106 = .ok (.if_icmp .gt (15), 3) := by decide +kernel
theorem d_Mod_packetsIn_109 : decode prog_12_method_10_code 109 = .ok (.aload_n 0, 1) := by decide +kernel
theorem d_Mod_packetsIn_110 : decode prog_12_method_10_code 110 = .ok (.aload_n 0, 1) := by decide +kernel
theorem d_Mod_packetsIn_111 : decode prog_12_method_10_code 111 = .ok (.getfield 27, 3) := by decide +kernel
theorem d_Mod_packetsIn_114 : decode prog_12_method_10_code 114 = .ok (.iload 5, 2) := by decide +kernel
theorem d_Mod_packetsIn_116 : decode prog_12_method_10_code 116 = .ok (.iload 6, 2) := by decide +kernel
theorem d_Mod_packetsIn_118 : decode prog_12_method_10_code 118 = .ok (.invokevirtual 117, 3) := by decide +kernel
theorem d_Mod_packetsIn_121 : decode prog_12_method_10_code 121 = .ok (.iload 5, 2) := by decide +kernel
theorem d_Mod_packetsIn_123 : decode prog_12_method_10_code 123 = .ok (.iload 6, 2) := by decide +kernel
theorem d_Mod_packetsIn_125 : decode prog_12_method_10_code 125 = .ok (.iadd, 1) := by decide +kernel
theorem d_Mod_packetsIn_126 : decode prog_12_method_10_code 126 = .ok (.istore 5, 2) := by decide +kernel
theorem d_Mod_packetsIn_128 : decode prog_12_method_10_code 128 = .ok (.aload_n 0, 1) := by decide +kernel
theorem d_Mod_packetsIn_129 : decode prog_12_method_10_code 129 = .ok (.getfield 27, 3) := by decide +kernel
theorem d_Mod_packetsIn_132 : decode prog_12_method_10_code 132 = .ok (.iload 5, 2) := by decide +kernel
theorem d_Mod_packetsIn_134 : decode prog_12_method_10_code 134 = .ok (.iload_n 2, 1) := by decide +kernel
theorem d_Mod_packetsIn_135 : decode prog_12_method_10_code 135 = .ok (.invokestatic 105, 3) := by decide +kernel
theorem d_Mod_packetsIn_138 : decode prog_12_method_10_code 138 = .ok (.istore 6, 2) := by decide +kernel
theorem d_Mod_packetsIn_140 : decode prog_12_method_10_code 140 = .ok (.goto (-55), 3) := by decide +kernel
theorem d_Mod_packetsIn_143 : decode prog_12_method_10_code 143 = .ok (.iconst 1, 1) := by decide +kernel
theorem d_Mod_packetsIn_144 : decode prog_12_method_10_code 144 = .ok (.ireturn, 1) := by decide +kernel
theorem d_Mod_goesOn_0 : decode prog_12_method_11_code 0 = .ok (.aload_n 0, 1) := by decide +kernel
theorem d_Mod_goesOn_1 : decode prog_12_method_11_code 1 = .ok (.getfield 48, 3) := by decide +kernel
theorem d_Mod_goesOn_4 : decode prog_12_method_11_code 4 = .ok (.iload_n 1, 1) := by decide +kernel
theorem d_Mod_goesOn_5 : decode prog_12_method_11_code 5 = .ok (.baload, 1) := by decide +kernel
theorem d_Mod_goesOn_6 : decode prog_12_method_11_code 6 = .ok (.ifCond .eq (18), 3) := by decide +kernel
theorem d_Mod_goesOn_9 : decode prog_12_method_11_code 9 = .ok (.aload_n 0, 1) := by decide +kernel
theorem d_Mod_goesOn_10 : decode prog_12_method_11_code 10 = .ok (.getfield 52, 3) := by decide +kernel
theorem d_Mod_goesOn_13 : decode prog_12_method_11_code 13 = .ok (.iload_n 1, 1) := by decide +kernel
theorem d_Mod_goesOn_14 : decode prog_12_method_11_code 14 = .ok (.iaload, 1) := by decide +kernel
theorem d_Mod_goesOn_15 : decode prog_12_method_11_code 15 = .ok (.iload_n 3, 1) := by decide +kernel
theorem d_Mod_goesOn_16 : decode prog_12_method_11_code 16 = .ok (.iadd, 1) := by decide +kernel
theorem d_Mod_goesOn_17 : decode prog_12_method_11_code 17 = .ok (.iload_n 2, 1) := by decide +kernel
theorem d_Mod_goesOn_18 : decode prog_12_method_11_code 18 = .ok (.isub, 1) := by decide +kernel
theorem d_Mod_goesOn_19 : decode prog_12_method_11_code 19 = .ok (.bipush (60), 2) := by decide +kernel
theorem d_Mod_goesOn_21 : decode prog_12_method_11_code 21 = .ok (.if_icmp .le (12), 3) := by decide +kernel
theorem d_Mod_goesOn_24 : decode prog_12_method_11_code 24 = .ok (.aload_n 0, 1) := by decide +kernel
theorem d_Mod_goesOn_25 : decode prog_12_method_11_code 25 = .ok (.getfield 48, 3) := by decide +kernel
theorem d_Mod_goesOn_28 : decode prog_12_method_11_code 28 = .ok (.iload_n 1, 1) := by decide +kernel
theorem d_Mod_goesOn_29 : decode prog_12_method_11_code 29 = .ok (.iconst 0, 1) := by decide +kernel
theorem d_Mod_goesOn_30 : decode prog_12_method_11_code 30 = .ok (.bastore, 1) := by decide +kernel
theorem d_Mod_goesOn_31 : decode prog_12_method_11_code 31 = .ok (.iconst 0, 1) := by decide +kernel
theorem d_Mod_goesOn_32 : decode prog_12_method_11_code 32 = .ok (.ireturn, 1) := by decide +kernel
theorem d_Mod_goesOn_33 : decode prog_12_method_11_code 33 = .ok (.iload_n 2, 1) := by decide +kernel
theorem d_Mod_goesOn_34 : decode prog_12_method_11_code 34 = .ok (.istore 4, 2) := by decide +kernel
theorem d_Mod_goesOn_36 : decode prog_12_method_11_code 36 = .ok (.iload 4, 2) := by decide +kernel
theorem d_Mod_goesOn_38 : decode prog_12_method_11_code 38 = .ok (.iload_n 3, 1) := by decide +kernel
theorem d_Mod_goesOn_39 : decode prog_12_method_11_code 39 = .ok (.if_icmp .ge (46), 3) := by decide +kernel
theorem d_Mod_goesOn_42 : decode prog_12_method_11_code 42 = .ok (.aload_n 0, 1) := by decide +kernel
theorem d_Mod_goesOn_43 : decode prog_12_method_11_code 43 = .ok (.getfield 55, 3) := by decide +kernel
theorem d_Mod_goesOn_46 : decode prog_12_method_11_code 46 = .ok (.bipush (60), 2) := by decide +kernel
theorem d_Mod_goesOn_48 : decode prog_12_method_11_code 48 = .ok (.iload_n 1, 1) := by decide +kernel
theorem d_Mod_goesOn_49 : decode prog_12_method_11_code 49 = .ok (.imul, 1) := by decide +kernel
theorem d_Mod_goesOn_50 : decode prog_12_method_11_code 50 = .ok (.aload_n 0, 1) := by decide +kernel
theorem d_Mod_goesOn_51 : decode prog_12_method_11_code 51 = .ok (.getfield 52, 3) := by decide +kernel
theorem d_Mod_goesOn_54 : decode prog_12_method_11_code 54 = .ok (.iload_n 1, 1) := by decide +kernel
theorem d_Mod_goesOn_55 : decode prog_12_method_11_code 55 = .ok (.iaload, 1) := by decide +kernel
theorem d_Mod_goesOn_56 : decode prog_12_method_11_code 56 = .ok (.iadd, 1) := by decide +kernel
theorem d_Mod_goesOn_57 : decode prog_12_method_11_code 57 = .ok (.aload_n 0, 1) := by decide +kernel
theorem d_Mod_goesOn_58 : decode prog_12_method_11_code 58 = .ok (.getfield 27, 3) := by decide +kernel
theorem d_Mod_goesOn_61 : decode prog_12_method_11_code 61 = .ok (.iload 4, 2) := by decide +kernel
theorem d_Mod_goesOn_63 : decode prog_12_method_11_code 63 = .ok (.iaload, 1) := by decide +kernel
theorem d_Mod_goesOn_64 : decode prog_12_method_11_code 64 = .ok (.iastore, 1) := by decide +kernel
theorem d_Mod_goesOn_65 : decode prog_12_method_11_code 65 = .ok (.aload_n 0, 1) := by decide +kernel
theorem d_Mod_goesOn_66 : decode prog_12_method_11_code 66 = .ok (.getfield 52, 3) := by decide +kernel
theorem d_Mod_goesOn_69 : decode prog_12_method_11_code 69 = .ok (.iload_n 1, 1) := by decide +kernel
theorem d_Mod_goesOn_70 : decode prog_12_method_11_code 70 = .ok (.aload_n 0, 1) := by decide +kernel
theorem d_Mod_goesOn_71 : decode prog_12_method_11_code 71 = .ok (.getfield 52, 3) := by decide +kernel
theorem d_Mod_goesOn_74 : decode prog_12_method_11_code 74 = .ok (.iload_n 1, 1) := by decide +kernel
theorem d_Mod_goesOn_75 : decode prog_12_method_11_code 75 = .ok (.iaload, 1) := by decide +kernel
theorem d_Mod_goesOn_76 : decode prog_12_method_11_code 76 = .ok (.iconst 1, 1) := by decide +kernel
theorem d_Mod_goesOn_77 : decode prog_12_method_11_code 77 = .ok (.iadd, 1) := by decide +kernel
theorem d_Mod_goesOn_78 : decode prog_12_method_11_code 78 = .ok (.iastore, 1) := by decide +kernel
theorem d_Mod_goesOn_79 : decode prog_12_method_11_code 79 = .ok (.iinc 4 (1), 3) := by decide +kernel
theorem d_Mod_goesOn_82 : decode prog_12_method_11_code 82 = .ok (.goto (-46), 3) := by decide +kernel
theorem d_Mod_goesOn_85 : decode prog_12_method_11_code 85 = .ok (.iconst 1, 1) := by decide +kernel
theorem d_Mod_goesOn_86 : decode prog_12_method_11_code 86 = .ok (.ireturn, 1) := by decide +kernel
theorem d_Mod_segmentIn_0 : decode prog_12_method_12_code 0 = .ok (.iload_n 1, 1) := by decide +kernel
theorem d_Mod_segmentIn_1 : decode prog_12_method_12_code 1 = .ok (.iload_n 2, 1) := by decide +kernel
theorem d_Mod_segmentIn_2 : decode prog_12_method_12_code 2 = .ok (.if_icmp .eq (16), 3) := by decide +kernel
theorem d_Mod_segmentIn_5 : decode prog_12_method_12_code 5 = .ok (.aload_n 0, 1) := by decide +kernel
theorem d_Mod_segmentIn_6 : decode prog_12_method_12_code 6 = .ok (.getfield 27, 3) := by decide +kernel
theorem d_Mod_segmentIn_9 : decode prog_12_method_12_code 9 = .ok (.iload_n 1, 1) := by decide +kernel
theorem d_Mod_segmentIn_10 : decode prog_12_method_12_code 10 = .ok (.iaload, 1) := by decide +kernel
theorem d_Mod_segmentIn_11 : decode prog_12_method_12_code 11 = .ok (.bipush (63), 2) := by decide +kernel
theorem d_Mod_segmentIn_13 : decode prog_12_method_12_code 13 = .ok (.iand, 1) := by decide +kernel
theorem d_Mod_segmentIn_14 : decode prog_12_method_12_code 14 = .ok (.iconst 3, 1) := by decide +kernel
theorem d_Mod_segmentIn_15 : decode prog_12_method_12_code 15 = .ok (.if_icmp .le (5), 3) := by decide +kernel
theorem d_Mod_segmentIn_18 : decode prog_12_method_12_code 18 = .ok (.iconst 1, 1) := by decide +kernel
theorem d_Mod_segmentIn_19 : decode prog_12_method_12_code 19 = .ok (.ireturn, 1) := by decide +kernel
theorem d_Mod_segmentIn_20 : decode prog_12_method_12_code 20 = .ok (.aload_n 0, 1) := by decide +kernel
theorem d_Mod_segmentIn_21 : decode prog_12_method_12_code 21 = .ok (.getfield 27, 3) := by decide +kernel
theorem d_Mod_segmentIn_24 : decode prog_12_method_12_code 24 = .ok (.iload_n 1, 1) := by decide +kernel
theorem d_Mod_segmentIn_25 : decode prog_12_method_12_code 25 = .ok (.iaload, 1) := by decide +kernel
theorem d_Mod_segmentIn_26 : decode prog_12_method_12_code 26 = .ok (.bipush (63), 2) := by decide +kernel
theorem d_Mod_segmentIn_28 : decode prog_12_method_12_code 28 = .ok (.iand, 1) := by decide +kernel
theorem d_Mod_segmentIn_29 : decode prog_12_method_12_code 29 = .ok (.istore 4, 2) := by decide +kernel
theorem d_Mod_segmentIn_31 : decode prog_12_method_12_code 31 = .ok (.aload_n 0, 1) := by decide +kernel
theorem d_Mod_segmentIn_32 : decode prog_12_method_12_code 32 = .ok (.getfield 27, 3) := by decide +kernel
theorem d_Mod_segmentIn_35 : decode prog_12_method_12_code 35 = .ok (.iload_n 1, 1) := by decide +kernel
theorem d_Mod_segmentIn_36 : decode prog_12_method_12_code 36 = .ok (.iaload, 1) := by decide +kernel
theorem d_Mod_segmentIn_37 : decode prog_12_method_12_code 37 = .ok (.bipush (6), 2) := by decide +kernel
theorem d_Mod_segmentIn_39 : decode prog_12_method_12_code 39 = .ok (.ishr, 1) := by decide +kernel
theorem d_Mod_segmentIn_40 : decode prog_12_method_12_code 40 = .ok (.istore 5, 2) := by decide +kernel
theorem d_Mod_segmentIn_42 : decode prog_12_method_12_code 42 = .ok (.aload_n 0, 1) := by decide +kernel
theorem d_Mod_segmentIn_43 : decode prog_12_method_12_code 43 = .ok (.getfield 48, 3) := by decide +kernel
theorem d_Mod_segmentIn_46 : decode prog_12_method_12_code 46 = .ok (.iload 4, 2) := by decide +kernel
theorem d_Mod_segmentIn_48 : decode prog_12_method_12_code 48 = .ok (.baload, 1) := by decide +kernel
theorem d_Mod_segmentIn_49 : decode prog_12_method_12_code 49 = .ok (.istore 6, 2) := by decide +kernel
theorem d_Mod_segmentIn_51 : decode prog_12_method_12_code 51 = .ok (.aload_n 0, 1) := by decide +kernel
theorem d_Mod_segmentIn_52 : decode prog_12_method_12_code 52 = .ok (.getfield 52, 3) := by decide +kernel
theorem d_Mod_segmentIn_55 : decode prog_12_method_12_code 55 = .ok (.iload 4, 2) := by decide +kernel
theorem d_Mod_segmentIn_57 : decode prog_12_method_12_code 57 = .ok (.iaload, 1) := by decide +kernel
theorem d_Mod_segmentIn_58 : decode prog_12_method_12_code 58 = .ok (.istore 7, 2) := by decide +kernel
theorem d_Mod_segmentIn_60 : decode prog_12_method_12_code 60 = .ok (.iload 5, 2) := by decide +kernel
theorem d_Mod_segmentIn_62 : decode prog_12_method_12_code 62 = .ok (.iconst 3, 1) := by decide +kernel
theorem d_Mod_segmentIn_63 : decode prog_12_method_12_code 63 = .ok (.if_icmp .ne (97), 3) := by decide +kernel
theorem d_Mod_segmentIn_66 : decode prog_12_method_12_code 66 = .ok (.aload_n 0, 1) := by decide +kernel
theorem d_Mod_segmentIn_67 : decode prog_12_method_12_code 67 = .ok (.getfield 27, 3) := by decide +kernel
theorem d_Mod_segmentIn_70 : decode prog_12_method_12_code 70 = .ok (.iload_n 1, 1) := by decide +kernel
theorem d_Mod_segmentIn_71 : decode prog_12_method_12_code 71 = .ok (.iconst 1, 1) := by decide +kernel
theorem d_Mod_segmentIn_72 : decode prog_12_method_12_code 72 = .ok (.iadd, 1) := by decide +kernel
theorem d_Mod_segmentIn_73 : decode prog_12_method_12_code 73 = .ok (.iload_n 2, 1) := by decide +kernel
theorem d_Mod_segmentIn_74 : decode prog_12_method_12_code 74 = .ok (.invokestatic 105, 3) := by decide +kernel
theorem d_Mod_segmentIn_77 : decode prog_12_method_12_code 77 = .ok (.istore 8, 2) := by decide +kernel
theorem d_Mod_segmentIn_79 : decode prog_12_method_12_code 79 = .ok (.iload 8, 2) := by decide +kernel
theorem d_Mod_segmentIn_81 : decode prog_12_method_12_code 81 = .ok (.iload_n 2, 1) := by decide +kernel
theorem d_Mod_segmentIn_82 : decode prog_12_method_12_code 82 = .ok (.iload_n 1, 1) := by decide +kernel
theorem d_Mod_segmentIn_83 : decode prog_12_method_12_code 83 = .ok (.isub, 1) := by decide +kernel
theorem d_Mod_segmentIn_84 : decode prog_12_method_12_code 84 = .ok (.iconst 1, 1) := by decide +kernel
theorem d_Mod_segmentIn_85 : decode prog_12_method_12_code 85 = .ok (.isub, 1) := by decide +kernel
theorem d_Mod_segmentIn_86 : decode prog_12_method_12_code 86 = .ok (.if_icmp .ne (64), 3) := by decide +kernel
theorem d_Mod_segmentIn_89 : decode prog_12_method_12_code 89 = .ok (.iload 8, 2) := by decide +kernel
theorem d_Mod_segmentIn_91 : decode prog_12_method_12_code 91 = .ok (.ifCond .le (59), 3) := by decide +kernel
theorem d_Mod_segmentIn_94 : decode prog_12_method_12_code 94 = .ok (.iload 8, 2) := by decide +kernel
theorem d_Mod_segmentIn_96 : decode prog_12_method_12_code 96 = .ok (.invokestatic 109, 3) := by decide +kernel
theorem d_Mod_segmentIn_99 : decode prog_12_method_12_code 99 = .ok (.aload_n 0, 1) := by decide +kernel
theorem d_Mod_segmentIn_100 : decode prog_12_method_12_code 100 = .ok (.invokevirtual 113, 3) := by decide +kernel
theorem d_Mod_segmentIn_103 : decode prog_12_method_12_code 103 = .ok (.if_icmp .le (34), 3) := by decide +kernel
theorem d_Mod_segmentIn_106 : decode prog_12_method_12_code 106 = .ok (.aload_n 0, 1) := by decide +kernel
theorem d_Mod_segmentIn_107 : decode prog_12_method_12_code 107 = .ok (.getfield 48, 3) := by decide +kernel
theorem d_Mod_segmentIn_110 : decode prog_12_method_12_code 110 = .ok (.iload 4, 2) := by decide +kernel
theorem d_Mod_segmentIn_112 : decode prog_12_method_12_code 112 = .ok (.iload_n 3, 1) := by decide +kernel
theorem d_Mod_segmentIn_113 : decode prog_12_method_12_code 113 = .ok (.ifCond .eq (12), 3) := by decide +kernel
theorem d_Mod_segmentIn_116 : decode prog_12_method_12_code 116 = .ok (.iload 6, 2) := by decide +kernel
theorem d_Mod_segmentIn_118 : decode prog_12_method_12_code 118 = .ok (.ifCond .eq (7), 3) := by decide +kernel
theorem d_Mod_segmentIn_121 : decode prog_12_method_12_code 121 = .ok (.iconst 1, 1) := by decide +kernel
theorem d_Mod_segmentIn_122 : decode prog_12_method_12_code 122 = .ok (.goto (4), 3) := by decide +kernel
theorem d_Mod_segmentIn_125 : decode prog_12_method_12_code 125 = .ok (.iconst 0, 1) := by decide +kernel
theorem d_Mod_segmentIn_126 : decode prog_12_method_12_code 126 = .ok (.bastore, 1) := by decide +kernel
theorem d_Mod_segmentIn_127 : decode prog_12_method_12_code 127 = .ok (.iload_n 3, 1) := by decide +kernel
theorem d_Mod_segmentIn_128 : decode prog_12_method_12_code 128 = .ok (.ifCond .ne (7), 3) := by decide +kernel
theorem d_Mod_segmentIn_131 : decode prog_12_method_12_code 131 = .ok (.iconst 1, 1) := by decide +kernel
theorem d_Mod_segmentIn_132 : decode prog_12_method_12_code 132 = .ok (.goto (4), 3) := by decide +kernel
theorem d_Mod_segmentIn_135 : decode prog_12_method_12_code 135 = .ok (.iconst 0, 1) := by decide +kernel
theorem d_Mod_segmentIn_136 : decode prog_12_method_12_code 136 = .ok (.ireturn, 1) := by decide +kernel
theorem d_Mod_segmentIn_137 : decode prog_12_method_12_code 137 = .ok (.aload_n 0, 1) := by decide +kernel
theorem d_Mod_segmentIn_138 : decode prog_12_method_12_code 138 = .ok (.aload_n 0, 1) := by decide +kernel
theorem d_Mod_segmentIn_139 : decode prog_12_method_12_code 139 = .ok (.getfield 27, 3) := by decide +kernel
theorem d_Mod_segmentIn_142 : decode prog_12_method_12_code 142 = .ok (.iload_n 1, 1) := by decide +kernel
theorem d_Mod_segmentIn_143 : decode prog_12_method_12_code 143 = .ok (.iconst 1, 1) := by decide +kernel
theorem d_Mod_segmentIn_144 : decode prog_12_method_12_code 144 = .ok (.iadd, 1) := by decide +kernel
theorem d_Mod_segmentIn_145 : decode prog_12_method_12_code 145 = .ok (.iload 8, 2) := by decide +kernel
theorem d_Mod_segmentIn_147 : decode prog_12_method_12_code 147 = .ok (.invokevirtual 117, 3) := by decide +kernel
theorem d_Mod_segmentIn_150 : decode prog_12_method_12_code 150 = .ok (.aload_n 0, 1) := by decide +kernel
theorem d_Mod_segmentIn_151 : decode prog_12_method_12_code 151 = .ok (.getfield 48, 3) := by decide +kernel
theorem d_Mod_segmentIn_154 : decode prog_12_method_12_code 154 = .ok (.iload 4, 2) := by decide +kernel
theorem d_Mod_segmentIn_156 : decode prog_12_method_12_code 156 = .ok (.iconst 0, 1) := by decide +kernel
theorem d_Mod_segmentIn_157 : decode prog_12_method_12_code 157 = .ok (.bastore, 1) := by decide +kernel
theorem d_Mod_segmentIn_158 : decode prog_12_method_12_code 158 = .ok (.iconst 1, 1) := by decide +kernel
theorem d_Mod_segmentIn_159 : decode prog_12_method_12_code 159 = .ok (.ireturn, 1) := by decide +kernel
theorem d_Mod_segmentIn_160 : decode prog_12_method_12_code 160 = .ok (.iload 5, 2) := by decide +kernel
theorem d_Mod_segmentIn_162 : decode prog_12_method_12_code 162 = .ok (.iconst 1, 1) := by decide +kernel
theorem d_Mod_segmentIn_163 : decode prog_12_method_12_code 163 = .ok (.if_icmp .ne (19), 3) := by decide +kernel
theorem d_Mod_segmentIn_166 : decode prog_12_method_12_code 166 = .ok (.aload_n 0, 1) := by decide +kernel
theorem d_Mod_segmentIn_167 : decode prog_12_method_12_code 167 = .ok (.getfield 48, 3) := by decide +kernel
theorem d_Mod_segmentIn_170 : decode prog_12_method_12_code 170 = .ok (.iload 4, 2) := by decide +kernel
theorem d_Mod_segmentIn_172 : decode prog_12_method_12_code 172 = .ok (.iconst 1, 1) := by decide +kernel
theorem d_Mod_segmentIn_173 : decode prog_12_method_12_code 173 = .ok (.bastore, 1) := by decide +kernel
theorem d_Mod_segmentIn_174 : decode prog_12_method_12_code 174 = .ok (.aload_n 0, 1) := by decide +kernel
theorem d_Mod_segmentIn_175 : decode prog_12_method_12_code 175 = .ok (.getfield 52, 3) := by decide +kernel
theorem d_Mod_segmentIn_178 : decode prog_12_method_12_code 178 = .ok (.iload 4, 2) := by decide +kernel
theorem d_Mod_segmentIn_180 : decode prog_12_method_12_code 180 = .ok (.iconst 0, 1) := by decide +kernel
theorem d_Mod_segmentIn_181 : decode prog_12_method_12_code 181 = .ok (.iastore, 1) := by decide +kernel
theorem d_Mod_segmentIn_182 : decode prog_12_method_12_code 182 = .ok (.aload_n 0, 1) := by decide +kernel
theorem d_Mod_segmentIn_183 : decode prog_12_method_12_code 183 = .ok (.iload 4, 2) := by decide +kernel
theorem d_Mod_segmentIn_185 : decode prog_12_method_12_code 185 = .ok (.iload_n 1, 1) := by decide +kernel
theorem d_Mod_segmentIn_186 : decode prog_12_method_12_code 186 = .ok (.iconst 1, 1) := by decide +kernel
theorem d_Mod_segmentIn_187 : decode prog_12_method_12_code 187 = .ok (.iadd, 1) := by decide +kernel
theorem d_Mod_segmentIn_188 : decode prog_12_method_12_code 188 = .ok (.iload_n 2, 1) := by decide +kernel
theorem d_Mod_segmentIn_189 : decode prog_12_method_12_code 189 = .ok (.invokevirtual 121, 3) := by decide +kernel
theorem d_Mod_segmentIn_192 : decode prog_12_method_12_code 192 = .ok (.ifCond .eq (9), 3) := by decide +kernel
theorem d_Mod_segmentIn_195 : decode prog_12_method_12_code 195 = .ok (.iload 5, 2) := by decide +kernel
theorem d_Mod_segmentIn_197 : decode prog_12_method_12_code 197 = .ok (.iconst 2, 1) := by decide +kernel
theorem d_Mod_segmentIn_198 : decode prog_12_method_12_code 198 = .ok (.if_icmp .eq (5), 3) := by decide +kernel
theorem d_Mod_segmentIn_201 : decode prog_12_method_12_code 201 = .ok (.iconst 1, 1) := by decide +kernel
theorem d_Mod_segmentIn_202 : decode prog_12_method_12_code 202 = .ok (.ireturn, 1) := by decide +kernel
theorem d_Mod_segmentIn_203 : decode prog_12_method_12_code 203 = .ok (.aload_n 0, 1) := by decide +kernel
theorem d_Mod_segmentIn_204 : decode prog_12_method_12_code 204 = .ok (.getfield 52, 3) := by decide +kernel
theorem d_Mod_segmentIn_207 : decode prog_12_method_12_code 207 = .ok (.iload 4, 2) := by decide +kernel
theorem d_Mod_segmentIn_209 : decode prog_12_method_12_code 209 = .ok (.iaload, 1) := by decide +kernel
theorem d_Mod_segmentIn_210 : decode prog_12_method_12_code 210 = .ok (.istore 8, 2) := by decide +kernel
theorem d_Mod_segmentIn_212 : decode prog_12_method_12_code 212 = .ok (.aload_n 0, 1) := by decide +kernel
theorem d_Mod_segmentIn_213 : decode prog_12_method_12_code 213 = .ok (.getfield 55, 3) := by decide +kernel
theorem d_Mod_segmentIn_216 : decode prog_12_method_12_code 216 = .ok (.bipush (60), 2) := by decide +kernel
theorem d_Mod_segmentIn_218 : decode prog_12_method_12_code 218 = .ok (.iload 4, 2) := by decide +kernel
theorem d_Mod_segmentIn_220 : decode prog_12_method_12_code 220 = .ok (.imul, 1) := by decide +kernel
theorem d_Mod_segmentIn_221 : decode prog_12_method_12_code 221 = .ok (.bipush (60), 2) := by decide +kernel
theorem d_Mod_segmentIn_223 : decode prog_12_method_12_code 223 = .ok (.iload 4, 2) := by decide +kernel
theorem d_Mod_segmentIn_225 : decode prog_12_method_12_code 225 = .ok (.imul, 1) := by decide +kernel
theorem d_Mod_segmentIn_226 : decode prog_12_method_12_code 226 = .ok (.iload 8, 2) := by decide +kernel
theorem d_Mod_segmentIn_228 : decode prog_12_method_12_code 228 = .ok (.iadd, 1) := by decide +kernel
theorem d_Mod_segmentIn_229 : decode prog_12_method_12_code 229 = .ok (.invokestatic 105, 3) := by decide +kernel
theorem d_Mod_segmentIn_232 : decode prog_12_method_12_code 232 = .ok (.istore 9, 2) := by decide +kernel
theorem d_Mod_segmentIn_234 : decode prog_12_method_12_code 234 = .ok (.aload_n 0, 1) := by decide +kernel
theorem d_Mod_segmentIn_235 : decode prog_12_method_12_code 235 = .ok (.getfield 48, 3) := by decide +kernel
theorem d_Mod_segmentIn_238 : decode prog_12_method_12_code 238 = .ok (.iload 4, 2) := by decide +kernel
theorem d_Mod_segmentIn_240 : decode prog_12_method_12_code 240 = .ok (.iconst 0, 1) := by decide +kernel
theorem d_Mod_segmentIn_241 : decode prog_12_method_12_code 241 = .ok (.bastore, 1) := by decide +kernel
theorem d_Mod_segmentIn_242 : decode prog_12_method_12_code 242 = .ok (.iload 9, 2) := by decide +kernel
theorem d_Mod_segmentIn_244 : decode prog_12_method_12_code 244 = .ok (.ifCond .eq (10), 3) := by decide +kernel
theorem d_Mod_segmentIn_247 : decode prog_12_method_12_code 247 = .ok (.iload 9, 2) := by decide +kernel
theorem d_Mod_segmentIn_249 : decode prog_12_method_12_code 249 = .ok (.iload 8, 2) := by decide +kernel
theorem d_Mod_segmentIn_251 : decode prog_12_method_12_code 251 = .ok (.if_icmp .eq (5), 3) := by decide +kernel
theorem d_Mod_segmentIn_254 : decode prog_12_method_12_code 254 = .ok (.iconst 1, 1) := by decide +kernel
theorem d_Mod_segmentIn_255 : decode prog_12_method_12_code 255 = .ok (.ireturn, 1) := by decide +kernel
theorem d_Mod_segmentIn_256 : decode prog_12_method_12_code 256 = .ok (.iload 9, 2) := by decide +kernel
theorem d_Mod_segmentIn_258 : decode prog_12_method_12_code 258 = .ok (.invokestatic 109, 3) := by decide +kernel
theorem d_Mod_segmentIn_261 : decode prog_12_method_12_code 261 = .ok (.aload_n 0, 1) := by decide +kernel
theorem d_Mod_segmentIn_262 : decode prog_12_method_12_code 262 = .ok (.invokevirtual 113, 3) := by decide +kernel
theorem d_Mod_segmentIn_265 : decode prog_12_method_12_code 265 = .ok (.if_icmp .le (30), 3) := by decide +kernel
theorem d_Mod_segmentIn_268 : decode prog_12_method_12_code 268 = .ok (.aload_n 0, 1) := by decide +kernel
theorem d_Mod_segmentIn_269 : decode prog_12_method_12_code 269 = .ok (.getfield 48, 3) := by decide +kernel
theorem d_Mod_segmentIn_272 : decode prog_12_method_12_code 272 = .ok (.iload 4, 2) := by decide +kernel
theorem d_Mod_segmentIn_274 : decode prog_12_method_12_code 274 = .ok (.iload_n 3, 1) := by decide +kernel
theorem d_Mod_segmentIn_275 : decode prog_12_method_12_code 275 = .ok (.bastore, 1) := by decide +kernel
theorem d_Mod_segmentIn_276 : decode prog_12_method_12_code 276 = .ok (.aload_n 0, 1) := by decide +kernel
theorem d_Mod_segmentIn_277 : decode prog_12_method_12_code 277 = .ok (.getfield 52, 3) := by decide +kernel
theorem d_Mod_segmentIn_280 : decode prog_12_method_12_code 280 = .ok (.iload 4, 2) := by decide +kernel
theorem d_Mod_segmentIn_282 : decode prog_12_method_12_code 282 = .ok (.iload 7, 2) := by decide +kernel
theorem d_Mod_segmentIn_284 : decode prog_12_method_12_code 284 = .ok (.iastore, 1) := by decide +kernel
theorem d_Mod_segmentIn_285 : decode prog_12_method_12_code 285 = .ok (.iload_n 3, 1) := by decide +kernel
theorem d_Mod_segmentIn_286 : decode prog_12_method_12_code 286 = .ok (.ifCond .ne (7), 3) := by decide +kernel
theorem d_Mod_segmentIn_289 : decode prog_12_method_12_code 289 = .ok (.iconst 1, 1) := by decide +kernel
theorem d_Mod_segmentIn_290 : decode prog_12_method_12_code 290 = .ok (.goto (4), 3) := by decide +kernel
theorem d_Mod_segmentIn_293 : decode prog_12_method_12_code 293 = .ok (.iconst 0, 1) := by decide +kernel
theorem d_Mod_segmentIn_294 : decode prog_12_method_12_code 294 = .ok (.ireturn, 1) := by decide +kernel
theorem d_Mod_segmentIn_295 : decode prog_12_method_12_code 295 = .ok (.aload_n 0, 1) := by decide +kernel
theorem d_Mod_segmentIn_296 : decode prog_12_method_12_code 296 = .ok (.aload_n 0, 1) := by decide +kernel
theorem d_Mod_segmentIn_297 : decode prog_12_method_12_code 297 = .ok (.getfield 55, 3) := by decide +kernel
theorem d_Mod_segmentIn_300 : decode prog_12_method_12_code 300 = .ok (.bipush (60), 2) := by decide +kernel
theorem d_Mod_segmentIn_302 : decode prog_12_method_12_code 302 = .ok (.iload 4, 2) := by decide +kernel
theorem d_Mod_segmentIn_304 : decode prog_12_method_12_code 304 = .ok (.imul, 1) := by decide +kernel
theorem d_Mod_segmentIn_305 : decode prog_12_method_12_code 305 = .ok (.iload 9, 2) := by decide +kernel
theorem d_Mod_segmentIn_307 : decode prog_12_method_12_code 307 = .ok (.invokevirtual 117, 3) := by decide +kernel
theorem d_Mod_segmentIn_310 : decode prog_12_method_12_code 310 = .ok (.iconst 1, 1) := by decide +kernel
theorem d_Mod_segmentIn_311 : decode prog_12_method_12_code 311 = .ok (.ireturn, 1) := by decide +kernel
theorem d_Mod_directive_0 : decode prog_12_method_13_code 0 = .ok (.iload_n 2, 1) := by decide +kernel
theorem d_Mod_directive_1 : decode prog_12_method_13_code 1 = .ok (.iload_n 1, 1) := by decide +kernel
theorem d_Mod_directive_2 : decode prog_12_method_13_code 2 = .ok (.isub, 1) := by decide +kernel
theorem d_Mod_directive_3 : decode prog_12_method_13_code 3 = .ok (.iconst 2, 1) := by decide +kernel
theorem d_Mod_directive_4 : decode prog_12_method_13_code 4 = .ok (.if_icmp .ge (4), 3) := by decide +kernel
theorem d_Mod_directive_7 : decode prog_12_method_13_code 7 = .ok (.return_, 1) := by decide +kernel
theorem d_Mod_directive_8 : decode prog_12_method_13_code 8 = .ok (.aload_n 0, 1) := by decide +kernel
theorem d_Mod_directive_9 : decode prog_12_method_13_code 9 = .ok (.getfield 27, 3) := by decide +kernel
theorem d_Mod_directive_12 : decode prog_12_method_13_code 12 = .ok (.iload_n 1, 1) := by decide +kernel
theorem d_Mod_directive_13 : decode prog_12_method_13_code 13 = .ok (.iaload, 1) := by decide +kernel
theorem d_Mod_directive_14 : decode prog_12_method_13_code 14 = .ok (.iconst 1, 1) := by decide +kernel
theorem d_Mod_directive_15 : decode prog_12_method_13_code 15 = .ok (.if_icmp .ne (51), 3) := by decide +kernel
theorem d_Mod_directive_18 : decode prog_12_method_13_code 18 = .ok (.aload_n 0, 1) := by decide +kernel
theorem d_Mod_directive_19 : decode prog_12_method_13_code 19 = .ok (.iconst 1, 1) := by decide +kernel
theorem d_Mod_directive_20 : decode prog_12_method_13_code 20 = .ok (.putfield 33, 3) := by decide +kernel
theorem d_Mod_directive_23 : decode prog_12_method_13_code 23 = .ok (.aload_n 0, 1) := by decide +kernel
theorem d_Mod_directive_24 : decode prog_12_method_13_code 24 = .ok (.iload_n 3, 1) := by decide +kernel
theorem d_Mod_directive_25 : decode prog_12_method_13_code 25 = .ok (.putfield 36, 3) := by decide +kernel
theorem d_Mod_directive_28 : decode prog_12_method_13_code 28 = .ok (.aload_n 0, 1) := by decide +kernel
theorem d_Mod_directive_29 : decode prog_12_method_13_code 29 = .ok (.iconst 0, 1) := by decide +kernel
theorem d_Mod_directive_30 : decode prog_12_method_13_code 30 = .ok (.putfield 39, 3) := by decide +kernel
theorem d_Mod_directive_33 : decode prog_12_method_13_code 33 = .ok (.aload_n 0, 1) := by decide +kernel
theorem d_Mod_directive_34 : decode prog_12_method_13_code 34 = .ok (.iconst 0, 1) := by decide +kernel
theorem d_Mod_directive_35 : decode prog_12_method_13_code 35 = .ok (.putfield 42, 3) := by decide +kernel
theorem d_Mod_directive_38 : decode prog_12_method_13_code 38 = .ok (.aload_n 0, 1) := by decide +kernel
theorem d_Mod_directive_39 : decode prog_12_method_13_code 39 = .ok (.iconst 0, 1) := by decide +kernel
theorem d_Mod_directive_40 : decode prog_12_method_13_code 40 = .ok (.putfield 45, 3) := by decide +kernel
theorem d_Mod_directive_43 : decode prog_12_method_13_code 43 = .ok (.iconst 0, 1) := by decide +kernel
theorem d_Mod_directive_44 : decode prog_12_method_13_code 44 = .ok (.istore 4, 2) := by decide +kernel
theorem d_Mod_directive_46 : decode prog_12_method_13_code 46 = .ok (.iload 4, 2) := by decide +kernel
theorem d_Mod_directive_48 : decode prog_12_method_13_code 48 = .ok (.iconst 4, 1) := by decide +kernel
theorem d_Mod_directive_49 : decode prog_12_method_13_code 49 = .ok (.if_icmp .ge (17), 3) := by decide +kernel
theorem d_Mod_directive_52 : decode prog_12_method_13_code 52 = .ok (.aload_n 0, 1) := by decide +kernel
theorem d_Mod_directive_53 : decode prog_12_method_13_code 53 = .ok (.getfield 48, 3) := by decide +kernel
theorem d_Mod_directive_56 : decode prog_12_method_13_code 56 = .ok (.iload 4, 2) := by decide +kernel
theorem d_Mod_directive_58 : decode prog_12_method_13_code 58 = .ok (.iconst 0, 1) := by decide +kernel
theorem d_Mod_directive_59 : decode prog_12_method_13_code 59 = .ok (.bastore, 1) := by decide +kernel
theorem d_Mod_directive_60 : decode prog_12_method_13_code 60 = .ok (.iinc 4 (1), 3) := by decide +kernel
theorem d_Mod_directive_63 : decode prog_12_method_13_code 63 = .ok (.goto (-17), 3) := by decide +kernel
theorem d_Mod_directive_66 : decode prog_12_method_13_code 66 = .ok (.aload_n 0, 1) := by decide +kernel
theorem d_Mod_directive_67 : decode prog_12_method_13_code 67 = .ok (.getfield 27, 3) := by decide +kernel
theorem d_Mod_directive_70 : decode prog_12_method_13_code 70 = .ok (.iload_n 1, 1) := by decide +kernel
theorem d_Mod_directive_71 : decode prog_12_method_13_code 71 = .ok (.iaload, 1) := by decide +kernel
theorem d_Mod_directive_72 : decode prog_12_method_13_code 72 = .ok (.iconst 2, 1) := by decide +kernel
theorem d_Mod_directive_73 : decode prog_12_method_13_code 73 = .ok (.if_icmp .ne (8), 3) := by decide +kernel
theorem d_Mod_directive_76 : decode prog_12_method_13_code 76 = .ok (.aload_n 0, 1) := by decide +kernel
theorem d_Mod_directive_77 : decode prog_12_method_13_code 77 = .ok (.iconst 0, 1) := by decide +kernel
theorem d_Mod_directive_78 : decode prog_12_method_13_code 78 = .ok (.putfield 33, 3) := by decide +kernel
theorem d_Mod_directive_81 : decode prog_12_method_13_code 81 = .ok (.aload_n 0, 1) := by decide +kernel
theorem d_Mod_directive_82 : decode prog_12_method_13_code 82 = .ok (.getfield 27, 3) := by decide +kernel
theorem d_Mod_directive_85 : decode prog_12_method_13_code 85 = .ok (.iload_n 1, 1) := by decide +kernel
theorem d_Mod_directive_86 : decode prog_12_method_13_code 86 = .ok (.iaload, 1) := by decide +kernel
theorem d_Mod_directive_87 : decode prog_12_method_13_code 87 = .ok (.iconst 3, 1) := by decide +kernel
theorem d_Mod_directive_88 : decode prog_12_method_13_code 88 = .ok (.if_icmp .ne (35), 3) := by decide +kernel
theorem d_Mod_directive_91 : decode prog_12_method_13_code 91 = .ok (.aload_n 0, 1) := by decide +kernel
theorem d_Mod_directive_92 : decode prog_12_method_13_code 92 = .ok (.getfield 33, 3) := by decide +kernel
theorem d_Mod_directive_95 : decode prog_12_method_13_code 95 = .ok (.ifCond .eq (28), 3) := by decide +kernel
theorem d_Mod_directive_98 : decode prog_12_method_13_code 98 = .ok (.aload_n 0, 1) := by decide +kernel
theorem d_Mod_directive_99 : decode prog_12_method_13_code 99 = .ok (.getfield 36, 3) := by decide +kernel
theorem d_Mod_directive_102 : decode prog_12_method_13_code 102 = .ok (.iload_n 3, 1) := by decide +kernel
theorem d_Mod_directive_103 : decode prog_12_method_13_code 103 = .ok (.if_icmp .ne (20), 3) := by decide +kernel
theorem d_Mod_directive_106 : decode prog_12_method_13_code 106 = .ok (.aload_n 0, 1) := by decide +kernel
theorem d_Mod_directive_107 : decode prog_12_method_13_code 107 = .ok (.aload_n 0, 1) := by decide +kernel
theorem d_Mod_directive_108 : decode prog_12_method_13_code 108 = .ok (.getfield 27, 3) := by decide +kernel
theorem d_Mod_directive_111 : decode prog_12_method_13_code 111 = .ok (.iload_n 1, 1) := by decide +kernel
theorem d_Mod_directive_112 : decode prog_12_method_13_code 112 = .ok (.iconst 1, 1) := by decide +kernel
theorem d_Mod_directive_113 : decode prog_12_method_13_code 113 = .ok (.iadd, 1) := by decide +kernel
theorem d_Mod_directive_114 : decode prog_12_method_13_code 114 = .ok (.iaload, 1) := by decide +kernel
theorem d_Mod_directive_115 : decode prog_12_method_13_code 115 = .ok (.putfield 39, 3) := by decide +kernel
theorem d_Mod_directive_118 : decode prog_12_method_13_code 118 = .ok (.aload_n 0, 1) := by decide +kernel
theorem d_Mod_directive_119 : decode prog_12_method_13_code 119 = .ok (.iconst 0, 1) := by decide +kernel
theorem d_Mod_directive_120 : decode prog_12_method_13_code 120 = .ok (.putfield 42, 3) := by decide +kernel
theorem d_Mod_directive_123 : decode prog_12_method_13_code 123 = .ok (.return_, 1) := by decide +kernel
theorem d_Mod_taken_0 : decode prog_12_method_14_code 0 = .ok (.aload_n 0, 1) := by decide +kernel
theorem d_Mod_taken_1 : decode prog_12_method_14_code 1 = .ok (.getfield 27, 3) := by decide +kernel
theorem d_Mod_taken_4 : decode prog_12_method_14_code 4 = .ok (.iconst 3, 1) := by decide +kernel
theorem d_Mod_taken_5 : decode prog_12_method_14_code 5 = .ok (.iaload, 1) := by decide +kernel
theorem d_Mod_taken_6 : decode prog_12_method_14_code 6 = .ok (.istore_n 2, 1) := by decide +kernel
theorem d_Mod_taken_7 : decode prog_12_method_14_code 7 = .ok (.aload_n 0, 1) := by decide +kernel
theorem d_Mod_taken_8 : decode prog_12_method_14_code 8 = .ok (.getfield 27, 3) := by decide +kernel
theorem d_Mod_taken_11 : decode prog_12_method_14_code 11 = .ok (.iconst 5, 1) := by decide +kernel
theorem d_Mod_taken_12 : decode prog_12_method_14_code 12 = .ok (.iaload, 1) := by decide +kernel
theorem d_Mod_taken_13 : decode prog_12_method_14_code 13 = .ok (.bipush (7), 2) := by decide +kernel
theorem d_Mod_taken_15 : decode prog_12_method_14_code 15 = .ok (.ishr, 1) := by decide +kernel
theorem d_Mod_taken_16 : decode prog_12_method_14_code 16 = .ok (.istore_n 3, 1) := by decide +kernel
theorem d_Mod_taken_17 : decode prog_12_method_14_code 17 = .ok (.aload_n 0, 1) := by decide +kernel
theorem d_Mod_taken_18 : decode prog_12_method_14_code 18 = .ok (.iconst 0, 1) := by decide +kernel
theorem d_Mod_taken_19 : decode prog_12_method_14_code 19 = .ok (.invokevirtual 125, 3) := by decide +kernel
theorem d_Mod_taken_22 : decode prog_12_method_14_code 22 = .ok (.ifCond .eq (22), 3) := by decide +kernel
theorem d_Mod_taken_25 : decode prog_12_method_14_code 25 = .ok (.iload_n 2, 1) := by decide +kernel
theorem d_Mod_taken_26 : decode prog_12_method_14_code 26 = .ok (.iconst 3, 1) := by decide +kernel
theorem d_Mod_taken_27 : decode prog_12_method_14_code 27 = .ok (.iand, 1) := by decide +kernel
theorem d_Mod_taken_28 : decode prog_12_method_14_code 28 = .ok (.sipush (256), 3) := by decide +kernel
theorem d_Mod_taken_31 : decode prog_12_method_14_code 31 = .ok (.imul, 1) := by decide +kernel
theorem d_Mod_taken_32 : decode prog_12_method_14_code 32 = .ok (.aload_n 0, 1) := by decide +kernel
theorem d_Mod_taken_33 : decode prog_12_method_14_code 33 = .ok (.getfield 27, 3) := by decide +kernel
theorem d_Mod_taken_36 : decode prog_12_method_14_code 36 = .ok (.iconst 4, 1) := by decide +kernel
theorem d_Mod_taken_37 : decode prog_12_method_14_code 37 = .ok (.iaload, 1) := by decide +kernel
theorem d_Mod_taken_38 : decode prog_12_method_14_code 38 = .ok (.iadd, 1) := by decide +kernel
theorem d_Mod_taken_39 : decode prog_12_method_14_code 39 = .ok (.bipush (77), 2) := by decide +kernel
theorem d_Mod_taken_41 : decode prog_12_method_14_code 41 = .ok (.if_icmp .eq (4), 3) := by decide +kernel
theorem d_Mod_taken_44 : decode prog_12_method_14_code 44 = .ok (.return_, 1) := by decide +kernel
theorem d_Mod_taken_45 : decode prog_12_method_14_code 45 = .ok (.iload_n 2, 1) := by decide +kernel
theorem d_Mod_taken_46 : decode prog_12_method_14_code 46 = .ok (.iconst 4, 1) := by decide +kernel
theorem d_Mod_taken_47 : decode prog_12_method_14_code 47 = .ok (.ishr, 1) := by decide +kernel
theorem d_Mod_taken_48 : decode prog_12_method_14_code 48 = .ok (.iconst 1, 1) := by decide +kernel
theorem d_Mod_taken_49 : decode prog_12_method_14_code 49 = .ok (.iand, 1) := by decide +kernel
theorem d_Mod_taken_50 : decode prog_12_method_14_code 50 = .ok (.iconst 1, 1) := by decide +kernel
theorem d_Mod_taken_51 : decode prog_12_method_14_code 51 = .ok (.if_icmp .ne (14), 3) := by decide +kernel
theorem d_Mod_taken_54 : decode prog_12_method_14_code 54 = .ok (.aload_n 0, 1) := by decide +kernel
theorem d_Mod_taken_55 : decode prog_12_method_14_code 55 = .ok (.bipush (8), 2) := by decide +kernel
theorem d_Mod_taken_57 : decode prog_12_method_14_code 57 = .ok (.iconst 3, 1) := by decide +kernel
theorem d_Mod_taken_58 : decode prog_12_method_14_code 58 = .ok (.iload_n 1, 1) := by decide +kernel
theorem d_Mod_taken_59 : decode prog_12_method_14_code 59 = .ok (.iadd, 1) := by decide +kernel
theorem d_Mod_taken_60 : decode prog_12_method_14_code 60 = .ok (.iload_n 3, 1) := by decide +kernel
theorem d_Mod_taken_61 : decode prog_12_method_14_code 61 = .ok (.invokevirtual 128, 3) := by decide +kernel
theorem d_Mod_taken_64 : decode prog_12_method_14_code 64 = .ok (.return_, 1) := by decide +kernel
theorem d_Mod_taken_65 : decode prog_12_method_14_code 65 = .ok (.aload_n 0, 1) := by decide +kernel
theorem d_Mod_taken_66 : decode prog_12_method_14_code 66 = .ok (.getfield 33, 3) := by decide +kernel
theorem d_Mod_taken_69 : decode prog_12_method_14_code 69 = .ok (.ifCond .eq (11), 3) := by decide +kernel
theorem d_Mod_taken_72 : decode prog_12_method_14_code 72 = .ok (.aload_n 0, 1) := by decide +kernel
theorem d_Mod_taken_73 : decode prog_12_method_14_code 73 = .ok (.getfield 36, 3) := by decide +kernel
theorem d_Mod_taken_76 : decode prog_12_method_14_code 76 = .ok (.iload_n 3, 1) := by decide +kernel
theorem d_Mod_taken_77 : decode prog_12_method_14_code 77 = .ok (.if_icmp .eq (4), 3) := by decide +kernel
theorem d_Mod_taken_80 : decode prog_12_method_14_code 80 = .ok (.return_, 1) := by decide +kernel
theorem d_Mod_taken_81 : decode prog_12_method_14_code 81 = .ok (.iload_n 2, 1) := by decide +kernel
theorem d_Mod_taken_82 : decode prog_12_method_14_code 82 = .ok (.iconst 2, 1) := by decide +kernel
theorem d_Mod_taken_83 : decode prog_12_method_14_code 83 = .ok (.ishr, 1) := by decide +kernel
theorem d_Mod_taken_84 : decode prog_12_method_14_code 84 = .ok (.iconst 3, 1) := by decide +kernel
theorem d_Mod_taken_85 : decode prog_12_method_14_code 85 = .ok (.iand, 1) := by decide +kernel
theorem d_Mod_taken_86 : decode prog_12_method_14_code 86 = .ok (.istore 4, 2) := by decide +kernel
theorem d_Mod_taken_88 : decode prog_12_method_14_code 88 = .ok (.iload_n 2, 1) := by decide +kernel
theorem d_Mod_taken_89 : decode prog_12_method_14_code 89 = .ok (.iconst 5, 1) := by decide +kernel
theorem d_Mod_taken_90 : decode prog_12_method_14_code 90 = .ok (.ishr, 1) := by decide +kernel
theorem d_Mod_taken_91 : decode prog_12_method_14_code 91 = .ok (.iconst 1, 1) := by decide +kernel
theorem d_Mod_taken_92 : decode prog_12_method_14_code 92 = .ok (.iand, 1) := by decide +kernel
theorem d_Mod_taken_93 : decode prog_12_method_14_code 93 = .ok (.iconst 1, 1) := by decide +kernel
theorem d_Mod_taken_94 : decode prog_12_method_14_code 94 = .ok (.if_icmp .ne (50), 3) := by decide +kernel
theorem d_Mod_taken_97 : decode prog_12_method_14_code 97 = .ok (.aload_n 0, 1) := by decide +kernel
theorem d_Mod_taken_98 : decode prog_12_method_14_code 98 = .ok (.aload_n 0, 1) := by decide +kernel
theorem d_Mod_taken_99 : decode prog_12_method_14_code 99 = .ok (.getfield 45, 3) := by decide +kernel
theorem d_Mod_taken_102 : decode prog_12_method_14_code 102 = .ok (.iconst 1, 1) := by decide +kernel
theorem d_Mod_taken_103 : decode prog_12_method_14_code 103 = .ok (.iadd, 1) := by decide +kernel
theorem d_Mod_taken_104 : decode prog_12_method_14_code 104 = .ok (.bipush (8), 2) := by decide +kernel
theorem d_Mod_taken_106 : decode prog_12_method_14_code 106 = .ok (.irem, 1) := by decide +kernel
theorem d_Mod_taken_107 : decode prog_12_method_14_code 107 = .ok (.putfield 45, 3) := by decide +kernel
theorem d_Mod_taken_110 : decode prog_12_method_14_code 110 = .ok (.iload 4, 2) := by decide +kernel
theorem d_Mod_taken_112 : decode prog_12_method_14_code 112 = .ok (.ifCond .ne (14), 3) := by decide +kernel
theorem d_Mod_taken_115 : decode prog_12_method_14_code 115 = .ok (.aload_n 0, 1) := by decide +kernel
theorem d_Mod_taken_116 : decode prog_12_method_14_code 116 = .ok (.bipush (8), 2) := by decide +kernel
theorem d_Mod_taken_118 : decode prog_12_method_14_code 118 = .ok (.iconst 3, 1) := by decide +kernel
theorem d_Mod_taken_119 : decode prog_12_method_14_code 119 = .ok (.iload_n 1, 1) := by decide +kernel
theorem d_Mod_taken_120 : decode prog_12_method_14_code 120 = .ok (.iadd, 1) := by decide +kernel
theorem d_Mod_taken_121 : decode prog_12_method_14_code 121 = .ok (.iconst 0, 1) := by decide +kernel
theorem d_Mod_taken_122 : decode prog_12_method_14_code 122 = .ok (.invokevirtual 132, 3) := by decide +kernel
theorem d_Mod_taken_125 : decode prog_12_method_14_code 125 = .ok (.pop, 1) := by decide +kernel
theorem d_Mod_taken_126 : decode prog_12_method_14_code 126 = .ok (.iload 4, 2) := by decide +kernel
theorem d_Mod_taken_128 : decode prog_12_method_14_code 128 = .ok (.iconst 1, 1) := by decide +kernel
theorem d_Mod_taken_129 : decode prog_12_method_14_code 129 = .ok (.if_icmp .ne (14), 3) := by decide +kernel
theorem d_Mod_taken_132 : decode prog_12_method_14_code 132 = .ok (.aload_n 0, 1) := by decide +kernel
theorem d_Mod_taken_133 : decode prog_12_method_14_code 133 = .ok (.bipush (8), 2) := by decide +kernel
theorem d_Mod_taken_135 : decode prog_12_method_14_code 135 = .ok (.iconst 3, 1) := by decide +kernel
theorem d_Mod_taken_136 : decode prog_12_method_14_code 136 = .ok (.iload_n 1, 1) := by decide +kernel
theorem d_Mod_taken_137 : decode prog_12_method_14_code 137 = .ok (.iadd, 1) := by decide +kernel
theorem d_Mod_taken_138 : decode prog_12_method_14_code 138 = .ok (.iconst 0, 1) := by decide +kernel
theorem d_Mod_taken_139 : decode prog_12_method_14_code 139 = .ok (.invokevirtual 136, 3) := by decide +kernel
theorem d_Mod_taken_142 : decode prog_12_method_14_code 142 = .ok (.pop, 1) := by decide +kernel
theorem d_Mod_taken_143 : decode prog_12_method_14_code 143 = .ok (.return_, 1) := by decide +kernel
theorem d_Mod_taken_144 : decode prog_12_method_14_code 144 = .ok (.aload_n 0, 1) := by decide +kernel
theorem d_Mod_taken_145 : decode prog_12_method_14_code 145 = .ok (.getfield 27, 3) := by decide +kernel
theorem d_Mod_taken_148 : decode prog_12_method_14_code 148 = .ok (.bipush (7), 2) := by decide +kernel
theorem d_Mod_taken_150 : decode prog_12_method_14_code 150 = .ok (.iaload, 1) := by decide +kernel
theorem d_Mod_taken_151 : decode prog_12_method_14_code 151 = .ok (.aload_n 0, 1) := by decide +kernel
theorem d_Mod_taken_152 : decode prog_12_method_14_code 152 = .ok (.getfield 39, 3) := by decide +kernel
theorem d_Mod_taken_155 : decode prog_12_method_14_code 155 = .ok (.isub, 1) := by decide +kernel
theorem d_Mod_taken_156 : decode prog_12_method_14_code 156 = .ok (.sipush (256), 3) := by decide +kernel
theorem d_Mod_taken_159 : decode prog_12_method_14_code 159 = .ok (.iadd, 1) := by decide +kernel
theorem d_Mod_taken_160 : decode prog_12_method_14_code 160 = .ok (.sipush (256), 3) := by decide +kernel
theorem d_Mod_taken_163 : decode prog_12_method_14_code 163 = .ok (.irem, 1) := by decide +kernel
theorem d_Mod_taken_164 : decode prog_12_method_14_code 164 = .ok (.istore 5, 2) := by decide +kernel
theorem d_Mod_taken_166 : decode prog_12_method_14_code 166 = .ok (.iload 5, 2) := by decide +kernel
theorem d_Mod_taken_168 : decode prog_12_method_14_code 168 = .ok (.ifCond .ne (79), 3) := by decide +kernel
theorem d_Mod_taken_171 : decode prog_12_method_14_code 171 = .ok (.iload 4, 2) := by decide +kernel
theorem d_Mod_taken_173 : decode prog_12_method_14_code 173 = .ok (.ifCond .ne (16), 3) := by decide +kernel
theorem d_Mod_taken_176 : decode prog_12_method_14_code 176 = .ok (.aload_n 0, 1) := by decide +kernel
theorem d_Mod_taken_177 : decode prog_12_method_14_code 177 = .ok (.bipush (8), 2) := by decide +kernel
theorem d_Mod_taken_179 : decode prog_12_method_14_code 179 = .ok (.iconst 3, 1) := by decide +kernel
theorem d_Mod_taken_180 : decode prog_12_method_14_code 180 = .ok (.iload_n 1, 1) := by decide +kernel
theorem d_Mod_taken_181 : decode prog_12_method_14_code 181 = .ok (.iadd, 1) := by decide +kernel
theorem d_Mod_taken_182 : decode prog_12_method_14_code 182 = .ok (.iconst 1, 1) := by decide +kernel
theorem d_Mod_taken_183 : decode prog_12_method_14_code 183 = .ok (.invokevirtual 132, 3) := by decide +kernel
theorem d_Mod_taken_186 : decode prog_12_method_14_code 186 = .ok (.goto (23), 3) := by decide +kernel
theorem d_Mod_taken_189 : decode prog_12_method_14_code 189 = .ok (.iload 4, 2) := by decide +kernel
theorem d_Mod_taken_191 : decode prog_12_method_14_code 191 = .ok (.iconst 1, 1) := by decide +kernel
theorem d_Mod_taken_192 : decode prog_12_method_14_code 192 = .ok (.if_icmp .ne (16), 3) := by decide +kernel
theorem d_Mod_taken_195 : decode prog_12_method_14_code 195 = .ok (.aload_n 0, 1) := by decide +kernel
theorem d_Mod_taken_196 : decode prog_12_method_14_code 196 = .ok (.bipush (8), 2) := by decide +kernel
theorem d_Mod_taken_198 : decode prog_12_method_14_code 198 = .ok (.iconst 3, 1) := by decide +kernel
theorem d_Mod_taken_199 : decode prog_12_method_14_code 199 = .ok (.iload_n 1, 1) := by decide +kernel
theorem d_Mod_taken_200 : decode prog_12_method_14_code 200 = .ok (.iadd, 1) := by decide +kernel
theorem d_Mod_taken_201 : decode prog_12_method_14_code 201 = .ok (.iconst 1, 1) := by decide +kernel
theorem d_Mod_taken_202 : decode prog_12_method_14_code 202 = .ok (.invokevirtual 136, 3) := by decide +kernel
theorem d_Mod_taken_205 : decode prog_12_method_14_code 205 = .ok (.goto (4), 3) := by decide +kernel
theorem d_Mod_taken_208 : decode prog_12_method_14_code 208 = .ok (.iconst 1, 1) := by decide +kernel
theorem d_Mod_taken_209 : decode prog_12_method_14_code 209 = .ok (.istore 6, 2) := by decide +kernel
theorem d_Mod_taken_211 : decode prog_12_method_14_code 211 = .ok (.iload 6, 2) := by decide +kernel
theorem d_Mod_taken_213 : decode prog_12_method_14_code 213 = .ok (.ifCond .eq (17), 3) := by decide +kernel
theorem d_Mod_taken_216 : decode prog_12_method_14_code 216 = .ok (.aload_n 0, 1) := by decide +kernel
theorem d_Mod_taken_217 : decode prog_12_method_14_code 217 = .ok (.aload_n 0, 1) := by decide +kernel
theorem d_Mod_taken_218 : decode prog_12_method_14_code 218 = .ok (.getfield 39, 3) := by decide +kernel
theorem d_Mod_taken_221 : decode prog_12_method_14_code 221 = .ok (.iconst 1, 1) := by decide +kernel
theorem d_Mod_taken_222 : decode prog_12_method_14_code 222 = .ok (.iadd, 1) := by decide +kernel
theorem d_Mod_taken_223 : decode prog_12_method_14_code 223 = .ok (.sipush (256), 3) := by decide +kernel
theorem d_Mod_taken_226 : decode prog_12_method_14_code 226 = .ok (.irem, 1) := by decide +kernel
theorem d_Mod_taken_227 : decode prog_12_method_14_code 227 = .ok (.putfield 39, 3) := by decide +kernel
theorem d_Mod_taken_230 : decode prog_12_method_14_code 230 = .ok (.aload_n 0, 1) := by decide +kernel
theorem d_Mod_taken_231 : decode prog_12_method_14_code 231 = .ok (.iload 6, 2) := by decide +kernel
theorem d_Mod_taken_233 : decode prog_12_method_14_code 233 = .ok (.ifCond .eq (7), 3) := by decide +kernel
theorem d_Mod_taken_236 : decode prog_12_method_14_code 236 = .ok (.iconst 0, 1) := by decide +kernel
theorem d_Mod_taken_237 : decode prog_12_method_14_code 237 = .ok (.goto (4), 3) := by decide +kernel
theorem d_Mod_taken_240 : decode prog_12_method_14_code 240 = .ok (.iconst 1, 1) := by decide +kernel
theorem d_Mod_taken_241 : decode prog_12_method_14_code 241 = .ok (.putfield 42, 3) := by decide +kernel
theorem d_Mod_taken_244 : decode prog_12_method_14_code 244 = .ok (.goto (16), 3) := by decide +kernel
theorem d_Mod_taken_247 : decode prog_12_method_14_code 247 = .ok (.iload 5, 2) := by decide +kernel
theorem d_Mod_taken_249 : decode prog_12_method_14_code 249 = .ok (.sipush (128), 3) := by decide +kernel
theorem d_Mod_taken_252 : decode prog_12_method_14_code 252 = .ok (.if_icmp .ge (8), 3) := by decide +kernel
theorem d_Mod_taken_255 : decode prog_12_method_14_code 255 = .ok (.aload_n 0, 1) := by decide +kernel
theorem d_Mod_taken_256 : decode prog_12_method_14_code 256 = .ok (.iconst 1, 1) := by decide +kernel
theorem d_Mod_taken_257 : decode prog_12_method_14_code 257 = .ok (.putfield 42, 3) := by decide +kernel
theorem d_Mod_taken_260 : decode prog_12_method_14_code 260 = .ok (.return_, 1) := by decide +kernel
theorem d_Mod_checked_0 : decode prog_12_method_15_code 0 = .ok (.iconst 0, 1) := by decide +kernel
theorem d_Mod_checked_1 : decode prog_12_method_15_code 1 = .ok (.istore_n 2, 1) := by decide +kernel
theorem d_Mod_checked_2 : decode prog_12_method_15_code 2 = .ok (.iconst 0, 1) := by decide +kernel
theorem d_Mod_checked_3 : decode prog_12_method_15_code 3 = .ok (.istore_n 3, 1) := by decide +kernel
theorem d_Mod_checked_4 : decode prog_12_method_15_code 4 = .ok (.iload_n 3, 1) := by decide +kernel
theorem d_Mod_checked_5 : decode prog_12_method_15_code 5 = .ok (.iload_n 1, 1) := by decide +kernel
theorem d_Mod_checked_6 : decode prog_12_method_15_code 6 = .ok (.if_icmp .ge (59), 3) := by decide +kernel
theorem d_Mod_checked_9 : decode prog_12_method_15_code 9 = .ok (.bipush (7), 2) := by decide +kernel
theorem d_Mod_checked_11 : decode prog_12_method_15_code 11 = .ok (.istore 4, 2) := by decide +kernel
theorem d_Mod_checked_13 : decode prog_12_method_15_code 13 = .ok (.iload 4, 2) := by decide +kernel
theorem d_Mod_checked_15 : decode prog_12_method_15_code 15 = .ok (.ifCond .lt (44), 3) := by decide +kernel
theorem d_Mod_checked_18 : decode prog_12_method_15_code 18 = .ok (.iload_n 2, 1) := by decide +kernel
theorem d_Mod_checked_19 : decode prog_12_method_15_code 19 = .ok (.bipush (31), 2) := by decide +kernel
theorem d_Mod_checked_21 : decode prog_12_method_15_code 21 = .ok (.iushr, 1) := by decide +kernel
theorem d_Mod_checked_22 : decode prog_12_method_15_code 22 = .ok (.aload_n 0, 1) := by decide +kernel
theorem d_Mod_checked_23 : decode prog_12_method_15_code 23 = .ok (.getfield 27, 3) := by decide +kernel
theorem d_Mod_checked_26 : decode prog_12_method_15_code 26 = .ok (.iconst 3, 1) := by decide +kernel
theorem d_Mod_checked_27 : decode prog_12_method_15_code 27 = .ok (.iload_n 3, 1) := by decide +kernel
theorem d_Mod_checked_28 : decode prog_12_method_15_code 28 = .ok (.iadd, 1) := by decide +kernel
theorem d_Mod_checked_29 : decode prog_12_method_15_code 29 = .ok (.iaload, 1) := by decide +kernel
theorem d_Mod_checked_30 : decode prog_12_method_15_code 30 = .ok (.iload 4, 2) := by decide +kernel
theorem d_Mod_checked_32 : decode prog_12_method_15_code 32 = .ok (.ishr, 1) := by decide +kernel
theorem d_Mod_checked_33 : decode prog_12_method_15_code 33 = .ok (.iconst 1, 1) := by decide +kernel
theorem d_Mod_checked_34 : decode prog_12_method_15_code 34 = .ok (.iand, 1) := by decide +kernel
theorem d_Mod_checked_35 : decode prog_12_method_15_code 35 = .ok (.ixor, 1) := by decide +kernel
theorem d_Mod_checked_36 : decode prog_12_method_15_code 36 = .ok (.istore 5, 2) := by decide +kernel
theorem d_Mod_checked_38 : decode prog_12_method_15_code 38 = .ok (.iload_n 2, 1) := by decide +kernel
theorem d_Mod_checked_39 : decode prog_12_method_15_code 39 = .ok (.iconst 1, 1) := by decide +kernel
theorem d_Mod_checked_40 : decode prog_12_method_15_code 40 = .ok (.ishl, 1) := by decide +kernel
theorem d_Mod_checked_41 : decode prog_12_method_15_code 41 = .ok (.istore_n 2, 1) := by decide +kernel
theorem d_Mod_checked_42 : decode prog_12_method_15_code 42 = .ok (.iload 5, 2) := by decide +kernel
theorem d_Mod_checked_44 : decode prog_12_method_15_code 44 = .ok (.iconst 1, 1) := by decide +kernel
theorem d_Mod_checked_45 : decode prog_12_method_15_code 45 = .ok (.if_icmp .ne (8), 3) := by decide +kernel
theorem d_Mod_checked_48 : decode prog_12_method_15_code 48 = .ok (.iload_n 2, 1) := by decide +kernel
theorem d_Mod_checked_49 : decode prog_12_method_15_code 49 = .ok (.ldc 139, 2) := by decide +kernel
theorem d_Mod_checked_51 : decode prog_12_method_15_code 51 = .ok (.ixor, 1) := by decide +kernel
theorem d_Mod_checked_52 : decode prog_12_method_15_code 52 = .ok (.istore_n 2, 1) := by decide +kernel
theorem d_Mod_checked_53 : decode prog_12_method_15_code 53 = .ok (.iinc 4 (-1), 3) := by decide +kernel
theorem d_Mod_checked_56 : decode prog_12_method_15_code 56 = .ok (.goto (-43), 3) := by decide +kernel
theorem d_Mod_checked_59 : decode prog_12_method_15_code 59 = .ok (.iinc 3 (1), 3) := by decide +kernel
theorem d_Mod_checked_62 : decode prog_12_method_15_code 62 = .ok (.goto (-58), 3) := by decide +kernel
theorem d_Mod_checked_65 : decode prog_12_method_15_code 65 = .ok (.iload_n 2, 1) := by decide +kernel
theorem d_Mod_checked_66 : decode prog_12_method_15_code 66 = .ok (.aload_n 0, 1) := by decide +kernel
theorem d_Mod_checked_67 : decode prog_12_method_15_code 67 = .ok (.getfield 27, 3) := by decide +kernel
theorem d_Mod_checked_70 : decode prog_12_method_15_code 70 = .ok (.iconst 3, 1) := by decide +kernel
theorem d_Mod_checked_71 : decode prog_12_method_15_code 71 = .ok (.iload_n 1, 1) := by decide +kernel
theorem d_Mod_checked_72 : decode prog_12_method_15_code 72 = .ok (.iadd, 1) := by decide +kernel
theorem d_Mod_checked_73 : decode prog_12_method_15_code 73 = .ok (.iaload, 1) := by decide +kernel
theorem d_Mod_checked_74 : decode prog_12_method_15_code 74 = .ok (.bipush (24), 2) := by decide +kernel
theorem d_Mod_checked_76 : decode prog_12_method_15_code 76 = .ok (.ishl, 1) := by decide +kernel
theorem d_Mod_checked_77 : decode prog_12_method_15_code 77 = .ok (.aload_n 0, 1) := by decide +kernel
theorem d_Mod_checked_78 : decode prog_12_method_15_code 78 = .ok (.getfield 27, 3) := by decide +kernel
theorem d_Mod_checked_81 : decode prog_12_method_15_code 81 = .ok (.iconst 4, 1) := by decide +kernel
theorem d_Mod_checked_82 : decode prog_12_method_15_code 82 = .ok (.iload_n 1, 1) := by decide +kernel
theorem d_Mod_checked_83 : decode prog_12_method_15_code 83 = .ok (.iadd, 1) := by decide +kernel
theorem d_Mod_checked_84 : decode prog_12_method_15_code 84 = .ok (.iaload, 1) := by decide +kernel
theorem d_Mod_checked_85 : decode prog_12_method_15_code 85 = .ok (.bipush (16), 2) := by decide +kernel
theorem d_Mod_checked_87 : decode prog_12_method_15_code 87 = .ok (.ishl, 1) := by decide +kernel
theorem d_Mod_checked_88 : decode prog_12_method_15_code 88 = .ok (.ior, 1) := by decide +kernel
theorem d_Mod_checked_89 : decode prog_12_method_15_code 89 = .ok (.aload_n 0, 1) := by decide +kernel
theorem d_Mod_checked_90 : decode prog_12_method_15_code 90 = .ok (.getfield 27, 3) := by decide +kernel
theorem d_Mod_checked_93 : decode prog_12_method_15_code 93 = .ok (.iconst 5, 1) := by decide +kernel
theorem d_Mod_checked_94 : decode prog_12_method_15_code 94 = .ok (.iload_n 1, 1) := by decide +kernel
theorem d_Mod_checked_95 : decode prog_12_method_15_code 95 = .ok (.iadd, 1) := by decide +kernel
theorem d_Mod_checked_96 : decode prog_12_method_15_code 96 = .ok (.iaload, 1) := by decide +kernel
theorem d_Mod_checked_97 : decode prog_12_method_15_code 97 = .ok (.bipush (8), 2) := by decide +kernel
theorem d_Mod_checked_99 : decode prog_12_method_15_code 99 = .ok (.ishl, 1) := by decide +kernel
theorem d_Mod_checked_100 : decode prog_12_method_15_code 100 = .ok (.ior, 1) := by decide +kernel
theorem d_Mod_checked_101 : decode prog_12_method_15_code 101 = .ok (.aload_n 0, 1) := by decide +kernel
theorem d_Mod_checked_102 : decode prog_12_method_15_code 102 = .ok (.getfield 27, 3) := by decide +kernel
theorem d_Mod_checked_105 : decode prog_12_method_15_code 105 = .ok (.bipush (6), 2) := by decide +kernel
theorem d_Mod_checked_107 : decode prog_12_method_15_code 107 = .ok (.iload_n 1, 1) := by decide +kernel
theorem d_Mod_checked_108 : decode prog_12_method_15_code 108 = .ok (.iadd, 1) := by decide +kernel
theorem d_Mod_checked_109 : decode prog_12_method_15_code 109 = .ok (.iaload, 1) := by decide +kernel
theorem d_Mod_checked_110 : decode prog_12_method_15_code 110 = .ok (.ior, 1) := by decide +kernel
theorem d_Mod_checked_111 : decode prog_12_method_15_code 111 = .ok (.if_icmp .ne (7), 3) := by decide +kernel
theorem d_Mod_checked_114 : decode prog_12_method_15_code 114 = .ok (.iconst 1, 1) := by decide +kernel
theorem d_Mod_checked_115 : decode prog_12_method_15_code 115 = .ok (.goto (4), 3) := by decide +kernel
theorem d_Mod_checked_118 : decode prog_12_method_15_code 118 = .ok (.iconst 0, 1) := by decide +kernel
theorem d_Mod_checked_119 : decode prog_12_method_15_code 119 = .ok (.ireturn, 1) := by decide +kernel
theorem d_Mod_leave_0 : decode prog_12_method_16_code 0 = .ok (.aload_n 0, 1) := by decide +kernel
theorem d_Mod_leave_1 : decode prog_12_method_16_code 1 = .ok (.dup, 1) := by decide +kernel
theorem d_Mod_leave_2 : decode prog_12_method_16_code 2 = .ok (.getfield 30, 3) := by decide +kernel
theorem d_Mod_leave_5 : decode prog_12_method_16_code 5 = .ok (.iload_n 1, 1) := by decide +kernel
theorem d_Mod_leave_6 : decode prog_12_method_16_code 6 = .ok (.isub, 1) := by decide +kernel
theorem d_Mod_leave_7 : decode prog_12_method_16_code 7 = .ok (.putfield 30, 3) := by decide +kernel
theorem d_Mod_leave_10 : decode prog_12_method_16_code 10 = .ok (.iconst 0, 1) := by decide +kernel
theorem d_Mod_leave_11 : decode prog_12_method_16_code 11 = .ok (.istore_n 2, 1) := by decide +kernel
theorem d_Mod_leave_12 : decode prog_12_method_16_code 12 = .ok (.iload_n 2, 1) := by decide +kernel
theorem d_Mod_leave_13 : decode prog_12_method_16_code 13 = .ok (.aload_n 0, 1) := by decide +kernel
theorem d_Mod_leave_14 : decode prog_12_method_16_code 14 = .ok (.getfield 30, 3) := by decide +kernel
theorem d_Mod_leave_17 : decode prog_12_method_16_code 17 = .ok (.if_icmp .ge (23), 3) := by decide +kernel
theorem d_Mod_leave_20 : decode prog_12_method_16_code 20 = .ok (.aload_n 0, 1) := by decide +kernel
theorem d_Mod_leave_21 : decode prog_12_method_16_code 21 = .ok (.getfield 27, 3) := by decide +kernel
theorem d_Mod_leave_24 : decode prog_12_method_16_code 24 = .ok (.iload_n 2, 1) := by decide +kernel
theorem d_Mod_leave_25 : decode prog_12_method_16_code 25 = .ok (.aload_n 0, 1) := by decide +kernel
theorem d_Mod_leave_26 : decode prog_12_method_16_code 26 = .ok (.getfield 27, 3) := by decide +kernel
theorem d_Mod_leave_29 : decode prog_12_method_16_code 29 = .ok (.iload_n 2, 1) := by decide +kernel
theorem d_Mod_leave_30 : decode prog_12_method_16_code 30 = .ok (.iload_n 1, 1) := by decide +kernel
theorem d_Mod_leave_31 : decode prog_12_method_16_code 31 = .ok (.iadd, 1) := by decide +kernel
theorem d_Mod_leave_32 : decode prog_12_method_16_code 32 = .ok (.iaload, 1) := by decide +kernel
theorem d_Mod_leave_33 : decode prog_12_method_16_code 33 = .ok (.iastore, 1) := by decide +kernel
theorem d_Mod_leave_34 : decode prog_12_method_16_code 34 = .ok (.iinc 2 (1), 3) := by decide +kernel
theorem d_Mod_leave_37 : decode prog_12_method_16_code 37 = .ok (.goto (-25), 3) := by decide +kernel
theorem d_Mod_leave_40 : decode prog_12_method_16_code 40 = .ok (.return_, 1) := by decide +kernel
theorem d_Mod_look_0 : decode prog_12_method_17_code 0 = .ok (.aload_n 0, 1) := by decide +kernel
theorem d_Mod_look_1 : decode prog_12_method_17_code 1 = .ok (.getfield 30, 3) := by decide +kernel
theorem d_Mod_look_4 : decode prog_12_method_17_code 4 = .ok (.ifCond .ne (5), 3) := by decide +kernel
theorem d_Mod_look_7 : decode prog_12_method_17_code 7 = .ok (.iconst 0, 1) := by decide +kernel
theorem d_Mod_look_8 : decode prog_12_method_17_code 8 = .ok (.ireturn, 1) := by decide +kernel
theorem d_Mod_look_9 : decode prog_12_method_17_code 9 = .ok (.aload_n 0, 1) := by decide +kernel
theorem d_Mod_look_10 : decode prog_12_method_17_code 10 = .ok (.getfield 27, 3) := by decide +kernel
theorem d_Mod_look_13 : decode prog_12_method_17_code 13 = .ok (.iconst 0, 1) := by decide +kernel
theorem d_Mod_look_14 : decode prog_12_method_17_code 14 = .ok (.iaload, 1) := by decide +kernel
theorem d_Mod_look_15 : decode prog_12_method_17_code 15 = .ok (.sipush (250), 3) := by decide +kernel
theorem d_Mod_look_18 : decode prog_12_method_17_code 18 = .ok (.if_icmp .ne (42), 3) := by decide +kernel
theorem d_Mod_look_21 : decode prog_12_method_17_code 21 = .ok (.aload_n 0, 1) := by decide +kernel
theorem d_Mod_look_22 : decode prog_12_method_17_code 22 = .ok (.getfield 30, 3) := by decide +kernel
theorem d_Mod_look_25 : decode prog_12_method_17_code 25 = .ok (.iconst 1, 1) := by decide +kernel
theorem d_Mod_look_26 : decode prog_12_method_17_code 26 = .ok (.if_icmp .le (15), 3) := by decide +kernel
theorem d_Mod_look_29 : decode prog_12_method_17_code 29 = .ok (.aload_n 0, 1) := by decide +kernel
theorem d_Mod_look_30 : decode prog_12_method_17_code 30 = .ok (.getfield 27, 3) := by decide +kernel
theorem d_Mod_look_33 : decode prog_12_method_17_code 33 = .ok (.iconst 1, 1) := by decide +kernel
theorem d_Mod_look_34 : decode prog_12_method_17_code 34 = .ok (.iaload, 1) := by decide +kernel
theorem d_Mod_look_35 : decode prog_12_method_17_code 35 = .ok (.sipush (243), 3) := by decide +kernel
theorem d_Mod_look_38 : decode prog_12_method_17_code 38 = .ok (.if_icmp .ne (22), 3) := by decide +kernel
theorem d_Mod_look_41 : decode prog_12_method_17_code 41 = .ok (.aload_n 0, 1) := by decide +kernel
theorem d_Mod_look_42 : decode prog_12_method_17_code 42 = .ok (.getfield 30, 3) := by decide +kernel
theorem d_Mod_look_45 : decode prog_12_method_17_code 45 = .ok (.iconst 2, 1) := by decide +kernel
theorem d_Mod_look_46 : decode prog_12_method_17_code 46 = .ok (.if_icmp .le (16), 3) := by decide +kernel
theorem d_Mod_look_49 : decode prog_12_method_17_code 49 = .ok (.aload_n 0, 1) := by decide +kernel
theorem d_Mod_look_50 : decode prog_12_method_17_code 50 = .ok (.getfield 27, 3) := by decide +kernel
theorem d_Mod_look_53 : decode prog_12_method_17_code 53 = .ok (.iconst 2, 1) := by decide +kernel
theorem d_Mod_look_54 : decode prog_12_method_17_code 54 = .ok (.iaload, 1) := by decide +kernel
theorem d_Mod_look_55 : decode prog_12_method_17_code 55 = .ok (.bipush (32), 2) := by decide +kernel
theorem d_Mod_look_57 : decode prog_12_method_17_code 57 = .ok (.if_icmp .eq (5), 3) := by decide +kernel
theorem d_Mod_look_60 : decode prog_12_method_17_code 60 = .ok (.iconst 1, 1) := by decide +kernel
theorem d_Mod_look_61 : decode prog_12_method_17_code 61 = .ok (.ireturn, 1) := by decide +kernel
theorem d_Mod_look_62 : decode prog_12_method_17_code 62 = .ok (.aload_n 0, 1) := by decide +kernel
theorem d_Mod_look_63 : decode prog_12_method_17_code 63 = .ok (.getfield 30, 3) := by decide +kernel
theorem d_Mod_look_66 : decode prog_12_method_17_code 66 = .ok (.iconst 4, 1) := by decide +kernel
theorem d_Mod_look_67 : decode prog_12_method_17_code 67 = .ok (.if_icmp .ge (5), 3) := by decide +kernel
theorem d_Mod_look_70 : decode prog_12_method_17_code 70 = .ok (.iconst 0, 1) := by decide +kernel
theorem d_Mod_look_71 : decode prog_12_method_17_code 71 = .ok (.ireturn, 1) := by decide +kernel
theorem d_Mod_look_72 : decode prog_12_method_17_code 72 = .ok (.aload_n 0, 1) := by decide +kernel
theorem d_Mod_look_73 : decode prog_12_method_17_code 73 = .ok (.getfield 27, 3) := by decide +kernel
theorem d_Mod_look_76 : decode prog_12_method_17_code 76 = .ok (.iconst 3, 1) := by decide +kernel
theorem d_Mod_look_77 : decode prog_12_method_17_code 77 = .ok (.iaload, 1) := by decide +kernel
theorem d_Mod_look_78 : decode prog_12_method_17_code 78 = .ok (.bipush (6), 2) := by decide +kernel
theorem d_Mod_look_80 : decode prog_12_method_17_code 80 = .ok (.ishr, 1) := by decide +kernel
theorem d_Mod_look_81 : decode prog_12_method_17_code 81 = .ok (.iconst 2, 1) := by decide +kernel
theorem d_Mod_look_82 : decode prog_12_method_17_code 82 = .ok (.if_icmp .eq (5), 3) := by decide +kernel
theorem d_Mod_look_85 : decode prog_12_method_17_code 85 = .ok (.iconst 1, 1) := by decide +kernel
theorem d_Mod_look_86 : decode prog_12_method_17_code 86 = .ok (.ireturn, 1) := by decide +kernel
theorem d_Mod_look_87 : decode prog_12_method_17_code 87 = .ok (.aload_n 0, 1) := by decide +kernel
theorem d_Mod_look_88 : decode prog_12_method_17_code 88 = .ok (.getfield 30, 3) := by decide +kernel
theorem d_Mod_look_91 : decode prog_12_method_17_code 91 = .ok (.bipush (7), 2) := by decide +kernel
theorem d_Mod_look_93 : decode prog_12_method_17_code 93 = .ok (.if_icmp .ge (5), 3) := by decide +kernel
theorem d_Mod_look_96 : decode prog_12_method_17_code 96 = .ok (.iconst 0, 1) := by decide +kernel
theorem d_Mod_look_97 : decode prog_12_method_17_code 97 = .ok (.ireturn, 1) := by decide +kernel
theorem d_Mod_look_98 : decode prog_12_method_17_code 98 = .ok (.aload_n 0, 1) := by decide +kernel
theorem d_Mod_look_99 : decode prog_12_method_17_code 99 = .ok (.getfield 27, 3) := by decide +kernel
theorem d_Mod_look_102 : decode prog_12_method_17_code 102 = .ok (.iconst 5, 1) := by decide +kernel
theorem d_Mod_look_103 : decode prog_12_method_17_code 103 = .ok (.iaload, 1) := by decide +kernel
theorem d_Mod_look_104 : decode prog_12_method_17_code 104 = .ok (.bipush (7), 2) := by decide +kernel
theorem d_Mod_look_106 : decode prog_12_method_17_code 106 = .ok (.iand, 1) := by decide +kernel
theorem d_Mod_look_107 : decode prog_12_method_17_code 107 = .ok (.sipush (256), 3) := by decide +kernel
theorem d_Mod_look_110 : decode prog_12_method_17_code 110 = .ok (.imul, 1) := by decide +kernel
theorem d_Mod_look_111 : decode prog_12_method_17_code 111 = .ok (.aload_n 0, 1) := by decide +kernel
theorem d_Mod_look_112 : decode prog_12_method_17_code 112 = .ok (.getfield 27, 3) := by decide +kernel
theorem d_Mod_look_115 : decode prog_12_method_17_code 115 = .ok (.bipush (6), 2) := by decide +kernel
theorem d_Mod_look_117 : decode prog_12_method_17_code 117 = .ok (.iaload, 1) := by decide +kernel
theorem d_Mod_look_118 : decode prog_12_method_17_code 118 = .ok (.iadd, 1) := by decide +kernel
theorem d_Mod_look_119 : decode prog_12_method_17_code 119 = .ok (.iconst 1, 1) := by decide +kernel
theorem d_Mod_look_120 : decode prog_12_method_17_code 120 = .ok (.iadd, 1) := by decide +kernel
end
section
theorem d_Mod_look_121 : decode prog_12_method_17_code 121 = .ok (.istore_n 1, 1) := by decide +kernel
theorem d_Mod_look_122 : decode prog_12_method_17_code 122 = .ok (.iload_n 1, 1) := by decide +kernel
theorem d_Mod_look_123 : decode prog_12_method_17_code 123 = .ok (.iconst 5, 1) := by decide +kernel
theorem d_Mod_look_124 : decode prog_12_method_17_code 124 = .ok (.if_icmp .lt (9), 3) := by decide +kernel
theorem d_Mod_look_127 : decode prog_12_method_17_code 127 = .ok (.iload_n 1, 1) := by decide +kernel
theorem d_Mod_look_128 : decode prog_12_method_17_code 128 = .ok (.bipush (64), 2) := by decide +kernel
theorem d_Mod_look_130 : decode prog_12_method_17_code 130 = .ok (.if_icmp .le (5), 3) := by decide +kernel
theorem d_Mod_look_133 : decode prog_12_method_17_code 133 = .ok (.iconst 1, 1) := by decide +kernel
theorem d_Mod_look_134 : decode prog_12_method_17_code 134 = .ok (.ireturn, 1) := by decide +kernel
theorem d_Mod_look_135 : decode prog_12_method_17_code 135 = .ok (.aload_n 0, 1) := by decide +kernel
theorem d_Mod_look_136 : decode prog_12_method_17_code 136 = .ok (.getfield 30, 3) := by decide +kernel
theorem d_Mod_look_139 : decode prog_12_method_17_code 139 = .ok (.iload_n 1, 1) := by decide +kernel
theorem d_Mod_look_140 : decode prog_12_method_17_code 140 = .ok (.bipush (7), 2) := by decide +kernel
theorem d_Mod_look_142 : decode prog_12_method_17_code 142 = .ok (.iadd, 1) := by decide +kernel
theorem d_Mod_look_143 : decode prog_12_method_17_code 143 = .ok (.if_icmp .ge (5), 3) := by decide +kernel
theorem d_Mod_look_146 : decode prog_12_method_17_code 146 = .ok (.iconst 0, 1) := by decide +kernel
theorem d_Mod_look_147 : decode prog_12_method_17_code 147 = .ok (.ireturn, 1) := by decide +kernel
theorem d_Mod_look_148 : decode prog_12_method_17_code 148 = .ok (.aload_n 0, 1) := by decide +kernel
theorem d_Mod_look_149 : decode prog_12_method_17_code 149 = .ok (.iload_n 1, 1) := by decide +kernel
theorem d_Mod_look_150 : decode prog_12_method_17_code 150 = .ok (.invokevirtual 140, 3) := by decide +kernel
theorem d_Mod_look_153 : decode prog_12_method_17_code 153 = .ok (.ifCond .eq (7), 3) := by decide +kernel
theorem d_Mod_look_156 : decode prog_12_method_17_code 156 = .ok (.iconst 2, 1) := by decide +kernel
theorem d_Mod_look_157 : decode prog_12_method_17_code 157 = .ok (.goto (4), 3) := by decide +kernel
theorem d_Mod_look_160 : decode prog_12_method_17_code 160 = .ok (.iconst 1, 1) := by decide +kernel
theorem d_Mod_look_161 : decode prog_12_method_17_code 161 = .ok (.ireturn, 1) := by decide +kernel
theorem d_Mod_byteIn_0 : decode prog_12_method_18_code 0 = .ok (.iconst 0, 1) := by decide +kernel
theorem d_Mod_byteIn_1 : decode prog_12_method_18_code 1 = .ok (.istore_n 2, 1) := by decide +kernel
theorem d_Mod_byteIn_2 : decode prog_12_method_18_code 2 = .ok (.aload_n 0, 1) := by decide +kernel
theorem d_Mod_byteIn_3 : decode prog_12_method_18_code 3 = .ok (.getfield 27, 3) := by decide +kernel
theorem d_Mod_byteIn_6 : decode prog_12_method_18_code 6 = .ok (.aload_n 0, 1) := by decide +kernel
theorem d_Mod_byteIn_7 : decode prog_12_method_18_code 7 = .ok (.getfield 30, 3) := by decide +kernel
theorem d_Mod_byteIn_10 : decode prog_12_method_18_code 10 = .ok (.iload_n 1, 1) := by decide +kernel
theorem d_Mod_byteIn_11 : decode prog_12_method_18_code 11 = .ok (.iastore, 1) := by decide +kernel
theorem d_Mod_byteIn_12 : decode prog_12_method_18_code 12 = .ok (.aload_n 0, 1) := by decide +kernel
theorem d_Mod_byteIn_13 : decode prog_12_method_18_code 13 = .ok (.dup, 1) := by decide +kernel
theorem d_Mod_byteIn_14 : decode prog_12_method_18_code 14 = .ok (.getfield 30, 3) := by decide +kernel
theorem d_Mod_byteIn_17 : decode prog_12_method_18_code 17 = .ok (.iconst 1, 1) := by decide +kernel
theorem d_Mod_byteIn_18 : decode prog_12_method_18_code 18 = .ok (.iadd, 1) := by decide +kernel
theorem d_Mod_byteIn_19 : decode prog_12_method_18_code 19 = .ok (.putfield 30, 3) := by decide +kernel
theorem d_Mod_byteIn_22 : decode prog_12_method_18_code 22 = .ok (.aload_n 0, 1) := by decide +kernel
theorem d_Mod_byteIn_23 : decode prog_12_method_18_code 23 = .ok (.invokevirtual 143, 3) := by decide +kernel
theorem d_Mod_byteIn_26 : decode prog_12_method_18_code 26 = .ok (.istore_n 3, 1) := by decide +kernel
theorem d_Mod_byteIn_27 : decode prog_12_method_18_code 27 = .ok (.iload_n 3, 1) := by decide +kernel
theorem d_Mod_byteIn_28 : decode prog_12_method_18_code 28 = .ok (.ifCond .eq (76), 3) := by decide +kernel
theorem d_Mod_byteIn_31 : decode prog_12_method_18_code 31 = .ok (.aload_n 0, 1) := by decide +kernel
theorem d_Mod_byteIn_32 : decode prog_12_method_18_code 32 = .ok (.getfield 20, 3) := by decide +kernel
theorem d_Mod_byteIn_35 : decode prog_12_method_18_code 35 = .ok (.ifCond .ne (69), 3) := by decide +kernel
theorem d_Mod_byteIn_38 : decode prog_12_method_18_code 38 = .ok (.iload_n 3, 1) := by decide +kernel
theorem d_Mod_byteIn_39 : decode prog_12_method_18_code 39 = .ok (.iconst 1, 1) := by decide +kernel
theorem d_Mod_byteIn_40 : decode prog_12_method_18_code 40 = .ok (.if_icmp .ne (7), 3) := by decide +kernel
theorem d_Mod_byteIn_43 : decode prog_12_method_18_code 43 = .ok (.iconst 1, 1) := by decide +kernel
theorem d_Mod_byteIn_44 : decode prog_12_method_18_code 44 = .ok (.goto (27), 3) := by decide +kernel
theorem d_Mod_byteIn_47 : decode prog_12_method_18_code 47 = .ok (.aload_n 0, 1) := by decide +kernel
theorem d_Mod_byteIn_48 : decode prog_12_method_18_code 48 = .ok (.getfield 27, 3) := by decide +kernel
theorem d_Mod_byteIn_51 : decode prog_12_method_18_code 51 = .ok (.iconst 5, 1) := by decide +kernel
theorem d_Mod_byteIn_52 : decode prog_12_method_18_code 52 = .ok (.iaload, 1) := by decide +kernel
theorem d_Mod_byteIn_53 : decode prog_12_method_18_code 53 = .ok (.bipush (7), 2) := by decide +kernel
theorem d_Mod_byteIn_55 : decode prog_12_method_18_code 55 = .ok (.iand, 1) := by decide +kernel
theorem d_Mod_byteIn_56 : decode prog_12_method_18_code 56 = .ok (.sipush (256), 3) := by decide +kernel
theorem d_Mod_byteIn_59 : decode prog_12_method_18_code 59 = .ok (.imul, 1) := by decide +kernel
theorem d_Mod_byteIn_60 : decode prog_12_method_18_code 60 = .ok (.aload_n 0, 1) := by decide +kernel
theorem d_Mod_byteIn_61 : decode prog_12_method_18_code 61 = .ok (.getfield 27, 3) := by decide +kernel
theorem d_Mod_byteIn_64 : decode prog_12_method_18_code 64 = .ok (.bipush (6), 2) := by decide +kernel
theorem d_Mod_byteIn_66 : decode prog_12_method_18_code 66 = .ok (.iaload, 1) := by decide +kernel
theorem d_Mod_byteIn_67 : decode prog_12_method_18_code 67 = .ok (.iadd, 1) := by decide +kernel
theorem d_Mod_byteIn_68 : decode prog_12_method_18_code 68 = .ok (.bipush (8), 2) := by decide +kernel
theorem d_Mod_byteIn_70 : decode prog_12_method_18_code 70 = .ok (.iadd, 1) := by decide +kernel
theorem d_Mod_byteIn_71 : decode prog_12_method_18_code 71 = .ok (.istore 4, 2) := by decide +kernel
theorem d_Mod_byteIn_73 : decode prog_12_method_18_code 73 = .ok (.iload_n 3, 1) := by decide +kernel
theorem d_Mod_byteIn_74 : decode prog_12_method_18_code 74 = .ok (.iconst 2, 1) := by decide +kernel
theorem d_Mod_byteIn_75 : decode prog_12_method_18_code 75 = .ok (.if_icmp .ne (15), 3) := by decide +kernel
theorem d_Mod_byteIn_78 : decode prog_12_method_18_code 78 = .ok (.iinc 2 (1), 3) := by decide +kernel
theorem d_Mod_byteIn_81 : decode prog_12_method_18_code 81 = .ok (.aload_n 0, 1) := by decide +kernel
theorem d_Mod_byteIn_82 : decode prog_12_method_18_code 82 = .ok (.iload 4, 2) := by decide +kernel
theorem d_Mod_byteIn_84 : decode prog_12_method_18_code 84 = .ok (.bipush (7), 2) := by decide +kernel
theorem d_Mod_byteIn_86 : decode prog_12_method_18_code 86 = .ok (.isub, 1) := by decide +kernel
theorem d_Mod_byteIn_87 : decode prog_12_method_18_code 87 = .ok (.invokevirtual 146, 3) := by decide +kernel
theorem d_Mod_byteIn_90 : decode prog_12_method_18_code 90 = .ok (.aload_n 0, 1) := by decide +kernel
theorem d_Mod_byteIn_91 : decode prog_12_method_18_code 91 = .ok (.iload 4, 2) := by decide +kernel
theorem d_Mod_byteIn_93 : decode prog_12_method_18_code 93 = .ok (.invokevirtual 150, 3) := by decide +kernel
theorem d_Mod_byteIn_96 : decode prog_12_method_18_code 96 = .ok (.aload_n 0, 1) := by decide +kernel
theorem d_Mod_byteIn_97 : decode prog_12_method_18_code 97 = .ok (.invokevirtual 143, 3) := by decide +kernel
theorem d_Mod_byteIn_100 : decode prog_12_method_18_code 100 = .ok (.istore_n 3, 1) := by decide +kernel
theorem d_Mod_byteIn_101 : decode prog_12_method_18_code 101 = .ok (.goto (-74), 3) := by decide +kernel
theorem d_Mod_byteIn_104 : decode prog_12_method_18_code 104 = .ok (.iload_n 2, 1) := by decide +kernel
theorem d_Mod_byteIn_105 : decode prog_12_method_18_code 105 = .ok (.ireturn, 1) := by decide +kernel
theorem d_Mod_seenBy_0 : decode prog_12_method_19_code 0 = .ok (.aload_n 0, 1) := by decide +kernel
theorem d_Mod_seenBy_1 : decode prog_12_method_19_code 1 = .ok (.getfield 13, 3) := by decide +kernel
theorem d_Mod_seenBy_4 : decode prog_12_method_19_code 4 = .ok (.i2l, 1) := by decide +kernel
theorem d_Mod_seenBy_5 : decode prog_12_method_19_code 5 = .ok (.aload_n 0, 1) := by decide +kernel
theorem d_Mod_seenBy_6 : decode prog_12_method_19_code 6 = .ok (.getfield 16, 3) := by decide +kernel
theorem d_Mod_seenBy_9 : decode prog_12_method_19_code 9 = .ok (.iconst 3, 1) := by decide +kernel
theorem d_Mod_seenBy_10 : decode prog_12_method_19_code 10 = .ok (.iload_n 1, 1) := by decide +kernel
theorem d_Mod_seenBy_11 : decode prog_12_method_19_code 11 = .ok (.imul, 1) := by decide +kernel
theorem d_Mod_seenBy_12 : decode prog_12_method_19_code 12 = .ok (.iaload, 1) := by decide +kernel
theorem d_Mod_seenBy_13 : decode prog_12_method_19_code 13 = .ok (.i2l, 1) := by decide +kernel
theorem d_Mod_seenBy_14 : decode prog_12_method_19_code 14 = .ok (.ladd, 1) := by decide +kernel
theorem d_Mod_seenBy_15 : decode prog_12_method_19_code 15 = .ok (.lstore_n 2, 1) := by decide +kernel
theorem d_Mod_seenBy_16 : decode prog_12_method_19_code 16 = .ok (.lload_n 2, 1) := by decide +kernel
theorem d_Mod_seenBy_17 : decode prog_12_method_19_code 17 = .ok (.aload_n 0, 1) := by decide +kernel
theorem d_Mod_seenBy_18 : decode prog_12_method_19_code 18 = .ok (.getfield 16, 3) := by decide +kernel
theorem d_Mod_seenBy_21 : decode prog_12_method_19_code 21 = .ok (.iconst 3, 1) := by decide +kernel
theorem d_Mod_seenBy_22 : decode prog_12_method_19_code 22 = .ok (.iload_n 1, 1) := by decide +kernel
theorem d_Mod_seenBy_23 : decode prog_12_method_19_code 23 = .ok (.imul, 1) := by decide +kernel
theorem d_Mod_seenBy_24 : decode prog_12_method_19_code 24 = .ok (.iconst 1, 1) := by decide +kernel
theorem d_Mod_seenBy_25 : decode prog_12_method_19_code 25 = .ok (.iadd, 1) := by decide +kernel
theorem d_Mod_seenBy_26 : decode prog_12_method_19_code 26 = .ok (.iaload, 1) := by decide +kernel
theorem d_Mod_seenBy_27 : decode prog_12_method_19_code 27 = .ok (.i2l, 1) := by decide +kernel
theorem d_Mod_seenBy_28 : decode prog_12_method_19_code 28 = .ok (.lrem, 1) := by decide +kernel
theorem d_Mod_seenBy_29 : decode prog_12_method_19_code 29 = .ok (.aload_n 0, 1) := by decide +kernel
theorem d_Mod_seenBy_30 : decode prog_12_method_19_code 30 = .ok (.getfield 16, 3) := by decide +kernel
theorem d_Mod_seenBy_33 : decode prog_12_method_19_code 33 = .ok (.iconst 3, 1) := by decide +kernel
theorem d_Mod_seenBy_34 : decode prog_12_method_19_code 34 = .ok (.iload_n 1, 1) := by decide +kernel
theorem d_Mod_seenBy_35 : decode prog_12_method_19_code 35 = .ok (.imul, 1) := by decide +kernel
theorem d_Mod_seenBy_36 : decode prog_12_method_19_code 36 = .ok (.iconst 2, 1) := by decide +kernel
theorem d_Mod_seenBy_37 : decode prog_12_method_19_code 37 = .ok (.iadd, 1) := by decide +kernel
theorem d_Mod_seenBy_38 : decode prog_12_method_19_code 38 = .ok (.iaload, 1) := by decide +kernel
theorem d_Mod_seenBy_39 : decode prog_12_method_19_code 39 = .ok (.i2l, 1) := by decide +kernel
theorem d_Mod_seenBy_40 : decode prog_12_method_19_code 40 = .ok (.lcmp, 1) := by decide +kernel
theorem d_Mod_seenBy_41 : decode prog_12_method_19_code 41 = .ok (.ifCond .ge (7), 3) := by decide +kernel
theorem d_Mod_seenBy_44 : decode prog_12_method_19_code 44 = .ok (.iconst 1, 1) := by decide +kernel
theorem d_Mod_seenBy_45 : decode prog_12_method_19_code 45 = .ok (.goto (4), 3) := by decide +kernel
theorem d_Mod_seenBy_48 : decode prog_12_method_19_code 48 = .ok (.iconst 0, 1) := by decide +kernel
theorem d_Mod_seenBy_49 : decode prog_12_method_19_code 49 = .ok (.ireturn, 1) := by decide +kernel
theorem d_Mod_fill_0 : decode prog_12_method_20_code 0 = .ok (.iconst 0, 1) := by decide +kernel
theorem d_Mod_fill_1 : decode prog_12_method_20_code 1 = .ok (.istore_n 2, 1) := by decide +kernel
theorem d_Mod_fill_2 : decode prog_12_method_20_code 2 = .ok (.iconst (-1), 1) := by decide +kernel
theorem d_Mod_fill_3 : decode prog_12_method_20_code 3 = .ok (.istore_n 3, 1) := by decide +kernel
theorem d_Mod_fill_4 : decode prog_12_method_20_code 4 = .ok (.iconst 0, 1) := by decide +kernel
theorem d_Mod_fill_5 : decode prog_12_method_20_code 5 = .ok (.istore 4, 2) := by decide +kernel
theorem d_Mod_fill_7 : decode prog_12_method_20_code 7 = .ok (.bipush (8), 2) := by decide +kernel
theorem d_Mod_fill_9 : decode prog_12_method_20_code 9 = .ok (.istore 5, 2) := by decide +kernel
theorem d_Mod_fill_11 : decode prog_12_method_20_code 11 = .ok (.iload 5, 2) := by decide +kernel
theorem d_Mod_fill_13 : decode prog_12_method_20_code 13 = .ok (.bipush (30), 2) := by decide +kernel
theorem d_Mod_fill_15 : decode prog_12_method_20_code 15 = .ok (.if_icmp .ge (134), 3) := by decide +kernel
theorem d_Mod_fill_18 : decode prog_12_method_20_code 18 = .ok (.iload_n 2, 1) := by decide +kernel
theorem d_Mod_fill_19 : decode prog_12_method_20_code 19 = .ok (.aload_n 0, 1) := by decide +kernel
theorem d_Mod_fill_20 : decode prog_12_method_20_code 20 = .ok (.getfield 58, 3) := by decide +kernel
theorem d_Mod_fill_23 : decode prog_12_method_20_code 23 = .ok (.if_icmp .ge (41), 3) := by decide +kernel
theorem d_Mod_fill_26 : decode prog_12_method_20_code 26 = .ok (.aload_n 0, 1) := by decide +kernel
theorem d_Mod_fill_27 : decode prog_12_method_20_code 27 = .ok (.getfield 67, 3) := by decide +kernel
theorem d_Mod_fill_30 : decode prog_12_method_20_code 30 = .ok (.bipush (60), 2) := by decide +kernel
theorem d_Mod_fill_32 : decode prog_12_method_20_code 32 = .ok (.iload_n 2, 1) := by decide +kernel
theorem d_Mod_fill_33 : decode prog_12_method_20_code 33 = .ok (.imul, 1) := by decide +kernel
theorem d_Mod_fill_34 : decode prog_12_method_20_code 34 = .ok (.iconst 1, 1) := by decide +kernel
theorem d_Mod_fill_35 : decode prog_12_method_20_code 35 = .ok (.iadd, 1) := by decide +kernel
theorem d_Mod_fill_36 : decode prog_12_method_20_code 36 = .ok (.iaload, 1) := by decide +kernel
theorem d_Mod_fill_37 : decode prog_12_method_20_code 37 = .ok (.iconst 1, 1) := by decide +kernel
theorem d_Mod_fill_38 : decode prog_12_method_20_code 38 = .ok (.iand, 1) := by decide +kernel
theorem d_Mod_fill_39 : decode prog_12_method_20_code 39 = .ok (.iload_n 1, 1) := by decide +kernel
theorem d_Mod_fill_40 : decode prog_12_method_20_code 40 = .ok (.if_icmp .ne (18), 3) := by decide +kernel
theorem d_Mod_fill_43 : decode prog_12_method_20_code 43 = .ok (.aload_n 0, 1) := by decide +kernel
theorem d_Mod_fill_44 : decode prog_12_method_20_code 44 = .ok (.getfield 73, 3) := by decide +kernel
theorem d_Mod_fill_47 : decode prog_12_method_20_code 47 = .ok (.iload_n 2, 1) := by decide +kernel
theorem d_Mod_fill_48 : decode prog_12_method_20_code 48 = .ok (.iaload, 1) := by decide +kernel
theorem d_Mod_fill_49 : decode prog_12_method_20_code 49 = .ok (.aload_n 0, 1) := by decide +kernel
theorem d_Mod_fill_50 : decode prog_12_method_20_code 50 = .ok (.getfield 64, 3) := by decide +kernel
theorem d_Mod_fill_53 : decode prog_12_method_20_code 53 = .ok (.iload_n 2, 1) := by decide +kernel
theorem d_Mod_fill_54 : decode prog_12_method_20_code 54 = .ok (.iaload, 1) := by decide +kernel
theorem d_Mod_fill_55 : decode prog_12_method_20_code 55 = .ok (.if_icmp .ne (9), 3) := by decide +kernel
theorem d_Mod_fill_58 : decode prog_12_method_20_code 58 = .ok (.iinc 2 (1), 3) := by decide +kernel
theorem d_Mod_fill_61 : decode prog_12_method_20_code 61 = .ok (.goto (-43), 3) := by decide +kernel
theorem d_Mod_fill_64 : decode prog_12_method_20_code 64 = .ok (.iload_n 2, 1) := by decide +kernel
theorem d_Mod_fill_65 : decode prog_12_method_20_code 65 = .ok (.aload_n 0, 1) := by decide +kernel
theorem d_Mod_fill_66 : decode prog_12_method_20_code 66 = .ok (.getfield 58, 3) := by decide +kernel
theorem d_Mod_fill_69 : decode prog_12_method_20_code 69 = .ok (.if_icmp .ne (15), 3) := by decide +kernel
theorem d_Mod_fill_72 : decode prog_12_method_20_code 72 = .ok (.aload_n 0, 1) := by decide +kernel
theorem d_Mod_fill_73 : decode prog_12_method_20_code 73 = .ok (.getfield 85, 3) := by decide +kernel
theorem d_Mod_fill_76 : decode prog_12_method_20_code 76 = .ok (.iload 5, 2) := by decide +kernel
theorem d_Mod_fill_78 : decode prog_12_method_20_code 78 = .ok (.bipush (85), 2) := by decide +kernel
theorem d_Mod_fill_80 : decode prog_12_method_20_code 80 = .ok (.iastore, 1) := by decide +kernel
theorem d_Mod_fill_81 : decode prog_12_method_20_code 81 = .ok (.goto (62), 3) := by decide +kernel
theorem d_Mod_fill_84 : decode prog_12_method_20_code 84 = .ok (.aload_n 0, 1) := by decide +kernel
theorem d_Mod_fill_85 : decode prog_12_method_20_code 85 = .ok (.getfield 73, 3) := by decide +kernel
theorem d_Mod_fill_88 : decode prog_12_method_20_code 88 = .ok (.iload_n 2, 1) := by decide +kernel
theorem d_Mod_fill_89 : decode prog_12_method_20_code 89 = .ok (.iaload, 1) := by decide +kernel
theorem d_Mod_fill_90 : decode prog_12_method_20_code 90 = .ok (.ifCond .ne (13), 3) := by decide +kernel
theorem d_Mod_fill_93 : decode prog_12_method_20_code 93 = .ok (.iload_n 3, 1) := by decide +kernel
theorem d_Mod_fill_94 : decode prog_12_method_20_code 94 = .ok (.ifCond .ge (9), 3) := by decide +kernel
theorem d_Mod_fill_97 : decode prog_12_method_20_code 97 = .ok (.iload 5, 2) := by decide +kernel
theorem d_Mod_fill_99 : decode prog_12_method_20_code 99 = .ok (.bipush (8), 2) := by decide +kernel
theorem d_Mod_fill_101 : decode prog_12_method_20_code 101 = .ok (.isub, 1) := by decide +kernel
theorem d_Mod_fill_102 : decode prog_12_method_20_code 102 = .ok (.istore_n 3, 1) := by decide +kernel
theorem d_Mod_fill_103 : decode prog_12_method_20_code 103 = .ok (.iconst 1, 1) := by decide +kernel
theorem d_Mod_fill_104 : decode prog_12_method_20_code 104 = .ok (.istore 4, 2) := by decide +kernel
theorem d_Mod_fill_106 : decode prog_12_method_20_code 106 = .ok (.aload_n 0, 1) := by decide +kernel
theorem d_Mod_fill_107 : decode prog_12_method_20_code 107 = .ok (.getfield 85, 3) := by decide +kernel
theorem d_Mod_fill_110 : decode prog_12_method_20_code 110 = .ok (.iload 5, 2) := by decide +kernel
theorem d_Mod_fill_112 : decode prog_12_method_20_code 112 = .ok (.aload_n 0, 1) := by decide +kernel
theorem d_Mod_fill_113 : decode prog_12_method_20_code 113 = .ok (.getfield 67, 3) := by decide +kernel
theorem d_Mod_fill_116 : decode prog_12_method_20_code 116 = .ok (.bipush (60), 2) := by decide +kernel
theorem d_Mod_fill_118 : decode prog_12_method_20_code 118 = .ok (.iload_n 2, 1) := by decide +kernel
theorem d_Mod_fill_119 : decode prog_12_method_20_code 119 = .ok (.imul, 1) := by decide +kernel
theorem d_Mod_fill_120 : decode prog_12_method_20_code 120 = .ok (.aload_n 0, 1) := by decide +kernel
theorem d_Mod_fill_121 : decode prog_12_method_20_code 121 = .ok (.getfield 73, 3) := by decide +kernel
theorem d_Mod_fill_124 : decode prog_12_method_20_code 124 = .ok (.iload_n 2, 1) := by decide +kernel
theorem d_Mod_fill_125 : decode prog_12_method_20_code 125 = .ok (.iaload, 1) := by decide +kernel
theorem d_Mod_fill_126 : decode prog_12_method_20_code 126 = .ok (.iadd, 1) := by decide +kernel
theorem d_Mod_fill_127 : decode prog_12_method_20_code 127 = .ok (.iaload, 1) := by decide +kernel
theorem d_Mod_fill_128 : decode prog_12_method_20_code 128 = .ok (.iastore, 1) := by decide +kernel
theorem d_Mod_fill_129 : decode prog_12_method_20_code 129 = .ok (.aload_n 0, 1) := by decide +kernel
theorem d_Mod_fill_130 : decode prog_12_method_20_code 130 = .ok (.getfield 73, 3) := by decide +kernel
theorem d_Mod_fill_133 : decode prog_12_method_20_code 133 = .ok (.iload_n 2, 1) := by decide +kernel
theorem d_Mod_fill_134 : decode prog_12_method_20_code 134 = .ok (.aload_n 0, 1) := by decide +kernel
theorem d_Mod_fill_135 : decode prog_12_method_20_code 135 = .ok (.getfield 73, 3) := by decide +kernel
theorem d_Mod_fill_138 : decode prog_12_method_20_code 138 = .ok (.iload_n 2, 1) := by decide +kernel
theorem d_Mod_fill_139 : decode prog_12_method_20_code 139 = .ok (.iaload, 1) := by decide +kernel
theorem d_Mod_fill_140 : decode prog_12_method_20_code 140 = .ok (.iconst 1, 1) := by decide +kernel
theorem d_Mod_fill_141 : decode prog_12_method_20_code 141 = .ok (.iadd, 1) := by decide +kernel
theorem d_Mod_fill_142 : decode prog_12_method_20_code 142 = .ok (.iastore, 1) := by decide +kernel
theorem d_Mod_fill_143 : decode prog_12_method_20_code 143 = .ok (.iinc 5 (1), 3) := by decide +kernel
theorem d_Mod_fill_146 : decode prog_12_method_20_code 146 = .ok (.goto (-135), 3) := by decide +kernel
theorem d_Mod_fill_149 : decode prog_12_method_20_code 149 = .ok (.iload_n 3, 1) := by decide +kernel
theorem d_Mod_fill_150 : decode prog_12_method_20_code 150 = .ok (.ifCond .lt (7), 3) := by decide +kernel
theorem d_Mod_fill_153 : decode prog_12_method_20_code 153 = .ok (.iload_n 3, 1) := by decide +kernel
theorem d_Mod_fill_154 : decode prog_12_method_20_code 154 = .ok (.goto (17), 3) := by decide +kernel
theorem d_Mod_fill_157 : decode prog_12_method_20_code 157 = .ok (.iload 4, 2) := by decide +kernel
theorem d_Mod_fill_159 : decode prog_12_method_20_code 159 = .ok (.ifCond .eq (9), 3) := by decide +kernel
theorem d_Mod_fill_162 : decode prog_12_method_20_code 162 = .ok (.sipush (2047), 3) := by decide +kernel
theorem d_Mod_fill_165 : decode prog_12_method_20_code 165 = .ok (.goto (6), 3) := by decide +kernel
theorem d_Mod_fill_168 : decode prog_12_method_20_code 168 = .ok (.sipush (2046), 3) := by decide +kernel
theorem d_Mod_fill_171 : decode prog_12_method_20_code 171 = .ok (.istore 5, 2) := by decide +kernel
theorem d_Mod_fill_173 : decode prog_12_method_20_code 173 = .ok (.aload_n 0, 1) := by decide +kernel
theorem d_Mod_fill_174 : decode prog_12_method_20_code 174 = .ok (.getfield 85, 3) := by decide +kernel
theorem d_Mod_fill_177 : decode prog_12_method_20_code 177 = .ok (.bipush (6), 2) := by decide +kernel
theorem d_Mod_fill_179 : decode prog_12_method_20_code 179 = .ok (.iload 5, 2) := by decide +kernel
theorem d_Mod_fill_181 : decode prog_12_method_20_code 181 = .ok (.bipush (8), 2) := by decide +kernel
theorem d_Mod_fill_183 : decode prog_12_method_20_code 183 = .ok (.ishr, 1) := by decide +kernel
theorem d_Mod_fill_184 : decode prog_12_method_20_code 184 = .ok (.iastore, 1) := by decide +kernel
theorem d_Mod_fill_185 : decode prog_12_method_20_code 185 = .ok (.aload_n 0, 1) := by decide +kernel
theorem d_Mod_fill_186 : decode prog_12_method_20_code 186 = .ok (.getfield 85, 3) := by decide +kernel
theorem d_Mod_fill_189 : decode prog_12_method_20_code 189 = .ok (.bipush (7), 2) := by decide +kernel
theorem d_Mod_fill_191 : decode prog_12_method_20_code 191 = .ok (.iload 5, 2) := by decide +kernel
theorem d_Mod_fill_193 : decode prog_12_method_20_code 193 = .ok (.sipush (255), 3) := by decide +kernel
theorem d_Mod_fill_196 : decode prog_12_method_20_code 196 = .ok (.iand, 1) := by decide +kernel
theorem d_Mod_fill_197 : decode prog_12_method_20_code 197 = .ok (.iastore, 1) := by decide +kernel
theorem d_Mod_fill_198 : decode prog_12_method_20_code 198 = .ok (.return_, 1) := by decide +kernel
theorem d_Mod_check16_0 : decode prog_12_method_21_code 0 = .ok (.ldc 153, 2) := by decide +kernel
theorem d_Mod_check16_2 : decode prog_12_method_21_code 2 = .ok (.istore_n 1, 1) := by decide +kernel
theorem d_Mod_check16_3 : decode prog_12_method_21_code 3 = .ok (.iconst 0, 1) := by decide +kernel
theorem d_Mod_check16_4 : decode prog_12_method_21_code 4 = .ok (.istore_n 2, 1) := by decide +kernel
theorem d_Mod_check16_5 : decode prog_12_method_21_code 5 = .ok (.iload_n 2, 1) := by decide +kernel
theorem d_Mod_check16_6 : decode prog_12_method_21_code 6 = .ok (.bipush (30), 2) := by decide +kernel
theorem d_Mod_check16_8 : decode prog_12_method_21_code 8 = .ok (.if_icmp .ge (58), 3) := by decide +kernel
theorem d_Mod_check16_11 : decode prog_12_method_21_code 11 = .ok (.bipush (7), 2) := by decide +kernel
theorem d_Mod_check16_13 : decode prog_12_method_21_code 13 = .ok (.istore_n 3, 1) := by decide +kernel
theorem d_Mod_check16_14 : decode prog_12_method_21_code 14 = .ok (.iload_n 3, 1) := by decide +kernel
theorem d_Mod_check16_15 : decode prog_12_method_21_code 15 = .ok (.ifCond .lt (45), 3) := by decide +kernel
theorem d_Mod_check16_18 : decode prog_12_method_21_code 18 = .ok (.iload_n 1, 1) := by decide +kernel
theorem d_Mod_check16_19 : decode prog_12_method_21_code 19 = .ok (.bipush (15), 2) := by decide +kernel
theorem d_Mod_check16_21 : decode prog_12_method_21_code 21 = .ok (.ishr, 1) := by decide +kernel
theorem d_Mod_check16_22 : decode prog_12_method_21_code 22 = .ok (.aload_n 0, 1) := by decide +kernel
theorem d_Mod_check16_23 : decode prog_12_method_21_code 23 = .ok (.getfield 85, 3) := by decide +kernel
theorem d_Mod_check16_26 : decode prog_12_method_21_code 26 = .ok (.iload_n 2, 1) := by decide +kernel
theorem d_Mod_check16_27 : decode prog_12_method_21_code 27 = .ok (.iaload, 1) := by decide +kernel
theorem d_Mod_check16_28 : decode prog_12_method_21_code 28 = .ok (.iload_n 3, 1) := by decide +kernel
theorem d_Mod_check16_29 : decode prog_12_method_21_code 29 = .ok (.ishr, 1) := by decide +kernel
theorem d_Mod_check16_30 : decode prog_12_method_21_code 30 = .ok (.iconst 1, 1) := by decide +kernel
theorem d_Mod_check16_31 : decode prog_12_method_21_code 31 = .ok (.iand, 1) := by decide +kernel
theorem d_Mod_check16_32 : decode prog_12_method_21_code 32 = .ok (.ixor, 1) := by decide +kernel
theorem d_Mod_check16_33 : decode prog_12_method_21_code 33 = .ok (.istore 4, 2) := by decide +kernel
theorem d_Mod_check16_35 : decode prog_12_method_21_code 35 = .ok (.iload_n 1, 1) := by decide +kernel
theorem d_Mod_check16_36 : decode prog_12_method_21_code 36 = .ok (.iconst 1, 1) := by decide +kernel
theorem d_Mod_check16_37 : decode prog_12_method_21_code 37 = .ok (.ishl, 1) := by decide +kernel
theorem d_Mod_check16_38 : decode prog_12_method_21_code 38 = .ok (.ldc 153, 2) := by decide +kernel
theorem d_Mod_check16_40 : decode prog_12_method_21_code 40 = .ok (.iand, 1) := by decide +kernel
theorem d_Mod_check16_41 : decode prog_12_method_21_code 41 = .ok (.istore_n 1, 1) := by decide +kernel
theorem d_Mod_check16_42 : decode prog_12_method_21_code 42 = .ok (.iload 4, 2) := by decide +kernel
theorem d_Mod_check16_44 : decode prog_12_method_21_code 44 = .ok (.iconst 1, 1) := by decide +kernel
theorem d_Mod_check16_45 : decode prog_12_method_21_code 45 = .ok (.if_icmp .ne (9), 3) := by decide +kernel
theorem d_Mod_check16_48 : decode prog_12_method_21_code 48 = .ok (.iload_n 1, 1) := by decide +kernel
theorem d_Mod_check16_49 : decode prog_12_method_21_code 49 = .ok (.sipush (4129), 3) := by decide +kernel
theorem d_Mod_check16_52 : decode prog_12_method_21_code 52 = .ok (.ixor, 1) := by decide +kernel
theorem d_Mod_check16_53 : decode prog_12_method_21_code 53 = .ok (.istore_n 1, 1) := by decide +kernel
theorem d_Mod_check16_54 : decode prog_12_method_21_code 54 = .ok (.iinc 3 (-1), 3) := by decide +kernel
theorem d_Mod_check16_57 : decode prog_12_method_21_code 57 = .ok (.goto (-43), 3) := by decide +kernel
theorem d_Mod_check16_60 : decode prog_12_method_21_code 60 = .ok (.iinc 2 (1), 3) := by decide +kernel
theorem d_Mod_check16_63 : decode prog_12_method_21_code 63 = .ok (.goto (-58), 3) := by decide +kernel
theorem d_Mod_check16_66 : decode prog_12_method_21_code 66 = .ok (.aload_n 0, 1) := by decide +kernel
theorem d_Mod_check16_67 : decode prog_12_method_21_code 67 = .ok (.getfield 85, 3) := by decide +kernel
theorem d_Mod_check16_70 : decode prog_12_method_21_code 70 = .ok (.bipush (30), 2) := by decide +kernel
theorem d_Mod_check16_72 : decode prog_12_method_21_code 72 = .ok (.iload_n 1, 1) := by decide +kernel
theorem d_Mod_check16_73 : decode prog_12_method_21_code 73 = .ok (.bipush (8), 2) := by decide +kernel
theorem d_Mod_check16_75 : decode prog_12_method_21_code 75 = .ok (.ishr, 1) := by decide +kernel
theorem d_Mod_check16_76 : decode prog_12_method_21_code 76 = .ok (.iastore, 1) := by decide +kernel
theorem d_Mod_check16_77 : decode prog_12_method_21_code 77 = .ok (.aload_n 0, 1) := by decide +kernel
theorem d_Mod_check16_78 : decode prog_12_method_21_code 78 = .ok (.getfield 85, 3) := by decide +kernel
theorem d_Mod_check16_81 : decode prog_12_method_21_code 81 = .ok (.bipush (31), 2) := by decide +kernel
theorem d_Mod_check16_83 : decode prog_12_method_21_code 83 = .ok (.iload_n 1, 1) := by decide +kernel
theorem d_Mod_check16_84 : decode prog_12_method_21_code 84 = .ok (.sipush (255), 3) := by decide +kernel
theorem d_Mod_check16_87 : decode prog_12_method_21_code 87 = .ok (.iand, 1) := by decide +kernel
theorem d_Mod_check16_88 : decode prog_12_method_21_code 88 = .ok (.iastore, 1) := by decide +kernel
theorem d_Mod_check16_89 : decode prog_12_method_21_code 89 = .ok (.return_, 1) := by decide +kernel
theorem d_Mod_thrown_0 : decode prog_12_method_22_code 0 = .ok (.aload_n 0, 1) := by decide +kernel
theorem d_Mod_thrown_1 : decode prog_12_method_22_code 1 = .ok (.getfield 7, 3) := by decide +kernel
theorem d_Mod_thrown_4 : decode prog_12_method_22_code 4 = .ok (.ireturn, 1) := by decide +kernel
theorem d_Mod_window_0 : decode prog_12_method_23_code 0 = .ok (.aload_n 0, 1) := by decide +kernel
theorem d_Mod_window_1 : decode prog_12_method_23_code 1 = .ok (.iload_n 1, 1) := by decide +kernel
theorem d_Mod_window_2 : decode prog_12_method_23_code 2 = .ok (.ifCond .lt (22), 3) := by decide +kernel
theorem d_Mod_window_5 : decode prog_12_method_23_code 5 = .ok (.iload_n 1, 1) := by decide +kernel
theorem d_Mod_window_6 : decode prog_12_method_23_code 6 = .ok (.iconst 1, 1) := by decide +kernel
theorem d_Mod_window_7 : decode prog_12_method_23_code 7 = .ok (.if_icmp .gt (17), 3) := by decide +kernel
theorem d_Mod_window_10 : decode prog_12_method_23_code 10 = .ok (.iload_n 2, 1) := by decide +kernel
theorem d_Mod_window_11 : decode prog_12_method_23_code 11 = .ok (.ifCond .lt (13), 3) := by decide +kernel
theorem d_Mod_window_14 : decode prog_12_method_23_code 14 = .ok (.iload_n 3, 1) := by decide +kernel
theorem d_Mod_window_15 : decode prog_12_method_23_code 15 = .ok (.iconst 1, 1) := by decide +kernel
theorem d_Mod_window_16 : decode prog_12_method_23_code 16 = .ok (.if_icmp .lt (8), 3) := by decide +kernel
theorem d_Mod_window_19 : decode prog_12_method_23_code 19 = .ok (.iload 4, 2) := by decide +kernel
theorem d_Mod_window_21 : decode prog_12_method_23_code 21 = .ok (.ifCond .ge (7), 3) := by decide +kernel
theorem d_Mod_window_24 : decode prog_12_method_23_code 24 = .ok (.iconst 1, 1) := by decide +kernel
theorem d_Mod_window_25 : decode prog_12_method_23_code 25 = .ok (.goto (4), 3) := by decide +kernel
theorem d_Mod_window_28 : decode prog_12_method_23_code 28 = .ok (.iconst 0, 1) := by decide +kernel
theorem d_Mod_window_29 : decode prog_12_method_23_code 29 = .ok (.putfield 7, 3) := by decide +kernel
theorem d_Mod_window_32 : decode prog_12_method_23_code 32 = .ok (.aload_n 0, 1) := by decide +kernel
theorem d_Mod_window_33 : decode prog_12_method_23_code 33 = .ok (.getfield 7, 3) := by decide +kernel
theorem d_Mod_window_36 : decode prog_12_method_23_code 36 = .ok (.ifCond .eq (4), 3) := by decide +kernel
theorem d_Mod_window_39 : decode prog_12_method_23_code 39 = .ok (.return_, 1) := by decide +kernel
theorem d_Mod_window_40 : decode prog_12_method_23_code 40 = .ok (.aload_n 0, 1) := by decide +kernel
theorem d_Mod_window_41 : decode prog_12_method_23_code 41 = .ok (.getfield 16, 3) := by decide +kernel
theorem d_Mod_window_44 : decode prog_12_method_23_code 44 = .ok (.iconst 3, 1) := by decide +kernel
theorem d_Mod_window_45 : decode prog_12_method_23_code 45 = .ok (.iload_n 1, 1) := by decide +kernel
theorem d_Mod_window_46 : decode prog_12_method_23_code 46 = .ok (.imul, 1) := by decide +kernel
theorem d_Mod_window_47 : decode prog_12_method_23_code 47 = .ok (.iload_n 2, 1) := by decide +kernel
theorem d_Mod_window_48 : decode prog_12_method_23_code 48 = .ok (.iastore, 1) := by decide +kernel
theorem d_Mod_window_49 : decode prog_12_method_23_code 49 = .ok (.aload_n 0, 1) := by decide +kernel
theorem d_Mod_window_50 : decode prog_12_method_23_code 50 = .ok (.getfield 16, 3) := by decide +kernel
theorem d_Mod_window_53 : decode prog_12_method_23_code 53 = .ok (.iconst 3, 1) := by decide +kernel
theorem d_Mod_window_54 : decode prog_12_method_23_code 54 = .ok (.iload_n 1, 1) := by decide +kernel
theorem d_Mod_window_55 : decode prog_12_method_23_code 55 = .ok (.imul, 1) := by decide +kernel
theorem d_Mod_window_56 : decode prog_12_method_23_code 56 = .ok (.iconst 1, 1) := by decide +kernel
theorem d_Mod_window_57 : decode prog_12_method_23_code 57 = .ok (.iadd, 1) := by decide +kernel
theorem d_Mod_window_58 : decode prog_12_method_23_code 58 = .ok (.iload_n 3, 1) := by decide +kernel
theorem d_Mod_window_59 : decode prog_12_method_23_code 59 = .ok (.iastore, 1) := by decide +kernel
theorem d_Mod_window_60 : decode prog_12_method_23_code 60 = .ok (.aload_n 0, 1) := by decide +kernel
theorem d_Mod_window_61 : decode prog_12_method_23_code 61 = .ok (.getfield 16, 3) := by decide +kernel
theorem d_Mod_window_64 : decode prog_12_method_23_code 64 = .ok (.iconst 3, 1) := by decide +kernel
theorem d_Mod_window_65 : decode prog_12_method_23_code 65 = .ok (.iload_n 1, 1) := by decide +kernel
theorem d_Mod_window_66 : decode prog_12_method_23_code 66 = .ok (.imul, 1) := by decide +kernel
theorem d_Mod_window_67 : decode prog_12_method_23_code 67 = .ok (.iconst 2, 1) := by decide +kernel
theorem d_Mod_window_68 : decode prog_12_method_23_code 68 = .ok (.iadd, 1) := by decide +kernel
theorem d_Mod_window_69 : decode prog_12_method_23_code 69 = .ok (.iload 4, 2) := by decide +kernel
theorem d_Mod_window_71 : decode prog_12_method_23_code 71 = .ok (.iastore, 1) := by decide +kernel
theorem d_Mod_window_72 : decode prog_12_method_23_code 72 = .ok (.return_, 1) := by decide +kernel
theorem d_Mod_minute_0 : decode prog_12_method_24_code 0 = .ok (.aload_n 0, 1) := by decide +kernel
theorem d_Mod_minute_1 : decode prog_12_method_24_code 1 = .ok (.iload_n 1, 1) := by decide +kernel
theorem d_Mod_minute_2 : decode prog_12_method_24_code 2 = .ok (.iconst 1, 1) := by decide +kernel
theorem d_Mod_minute_3 : decode prog_12_method_24_code 3 = .ok (.if_icmp .lt (10), 3) := by decide +kernel
theorem d_Mod_minute_6 : decode prog_12_method_24_code 6 = .ok (.iload_n 1, 1) := by decide +kernel
theorem d_Mod_minute_7 : decode prog_12_method_24_code 7 = .ok (.sipush (1000), 3) := by decide +kernel
theorem d_Mod_minute_10 : decode prog_12_method_24_code 10 = .ok (.if_icmp .le (7), 3) := by decide +kernel
theorem d_Mod_minute_13 : decode prog_12_method_24_code 13 = .ok (.iconst 1, 1) := by decide +kernel
theorem d_Mod_minute_14 : decode prog_12_method_24_code 14 = .ok (.goto (4), 3) := by decide +kernel
theorem d_Mod_minute_17 : decode prog_12_method_24_code 17 = .ok (.iconst 0, 1) := by decide +kernel
theorem d_Mod_minute_18 : decode prog_12_method_24_code 18 = .ok (.putfield 7, 3) := by decide +kernel
theorem d_Mod_minute_21 : decode prog_12_method_24_code 21 = .ok (.aload_n 0, 1) := by decide +kernel
theorem d_Mod_minute_22 : decode prog_12_method_24_code 22 = .ok (.getfield 7, 3) := by decide +kernel
theorem d_Mod_minute_25 : decode prog_12_method_24_code 25 = .ok (.ifCond .eq (5), 3) := by decide +kernel
theorem d_Mod_minute_28 : decode prog_12_method_24_code 28 = .ok (.iconst 0, 1) := by decide +kernel
theorem d_Mod_minute_29 : decode prog_12_method_24_code 29 = .ok (.ireturn, 1) := by decide +kernel
theorem d_Mod_minute_30 : decode prog_12_method_24_code 30 = .ok (.aload_n 0, 1) := by decide +kernel
theorem d_Mod_minute_31 : decode prog_12_method_24_code 31 = .ok (.dup, 1) := by decide +kernel
theorem d_Mod_minute_32 : decode prog_12_method_24_code 32 = .ok (.getfield 13, 3) := by decide +kernel
theorem d_Mod_minute_35 : decode prog_12_method_24_code 35 = .ok (.iload_n 1, 1) := by decide +kernel
theorem d_Mod_minute_36 : decode prog_12_method_24_code 36 = .ok (.iadd, 1) := by decide +kernel
theorem d_Mod_minute_37 : decode prog_12_method_24_code 37 = .ok (.putfield 13, 3) := by decide +kernel
theorem d_Mod_minute_40 : decode prog_12_method_24_code 40 = .ok (.aload_n 0, 1) := by decide +kernel
theorem d_Mod_minute_41 : decode prog_12_method_24_code 41 = .ok (.getfield 13, 3) := by decide +kernel
theorem d_Mod_minute_44 : decode prog_12_method_24_code 44 = .ok (.ireturn, 1) := by decide +kernel
theorem d_Mod_seen_0 : decode prog_12_method_25_code 0 = .ok (.aload_n 0, 1) := by decide +kernel
theorem d_Mod_seen_1 : decode prog_12_method_25_code 1 = .ok (.iload_n 1, 1) := by decide +kernel
theorem d_Mod_seen_2 : decode prog_12_method_25_code 2 = .ok (.ifCond .lt (8), 3) := by decide +kernel
theorem d_Mod_seen_5 : decode prog_12_method_25_code 5 = .ok (.iload_n 1, 1) := by decide +kernel
theorem d_Mod_seen_6 : decode prog_12_method_25_code 6 = .ok (.iconst 1, 1) := by decide +kernel
theorem d_Mod_seen_7 : decode prog_12_method_25_code 7 = .ok (.if_icmp .le (7), 3) := by decide +kernel
theorem d_Mod_seen_10 : decode prog_12_method_25_code 10 = .ok (.iconst 1, 1) := by decide +kernel
theorem d_Mod_seen_11 : decode prog_12_method_25_code 11 = .ok (.goto (4), 3) := by decide +kernel
theorem d_Mod_seen_14 : decode prog_12_method_25_code 14 = .ok (.iconst 0, 1) := by decide +kernel
theorem d_Mod_seen_15 : decode prog_12_method_25_code 15 = .ok (.putfield 7, 3) := by decide +kernel
theorem d_Mod_seen_18 : decode prog_12_method_25_code 18 = .ok (.aload_n 0, 1) := by decide +kernel
theorem d_Mod_seen_19 : decode prog_12_method_25_code 19 = .ok (.getfield 7, 3) := by decide +kernel
theorem d_Mod_seen_22 : decode prog_12_method_25_code 22 = .ok (.ifCond .ne (15), 3) := by decide +kernel
theorem d_Mod_seen_25 : decode prog_12_method_25_code 25 = .ok (.aload_n 0, 1) := by decide +kernel
theorem d_Mod_seen_26 : decode prog_12_method_25_code 26 = .ok (.iload_n 1, 1) := by decide +kernel
theorem d_Mod_seen_27 : decode prog_12_method_25_code 27 = .ok (.invokevirtual 125, 3) := by decide +kernel
theorem d_Mod_seen_30 : decode prog_12_method_25_code 30 = .ok (.ifCond .eq (7), 3) := by decide +kernel
theorem d_Mod_seen_33 : decode prog_12_method_25_code 33 = .ok (.iconst 1, 1) := by decide +kernel
theorem d_Mod_seen_34 : decode prog_12_method_25_code 34 = .ok (.goto (4), 3) := by decide +kernel
theorem d_Mod_seen_37 : decode prog_12_method_25_code 37 = .ok (.iconst 0, 1) := by decide +kernel
theorem d_Mod_seen_38 : decode prog_12_method_25_code 38 = .ok (.ireturn, 1) := by decide +kernel
theorem d_Mod_receive_0 : decode prog_12_method_26_code 0 = .ok (.aload_n 0, 1) := by decide +kernel
theorem d_Mod_receive_1 : decode prog_12_method_26_code 1 = .ok (.aload_n 0, 1) := by decide +kernel
theorem d_Mod_receive_2 : decode prog_12_method_26_code 2 = .ok (.getfield 20, 3) := by decide +kernel
theorem d_Mod_receive_5 : decode prog_12_method_26_code 5 = .ok (.ifCond .eq (7), 3) := by decide +kernel
theorem d_Mod_receive_8 : decode prog_12_method_26_code 8 = .ok (.iconst 1, 1) := by decide +kernel
theorem d_Mod_receive_9 : decode prog_12_method_26_code 9 = .ok (.goto (18), 3) := by decide +kernel
theorem d_Mod_receive_12 : decode prog_12_method_26_code 12 = .ok (.iload_n 2, 1) := by decide +kernel
theorem d_Mod_receive_13 : decode prog_12_method_26_code 13 = .ok (.iconst 1, 1) := by decide +kernel
theorem d_Mod_receive_14 : decode prog_12_method_26_code 14 = .ok (.if_icmp .lt (8), 3) := by decide +kernel
theorem d_Mod_receive_17 : decode prog_12_method_26_code 17 = .ok (.iload_n 2, 1) := by decide +kernel
theorem d_Mod_receive_18 : decode prog_12_method_26_code 18 = .ok (.iconst 4, 1) := by decide +kernel
theorem d_Mod_receive_19 : decode prog_12_method_26_code 19 = .ok (.if_icmp .le (7), 3) := by decide +kernel
theorem d_Mod_receive_22 : decode prog_12_method_26_code 22 = .ok (.iconst 2, 1) := by decide +kernel
theorem d_Mod_receive_23 : decode prog_12_method_26_code 23 = .ok (.goto (4), 3) := by decide +kernel
theorem d_Mod_receive_26 : decode prog_12_method_26_code 26 = .ok (.iconst 0, 1) := by decide +kernel
theorem d_Mod_receive_27 : decode prog_12_method_26_code 27 = .ok (.putfield 7, 3) := by decide +kernel
theorem d_Mod_receive_30 : decode prog_12_method_26_code 30 = .ok (.aload_n 0, 1) := by decide +kernel
theorem d_Mod_receive_31 : decode prog_12_method_26_code 31 = .ok (.getfield 7, 3) := by decide +kernel
theorem d_Mod_receive_34 : decode prog_12_method_26_code 34 = .ok (.ifCond .eq (5), 3) := by decide +kernel
theorem d_Mod_receive_37 : decode prog_12_method_26_code 37 = .ok (.iconst 0, 1) := by decide +kernel
theorem d_Mod_receive_38 : decode prog_12_method_26_code 38 = .ok (.ireturn, 1) := by decide +kernel
theorem d_Mod_receive_39 : decode prog_12_method_26_code 39 = .ok (.iconst 0, 1) := by decide +kernel
theorem d_Mod_receive_40 : decode prog_12_method_26_code 40 = .ok (.istore_n 3, 1) := by decide +kernel
theorem d_Mod_receive_41 : decode prog_12_method_26_code 41 = .ok (.iload_n 2, 1) := by decide +kernel
theorem d_Mod_receive_42 : decode prog_12_method_26_code 42 = .ok (.iconst 1, 1) := by decide +kernel
theorem d_Mod_receive_43 : decode prog_12_method_26_code 43 = .ok (.isub, 1) := by decide +kernel
theorem d_Mod_receive_44 : decode prog_12_method_26_code 44 = .ok (.istore 4, 2) := by decide +kernel
theorem d_Mod_receive_46 : decode prog_12_method_26_code 46 = .ok (.iload 4, 2) := by decide +kernel
theorem d_Mod_receive_48 : decode prog_12_method_26_code 48 = .ok (.ifCond .lt (34), 3) := by decide +kernel
theorem d_Mod_receive_51 : decode prog_12_method_26_code 51 = .ok (.aload_n 0, 1) := by decide +kernel
theorem d_Mod_receive_52 : decode prog_12_method_26_code 52 = .ok (.getfield 20, 3) := by decide +kernel
theorem d_Mod_receive_55 : decode prog_12_method_26_code 55 = .ok (.ifCond .ne (27), 3) := by decide +kernel
theorem d_Mod_receive_58 : decode prog_12_method_26_code 58 = .ok (.iload_n 3, 1) := by decide +kernel
theorem d_Mod_receive_59 : decode prog_12_method_26_code 59 = .ok (.aload_n 0, 1) := by decide +kernel
theorem d_Mod_receive_60 : decode prog_12_method_26_code 60 = .ok (.iload_n 1, 1) := by decide +kernel
theorem d_Mod_receive_61 : decode prog_12_method_26_code 61 = .ok (.bipush (8), 2) := by decide +kernel
theorem d_Mod_receive_63 : decode prog_12_method_26_code 63 = .ok (.iload 4, 2) := by decide +kernel
theorem d_Mod_receive_65 : decode prog_12_method_26_code 65 = .ok (.imul, 1) := by decide +kernel
theorem d_Mod_receive_66 : decode prog_12_method_26_code 66 = .ok (.ishr, 1) := by decide +kernel
theorem d_Mod_receive_67 : decode prog_12_method_26_code 67 = .ok (.sipush (255), 3) := by decide +kernel
theorem d_Mod_receive_70 : decode prog_12_method_26_code 70 = .ok (.iand, 1) := by decide +kernel
theorem d_Mod_receive_71 : decode prog_12_method_26_code 71 = .ok (.invokevirtual 154, 3) := by decide +kernel
theorem d_Mod_receive_74 : decode prog_12_method_26_code 74 = .ok (.iadd, 1) := by decide +kernel
theorem d_Mod_receive_75 : decode prog_12_method_26_code 75 = .ok (.istore_n 3, 1) := by decide +kernel
theorem d_Mod_receive_76 : decode prog_12_method_26_code 76 = .ok (.iinc 4 (-1), 3) := by decide +kernel
theorem d_Mod_receive_79 : decode prog_12_method_26_code 79 = .ok (.goto (-33), 3) := by decide +kernel
theorem d_Mod_receive_82 : decode prog_12_method_26_code 82 = .ok (.iload_n 3, 1) := by decide +kernel
theorem d_Mod_receive_83 : decode prog_12_method_26_code 83 = .ok (.ireturn, 1) := by decide +kernel
theorem d_Mod_report_0 : decode prog_12_method_27_code 0 = .ok (.aload_n 0, 1) := by decide +kernel
theorem d_Mod_report_1 : decode prog_12_method_27_code 1 = .ok (.aload_n 0, 1) := by decide +kernel
theorem d_Mod_report_2 : decode prog_12_method_27_code 2 = .ok (.getfield 20, 3) := by decide +kernel
theorem d_Mod_report_5 : decode prog_12_method_27_code 5 = .ok (.ifCond .eq (7), 3) := by decide +kernel
theorem d_Mod_report_8 : decode prog_12_method_27_code 8 = .ok (.iconst 1, 1) := by decide +kernel
theorem d_Mod_report_9 : decode prog_12_method_27_code 9 = .ok (.goto (4), 3) := by decide +kernel
theorem d_Mod_report_12 : decode prog_12_method_27_code 12 = .ok (.iconst 0, 1) := by decide +kernel
theorem d_Mod_report_13 : decode prog_12_method_27_code 13 = .ok (.putfield 7, 3) := by decide +kernel
theorem d_Mod_report_16 : decode prog_12_method_27_code 16 = .ok (.aload_n 0, 1) := by decide +kernel
theorem d_Mod_report_17 : decode prog_12_method_27_code 17 = .ok (.getfield 7, 3) := by decide +kernel
theorem d_Mod_report_20 : decode prog_12_method_27_code 20 = .ok (.ifCond .ne (10), 3) := by decide +kernel
theorem d_Mod_report_23 : decode prog_12_method_27_code 23 = .ok (.aload_n 0, 1) := by decide +kernel
theorem d_Mod_report_24 : decode prog_12_method_27_code 24 = .ok (.getfield 33, 3) := by decide +kernel
theorem d_Mod_report_27 : decode prog_12_method_27_code 27 = .ok (.ifCond .ne (5), 3) := by decide +kernel
theorem d_Mod_report_30 : decode prog_12_method_27_code 30 = .ok (.iconst 0, 1) := by decide +kernel
theorem d_Mod_report_31 : decode prog_12_method_27_code 31 = .ok (.ireturn, 1) := by decide +kernel
theorem d_Mod_report_32 : decode prog_12_method_27_code 32 = .ok (.ldc 157, 2) := by decide +kernel
theorem d_Mod_report_34 : decode prog_12_method_27_code 34 = .ok (.aload_n 0, 1) := by decide +kernel
theorem d_Mod_report_35 : decode prog_12_method_27_code 35 = .ok (.getfield 42, 3) := by decide +kernel
theorem d_Mod_report_38 : decode prog_12_method_27_code 38 = .ok (.bipush (13), 2) := by decide +kernel
theorem d_Mod_report_40 : decode prog_12_method_27_code 40 = .ok (.ishl, 1) := by decide +kernel
theorem d_Mod_report_41 : decode prog_12_method_27_code 41 = .ok (.ior, 1) := by decide +kernel
theorem d_Mod_report_42 : decode prog_12_method_27_code 42 = .ok (.aload_n 0, 1) := by decide +kernel
theorem d_Mod_report_43 : decode prog_12_method_27_code 43 = .ok (.getfield 36, 3) := by decide +kernel
theorem d_Mod_report_46 : decode prog_12_method_27_code 46 = .ok (.bipush (12), 2) := by decide +kernel
theorem d_Mod_report_48 : decode prog_12_method_27_code 48 = .ok (.ishl, 1) := by decide +kernel
theorem d_Mod_report_49 : decode prog_12_method_27_code 49 = .ok (.ior, 1) := by decide +kernel
theorem d_Mod_report_50 : decode prog_12_method_27_code 50 = .ok (.aload_n 0, 1) := by decide +kernel
theorem d_Mod_report_51 : decode prog_12_method_27_code 51 = .ok (.getfield 45, 3) := by decide +kernel
theorem d_Mod_report_54 : decode prog_12_method_27_code 54 = .ok (.bipush (8), 2) := by decide +kernel
theorem d_Mod_report_56 : decode prog_12_method_27_code 56 = .ok (.ishl, 1) := by decide +kernel
theorem d_Mod_report_57 : decode prog_12_method_27_code 57 = .ok (.ior, 1) := by decide +kernel
theorem d_Mod_report_58 : decode prog_12_method_27_code 58 = .ok (.aload_n 0, 1) := by decide +kernel
theorem d_Mod_report_59 : decode prog_12_method_27_code 59 = .ok (.getfield 39, 3) := by decide +kernel
theorem d_Mod_report_62 : decode prog_12_method_27_code 62 = .ok (.ior, 1) := by decide +kernel
theorem d_Mod_report_63 : decode prog_12_method_27_code 63 = .ok (.ireturn, 1) := by decide +kernel
theorem d_Mod_send_0 : decode prog_12_method_28_code 0 = .ok (.aload_n 0, 1) := by decide +kernel
theorem d_Mod_send_1 : decode prog_12_method_28_code 1 = .ok (.aload_n 0, 1) := by decide +kernel
theorem d_Mod_send_2 : decode prog_12_method_28_code 2 = .ok (.getfield 20, 3) := by decide +kernel
theorem d_Mod_send_5 : decode prog_12_method_28_code 5 = .ok (.ifCond .eq (7), 3) := by decide +kernel
theorem d_Mod_send_8 : decode prog_12_method_28_code 8 = .ok (.iconst 1, 1) := by decide +kernel
theorem d_Mod_send_9 : decode prog_12_method_28_code 9 = .ok (.goto (29), 3) := by decide +kernel
theorem d_Mod_send_12 : decode prog_12_method_28_code 12 = .ok (.iload_n 1, 1) := by decide +kernel
theorem d_Mod_send_13 : decode prog_12_method_28_code 13 = .ok (.ifCond .lt (8), 3) := by decide +kernel
theorem d_Mod_send_16 : decode prog_12_method_28_code 16 = .ok (.iload_n 1, 1) := by decide +kernel
theorem d_Mod_send_17 : decode prog_12_method_28_code 17 = .ok (.iconst 1, 1) := by decide +kernel
theorem d_Mod_send_18 : decode prog_12_method_28_code 18 = .ok (.if_icmp .le (7), 3) := by decide +kernel
theorem d_Mod_send_21 : decode prog_12_method_28_code 21 = .ok (.iconst 2, 1) := by decide +kernel
theorem d_Mod_send_22 : decode prog_12_method_28_code 22 = .ok (.goto (16), 3) := by decide +kernel
theorem d_Mod_send_25 : decode prog_12_method_28_code 25 = .ok (.aload_n 0, 1) := by decide +kernel
theorem d_Mod_send_26 : decode prog_12_method_28_code 26 = .ok (.iconst 1, 1) := by decide +kernel
theorem d_Mod_send_27 : decode prog_12_method_28_code 27 = .ok (.invokevirtual 125, 3) := by decide +kernel
theorem d_Mod_send_30 : decode prog_12_method_28_code 30 = .ok (.ifCond .ne (7), 3) := by decide +kernel
theorem d_Mod_send_33 : decode prog_12_method_28_code 33 = .ok (.iconst 3, 1) := by decide +kernel
theorem d_Mod_send_34 : decode prog_12_method_28_code 34 = .ok (.goto (4), 3) := by decide +kernel
theorem d_Mod_send_37 : decode prog_12_method_28_code 37 = .ok (.iconst 0, 1) := by decide +kernel
theorem d_Mod_send_38 : decode prog_12_method_28_code 38 = .ok (.putfield 7, 3) := by decide +kernel
theorem d_Mod_send_41 : decode prog_12_method_28_code 41 = .ok (.aload_n 0, 1) := by decide +kernel
theorem d_Mod_send_42 : decode prog_12_method_28_code 42 = .ok (.getfield 7, 3) := by decide +kernel
theorem d_Mod_send_45 : decode prog_12_method_28_code 45 = .ok (.ifCond .eq (5), 3) := by decide +kernel
theorem d_Mod_send_48 : decode prog_12_method_28_code 48 = .ok (.iconst 0, 1) := by decide +kernel
theorem d_Mod_send_49 : decode prog_12_method_28_code 49 = .ok (.ireturn, 1) := by decide +kernel
theorem d_Mod_send_50 : decode prog_12_method_28_code 50 = .ok (.aload_n 0, 1) := by decide +kernel
theorem d_Mod_send_51 : decode prog_12_method_28_code 51 = .ok (.getfield 91, 3) := by decide +kernel
theorem d_Mod_send_54 : decode prog_12_method_28_code 54 = .ok (.iload_n 1, 1) := by decide +kernel
theorem d_Mod_send_55 : decode prog_12_method_28_code 55 = .ok (.iaload, 1) := by decide +kernel
theorem d_Mod_send_56 : decode prog_12_method_28_code 56 = .ok (.istore_n 2, 1) := by decide +kernel
theorem d_Mod_send_57 : decode prog_12_method_28_code 57 = .ok (.aload_n 0, 1) := by decide +kernel
theorem d_Mod_send_58 : decode prog_12_method_28_code 58 = .ok (.getfield 91, 3) := by decide +kernel
theorem d_Mod_send_61 : decode prog_12_method_28_code 61 = .ok (.iload_n 1, 1) := by decide +kernel
theorem d_Mod_send_62 : decode prog_12_method_28_code 62 = .ok (.iload_n 2, 1) := by decide +kernel
theorem d_Mod_send_63 : decode prog_12_method_28_code 63 = .ok (.iconst 1, 1) := by decide +kernel
theorem d_Mod_send_64 : decode prog_12_method_28_code 64 = .ok (.iadd, 1) := by decide +kernel
theorem d_Mod_send_65 : decode prog_12_method_28_code 65 = .ok (.ldc 158, 2) := by decide +kernel
theorem d_Mod_send_67 : decode prog_12_method_28_code 67 = .ok (.iand, 1) := by decide +kernel
theorem d_Mod_send_68 : decode prog_12_method_28_code 68 = .ok (.iastore, 1) := by decide +kernel
theorem d_Mod_send_69 : decode prog_12_method_28_code 69 = .ok (.aload_n 0, 1) := by decide +kernel
theorem d_Mod_send_70 : decode prog_12_method_28_code 70 = .ok (.getfield 85, 3) := by decide +kernel
theorem d_Mod_send_73 : decode prog_12_method_28_code 73 = .ok (.iconst 0, 1) := by decide +kernel
theorem d_Mod_send_74 : decode prog_12_method_28_code 74 = .ok (.sipush (21312), 3) := by decide +kernel
theorem d_Mod_send_77 : decode prog_12_method_28_code 77 = .ok (.iload_n 1, 1) := by decide +kernel
theorem d_Mod_send_78 : decode prog_12_method_28_code 78 = .ok (.iadd, 1) := by decide +kernel
theorem d_Mod_send_79 : decode prog_12_method_28_code 79 = .ok (.bipush (8), 2) := by decide +kernel
theorem d_Mod_send_81 : decode prog_12_method_28_code 81 = .ok (.ishr, 1) := by decide +kernel
theorem d_Mod_send_82 : decode prog_12_method_28_code 82 = .ok (.iastore, 1) := by decide +kernel
theorem d_Mod_send_83 : decode prog_12_method_28_code 83 = .ok (.aload_n 0, 1) := by decide +kernel
theorem d_Mod_send_84 : decode prog_12_method_28_code 84 = .ok (.getfield 85, 3) := by decide +kernel
theorem d_Mod_send_87 : decode prog_12_method_28_code 87 = .ok (.iconst 1, 1) := by decide +kernel
theorem d_Mod_send_88 : decode prog_12_method_28_code 88 = .ok (.sipush (21312), 3) := by decide +kernel
theorem d_Mod_send_91 : decode prog_12_method_28_code 91 = .ok (.iload_n 1, 1) := by decide +kernel
theorem d_Mod_send_92 : decode prog_12_method_28_code 92 = .ok (.iadd, 1) := by decide +kernel
theorem d_Mod_send_93 : decode prog_12_method_28_code 93 = .ok (.sipush (255), 3) := by decide +kernel
theorem d_Mod_send_96 : decode prog_12_method_28_code 96 = .ok (.iand, 1) := by decide +kernel
theorem d_Mod_send_97 : decode prog_12_method_28_code 97 = .ok (.iastore, 1) := by decide +kernel
theorem d_Mod_send_98 : decode prog_12_method_28_code 98 = .ok (.aload_n 0, 1) := by decide +kernel
theorem d_Mod_send_99 : decode prog_12_method_28_code 99 = .ok (.getfield 85, 3) := by decide +kernel
theorem d_Mod_send_102 : decode prog_12_method_28_code 102 = .ok (.iconst 2, 1) := by decide +kernel
theorem d_Mod_send_103 : decode prog_12_method_28_code 103 = .ok (.iload_n 2, 1) := by decide +kernel
theorem d_Mod_send_104 : decode prog_12_method_28_code 104 = .ok (.bipush (16), 2) := by decide +kernel
theorem d_Mod_send_106 : decode prog_12_method_28_code 106 = .ok (.ishr, 1) := by decide +kernel
theorem d_Mod_send_107 : decode prog_12_method_28_code 107 = .ok (.iastore, 1) := by decide +kernel
theorem d_Mod_send_108 : decode prog_12_method_28_code 108 = .ok (.aload_n 0, 1) := by decide +kernel
theorem d_Mod_send_109 : decode prog_12_method_28_code 109 = .ok (.getfield 85, 3) := by decide +kernel
theorem d_Mod_send_112 : decode prog_12_method_28_code 112 = .ok (.iconst 3, 1) := by decide +kernel
theorem d_Mod_send_113 : decode prog_12_method_28_code 113 = .ok (.iload_n 2, 1) := by decide +kernel
theorem d_Mod_send_114 : decode prog_12_method_28_code 114 = .ok (.bipush (8), 2) := by decide +kernel
theorem d_Mod_send_116 : decode prog_12_method_28_code 116 = .ok (.ishr, 1) := by decide +kernel
theorem d_Mod_send_117 : decode prog_12_method_28_code 117 = .ok (.sipush (255), 3) := by decide +kernel
theorem d_Mod_send_120 : decode prog_12_method_28_code 120 = .ok (.iand, 1) := by decide +kernel
theorem d_Mod_send_121 : decode prog_12_method_28_code 121 = .ok (.iastore, 1) := by decide +kernel
theorem d_Mod_send_122 : decode prog_12_method_28_code 122 = .ok (.aload_n 0, 1) := by decide +kernel
theorem d_Mod_send_123 : decode prog_12_method_28_code 123 = .ok (.getfield 85, 3) := by decide +kernel
theorem d_Mod_send_126 : decode prog_12_method_28_code 126 = .ok (.iconst 4, 1) := by decide +kernel
theorem d_Mod_send_127 : decode prog_12_method_28_code 127 = .ok (.iload_n 2, 1) := by decide +kernel
theorem d_Mod_send_128 : decode prog_12_method_28_code 128 = .ok (.sipush (255), 3) := by decide +kernel
theorem d_Mod_send_131 : decode prog_12_method_28_code 131 = .ok (.iand, 1) := by decide +kernel
theorem d_Mod_send_132 : decode prog_12_method_28_code 132 = .ok (.iastore, 1) := by decide +kernel
theorem d_Mod_send_133 : decode prog_12_method_28_code 133 = .ok (.aload_n 0, 1) := by decide +kernel
theorem d_Mod_send_134 : decode prog_12_method_28_code 134 = .ok (.getfield 85, 3) := by decide +kernel
theorem d_Mod_send_137 : decode prog_12_method_28_code 137 = .ok (.iconst 5, 1) := by decide +kernel
theorem d_Mod_send_138 : decode prog_12_method_28_code 138 = .ok (.iconst 0, 1) := by decide +kernel
theorem d_Mod_send_139 : decode prog_12_method_28_code 139 = .ok (.iastore, 1) := by decide +kernel
theorem d_Mod_send_140 : decode prog_12_method_28_code 140 = .ok (.aload_n 0, 1) := by decide +kernel
theorem d_Mod_send_141 : decode prog_12_method_28_code 141 = .ok (.iload_n 1, 1) := by decide +kernel
theorem d_Mod_send_142 : decode prog_12_method_28_code 142 = .ok (.invokevirtual 159, 3) := by decide +kernel
theorem d_Mod_send_145 : decode prog_12_method_28_code 145 = .ok (.aload_n 0, 1) := by decide +kernel
theorem d_Mod_send_146 : decode prog_12_method_28_code 146 = .ok (.invokevirtual 162, 3) := by decide +kernel
theorem d_Mod_send_149 : decode prog_12_method_28_code 149 = .ok (.aload_n 0, 1) := by decide +kernel
theorem d_Mod_send_150 : decode prog_12_method_28_code 150 = .ok (.iconst 1, 1) := by decide +kernel
theorem d_Mod_send_151 : decode prog_12_method_28_code 151 = .ok (.putfield 88, 3) := by decide +kernel
theorem d_Mod_send_154 : decode prog_12_method_28_code 154 = .ok (.iconst 0, 1) := by decide +kernel
theorem d_Mod_send_155 : decode prog_12_method_28_code 155 = .ok (.istore_n 3, 1) := by decide +kernel
theorem d_Mod_send_156 : decode prog_12_method_28_code 156 = .ok (.iload_n 3, 1) := by decide +kernel
theorem d_Mod_send_157 : decode prog_12_method_28_code 157 = .ok (.aload_n 0, 1) := by decide +kernel
theorem d_Mod_send_158 : decode prog_12_method_28_code 158 = .ok (.getfield 58, 3) := by decide +kernel
theorem d_Mod_send_161 : decode prog_12_method_28_code 161 = .ok (.if_icmp .ge (39), 3) := by decide +kernel
theorem d_Mod_send_164 : decode prog_12_method_28_code 164 = .ok (.aload_n 0, 1) := by decide +kernel
theorem d_Mod_send_165 : decode prog_12_method_28_code 165 = .ok (.getfield 20, 3) := by decide +kernel
theorem d_Mod_send_168 : decode prog_12_method_28_code 168 = .ok (.ifCond .ne (32), 3) := by decide +kernel
theorem d_Mod_send_171 : decode prog_12_method_28_code 171 = .ok (.aload_n 0, 1) := by decide +kernel
theorem d_Mod_send_172 : decode prog_12_method_28_code 172 = .ok (.getfield 73, 3) := by decide +kernel
theorem d_Mod_send_175 : decode prog_12_method_28_code 175 = .ok (.iload_n 3, 1) := by decide +kernel
theorem d_Mod_send_176 : decode prog_12_method_28_code 176 = .ok (.iaload, 1) := by decide +kernel
theorem d_Mod_send_177 : decode prog_12_method_28_code 177 = .ok (.aload_n 0, 1) := by decide +kernel
theorem d_Mod_send_178 : decode prog_12_method_28_code 178 = .ok (.getfield 64, 3) := by decide +kernel
theorem d_Mod_send_181 : decode prog_12_method_28_code 181 = .ok (.iload_n 3, 1) := by decide +kernel
theorem d_Mod_send_182 : decode prog_12_method_28_code 182 = .ok (.iaload, 1) := by decide +kernel
theorem d_Mod_send_183 : decode prog_12_method_28_code 183 = .ok (.if_icmp .ne (11), 3) := by decide +kernel
theorem d_Mod_send_186 : decode prog_12_method_28_code 186 = .ok (.aload_n 0, 1) := by decide +kernel
theorem d_Mod_send_187 : decode prog_12_method_28_code 187 = .ok (.iload_n 3, 1) := by decide +kernel
theorem d_Mod_send_188 : decode prog_12_method_28_code 188 = .ok (.invokevirtual 165, 3) := by decide +kernel
theorem d_Mod_send_191 : decode prog_12_method_28_code 191 = .ok (.goto (-35), 3) := by decide +kernel
theorem d_Mod_send_194 : decode prog_12_method_28_code 194 = .ok (.iinc 3 (1), 3) := by decide +kernel
theorem d_Mod_send_197 : decode prog_12_method_28_code 197 = .ok (.goto (-41), 3) := by decide +kernel
theorem d_Mod_send_200 : decode prog_12_method_28_code 200 = .ok (.iload_n 2, 1) := by decide +kernel
theorem d_Mod_send_201 : decode prog_12_method_28_code 201 = .ok (.ireturn, 1) := by decide +kernel
theorem d_Mod_sent_0 : decode prog_12_method_29_code 0 = .ok (.aload_n 0, 1) := by decide +kernel
theorem d_Mod_sent_1 : decode prog_12_method_29_code 1 = .ok (.aload_n 0, 1) := by decide +kernel
theorem d_Mod_sent_2 : decode prog_12_method_29_code 2 = .ok (.getfield 88, 3) := by decide +kernel
theorem d_Mod_sent_5 : decode prog_12_method_29_code 5 = .ok (.ifCond .eq (13), 3) := by decide +kernel
theorem d_Mod_sent_8 : decode prog_12_method_29_code 8 = .ok (.iload_n 1, 1) := by decide +kernel
theorem d_Mod_sent_9 : decode prog_12_method_29_code 9 = .ok (.ifCond .lt (9), 3) := by decide +kernel
theorem d_Mod_sent_12 : decode prog_12_method_29_code 12 = .ok (.iload_n 1, 1) := by decide +kernel
theorem d_Mod_sent_13 : decode prog_12_method_29_code 13 = .ok (.bipush (31), 2) := by decide +kernel
theorem d_Mod_sent_15 : decode prog_12_method_29_code 15 = .ok (.if_icmp .le (7), 3) := by decide +kernel
theorem d_Mod_sent_18 : decode prog_12_method_29_code 18 = .ok (.iconst 1, 1) := by decide +kernel
theorem d_Mod_sent_19 : decode prog_12_method_29_code 19 = .ok (.goto (4), 3) := by decide +kernel
theorem d_Mod_sent_22 : decode prog_12_method_29_code 22 = .ok (.iconst 0, 1) := by decide +kernel
theorem d_Mod_sent_23 : decode prog_12_method_29_code 23 = .ok (.putfield 7, 3) := by decide +kernel
theorem d_Mod_sent_26 : decode prog_12_method_29_code 26 = .ok (.aload_n 0, 1) := by decide +kernel
theorem d_Mod_sent_27 : decode prog_12_method_29_code 27 = .ok (.getfield 7, 3) := by decide +kernel
theorem d_Mod_sent_30 : decode prog_12_method_29_code 30 = .ok (.ifCond .eq (7), 3) := by decide +kernel
theorem d_Mod_sent_33 : decode prog_12_method_29_code 33 = .ok (.iconst 0, 1) := by decide +kernel
theorem d_Mod_sent_34 : decode prog_12_method_29_code 34 = .ok (.goto (9), 3) := by decide +kernel
theorem d_Mod_sent_37 : decode prog_12_method_29_code 37 = .ok (.aload_n 0, 1) := by decide +kernel
theorem d_Mod_sent_38 : decode prog_12_method_29_code 38 = .ok (.getfield 85, 3) := by decide +kernel
theorem d_Mod_sent_41 : decode prog_12_method_29_code 41 = .ok (.iload_n 1, 1) := by decide +kernel
theorem d_Mod_sent_42 : decode prog_12_method_29_code 42 = .ok (.iaload, 1) := by decide +kernel
theorem d_Mod_sent_43 : decode prog_12_method_29_code 43 = .ok (.ireturn, 1) := by decide +kernel
theorem d_Mod_fail_0 : decode prog_12_method_30_code 0 = .ok (.aload_n 0, 1) := by decide +kernel
theorem d_Mod_fail_1 : decode prog_12_method_30_code 1 = .ok (.aload_n 0, 1) := by decide +kernel
theorem d_Mod_fail_2 : decode prog_12_method_30_code 2 = .ok (.getfield 20, 3) := by decide +kernel
theorem d_Mod_fail_5 : decode prog_12_method_30_code 5 = .ok (.ifCond .eq (7), 3) := by decide +kernel
theorem d_Mod_fail_8 : decode prog_12_method_30_code 8 = .ok (.iconst 1, 1) := by decide +kernel
theorem d_Mod_fail_9 : decode prog_12_method_30_code 9 = .ok (.goto (19), 3) := by decide +kernel
theorem d_Mod_fail_12 : decode prog_12_method_30_code 12 = .ok (.iload_n 1, 1) := by decide +kernel
theorem d_Mod_fail_13 : decode prog_12_method_30_code 13 = .ok (.iconst 1, 1) := by decide +kernel
theorem d_Mod_fail_14 : decode prog_12_method_30_code 14 = .ok (.if_icmp .lt (9), 3) := by decide +kernel
theorem d_Mod_fail_17 : decode prog_12_method_30_code 17 = .ok (.iload_n 1, 1) := by decide +kernel
theorem d_Mod_fail_18 : decode prog_12_method_30_code 18 = .ok (.bipush (100), 2) := by decide +kernel
theorem d_Mod_fail_20 : decode prog_12_method_30_code 20 = .ok (.if_icmp .le (7), 3) := by decide +kernel
theorem d_Mod_fail_23 : decode prog_12_method_30_code 23 = .ok (.iconst 2, 1) := by decide +kernel
theorem d_Mod_fail_24 : decode prog_12_method_30_code 24 = .ok (.goto (4), 3) := by decide +kernel
theorem d_Mod_fail_27 : decode prog_12_method_30_code 27 = .ok (.iconst 0, 1) := by decide +kernel
theorem d_Mod_fail_28 : decode prog_12_method_30_code 28 = .ok (.putfield 7, 3) := by decide +kernel
theorem d_Mod_fail_31 : decode prog_12_method_30_code 31 = .ok (.aload_n 0, 1) := by decide +kernel
theorem d_Mod_fail_32 : decode prog_12_method_30_code 32 = .ok (.getfield 7, 3) := by decide +kernel
theorem d_Mod_fail_35 : decode prog_12_method_30_code 35 = .ok (.ifCond .ne (8), 3) := by decide +kernel
theorem d_Mod_fail_38 : decode prog_12_method_30_code 38 = .ok (.aload_n 0, 1) := by decide +kernel
theorem d_Mod_fail_39 : decode prog_12_method_30_code 39 = .ok (.iload_n 1, 1) := by decide +kernel
theorem d_Mod_fail_40 : decode prog_12_method_30_code 40 = .ok (.putfield 24, 3) := by decide +kernel
theorem d_Mod_fail_43 : decode prog_12_method_30_code 43 = .ok (.return_, 1) := by decide +kernel
theorem d_Mod_power_0 : decode prog_12_method_31_code 0 = .ok (.aload_n 0, 1) := by decide +kernel
theorem d_Mod_power_1 : decode prog_12_method_31_code 1 = .ok (.iconst 0, 1) := by decide +kernel
theorem d_Mod_power_2 : decode prog_12_method_31_code 2 = .ok (.putfield 7, 3) := by decide +kernel
theorem d_Mod_power_5 : decode prog_12_method_31_code 5 = .ok (.aload_n 0, 1) := by decide +kernel
theorem d_Mod_power_6 : decode prog_12_method_31_code 6 = .ok (.iconst 0, 1) := by decide +kernel
theorem d_Mod_power_7 : decode prog_12_method_31_code 7 = .ok (.putfield 20, 3) := by decide +kernel
theorem d_Mod_power_10 : decode prog_12_method_31_code 10 = .ok (.aload_n 0, 1) := by decide +kernel
theorem d_Mod_power_11 : decode prog_12_method_31_code 11 = .ok (.iconst 0, 1) := by decide +kernel
theorem d_Mod_power_12 : decode prog_12_method_31_code 12 = .ok (.putfield 24, 3) := by decide +kernel
theorem d_Mod_power_15 : decode prog_12_method_31_code 15 = .ok (.aload_n 0, 1) := by decide +kernel
theorem d_Mod_power_16 : decode prog_12_method_31_code 16 = .ok (.iconst 0, 1) := by decide +kernel
theorem d_Mod_power_17 : decode prog_12_method_31_code 17 = .ok (.putfield 33, 3) := by decide +kernel
theorem d_Mod_power_20 : decode prog_12_method_31_code 20 = .ok (.aload_n 0, 1) := by decide +kernel
theorem d_Mod_power_21 : decode prog_12_method_31_code 21 = .ok (.iconst 0, 1) := by decide +kernel
theorem d_Mod_power_22 : decode prog_12_method_31_code 22 = .ok (.putfield 30, 3) := by decide +kernel
theorem d_Mod_power_25 : decode prog_12_method_31_code 25 = .ok (.iconst 0, 1) := by decide +kernel
theorem d_Mod_power_26 : decode prog_12_method_31_code 26 = .ok (.istore_n 1, 1) := by decide +kernel
theorem d_Mod_power_27 : decode prog_12_method_31_code 27 = .ok (.iload_n 1, 1) := by decide +kernel
theorem d_Mod_power_28 : decode prog_12_method_31_code 28 = .ok (.iconst 4, 1) := by decide +kernel
theorem d_Mod_power_29 : decode prog_12_method_31_code 29 = .ok (.if_icmp .ge (16), 3) := by decide +kernel
theorem d_Mod_power_32 : decode prog_12_method_31_code 32 = .ok (.aload_n 0, 1) := by decide +kernel
theorem d_Mod_power_33 : decode prog_12_method_31_code 33 = .ok (.getfield 48, 3) := by decide +kernel
theorem d_Mod_power_36 : decode prog_12_method_31_code 36 = .ok (.iload_n 1, 1) := by decide +kernel
theorem d_Mod_power_37 : decode prog_12_method_31_code 37 = .ok (.iconst 0, 1) := by decide +kernel
theorem d_Mod_power_38 : decode prog_12_method_31_code 38 = .ok (.bastore, 1) := by decide +kernel
theorem d_Mod_power_39 : decode prog_12_method_31_code 39 = .ok (.iinc 1 (1), 3) := by decide +kernel
theorem d_Mod_power_42 : decode prog_12_method_31_code 42 = .ok (.goto (-15), 3) := by decide +kernel
theorem d_Mod_power_45 : decode prog_12_method_31_code 45 = .ok (.iconst 0, 1) := by decide +kernel
theorem d_Mod_power_46 : decode prog_12_method_31_code 46 = .ok (.istore_n 1, 1) := by decide +kernel
theorem d_Mod_power_47 : decode prog_12_method_31_code 47 = .ok (.iload_n 1, 1) := by decide +kernel
theorem d_Mod_power_48 : decode prog_12_method_31_code 48 = .ok (.aload_n 0, 1) := by decide +kernel
theorem d_Mod_power_49 : decode prog_12_method_31_code 49 = .ok (.getfield 58, 3) := by decide +kernel
theorem d_Mod_power_52 : decode prog_12_method_31_code 52 = .ok (.if_icmp .ge (16), 3) := by decide +kernel
theorem d_Mod_power_55 : decode prog_12_method_31_code 55 = .ok (.aload_n 0, 1) := by decide +kernel
theorem d_Mod_power_56 : decode prog_12_method_31_code 56 = .ok (.getfield 73, 3) := by decide +kernel
theorem d_Mod_power_59 : decode prog_12_method_31_code 59 = .ok (.iload_n 1, 1) := by decide +kernel
theorem d_Mod_power_60 : decode prog_12_method_31_code 60 = .ok (.iconst 0, 1) := by decide +kernel
theorem d_Mod_power_61 : decode prog_12_method_31_code 61 = .ok (.iastore, 1) := by decide +kernel
theorem d_Mod_power_62 : decode prog_12_method_31_code 62 = .ok (.iinc 1 (1), 3) := by decide +kernel
theorem d_Mod_power_65 : decode prog_12_method_31_code 65 = .ok (.goto (-18), 3) := by decide +kernel
theorem d_Mod_power_68 : decode prog_12_method_31_code 68 = .ok (.aload_n 0, 1) := by decide +kernel
theorem d_Mod_power_69 : decode prog_12_method_31_code 69 = .ok (.getfield 58, 3) := by decide +kernel
theorem d_Mod_power_72 : decode prog_12_method_31_code 72 = .ok (.ireturn, 1) := by decide +kernel
theorem d_Mod_out_0 : decode prog_12_method_32_code 0 = .ok (.aload_n 0, 1) := by decide +kernel
theorem d_Mod_out_1 : decode prog_12_method_32_code 1 = .ok (.iconst 0, 1) := by decide +kernel
theorem d_Mod_out_2 : decode prog_12_method_32_code 2 = .ok (.putfield 7, 3) := by decide +kernel
theorem d_Mod_out_5 : decode prog_12_method_32_code 5 = .ok (.aload_n 0, 1) := by decide +kernel
theorem d_Mod_out_6 : decode prog_12_method_32_code 6 = .ok (.getfield 20, 3) := by decide +kernel
theorem d_Mod_out_9 : decode prog_12_method_32_code 9 = .ok (.ireturn, 1) := by decide +kernel
theorem d_Mod_store_0 : decode prog_12_method_33_code 0 = .ok (.aload_n 0, 1) := by decide +kernel
theorem d_Mod_store_1 : decode prog_12_method_33_code 1 = .ok (.iload_n 1, 1) := by decide +kernel
theorem d_Mod_store_2 : decode prog_12_method_33_code 2 = .ok (.ifCond .lt (8), 3) := by decide +kernel
theorem d_Mod_store_5 : decode prog_12_method_33_code 5 = .ok (.iload_n 1, 1) := by decide +kernel
theorem d_Mod_store_6 : decode prog_12_method_33_code 6 = .ok (.iconst 3, 1) := by decide +kernel
theorem d_Mod_store_7 : decode prog_12_method_33_code 7 = .ok (.if_icmp .le (7), 3) := by decide +kernel
theorem d_Mod_store_10 : decode prog_12_method_33_code 10 = .ok (.iconst 1, 1) := by decide +kernel
theorem d_Mod_store_11 : decode prog_12_method_33_code 11 = .ok (.goto (4), 3) := by decide +kernel
theorem d_Mod_store_14 : decode prog_12_method_33_code 14 = .ok (.iconst 0, 1) := by decide +kernel
theorem d_Mod_store_15 : decode prog_12_method_33_code 15 = .ok (.putfield 7, 3) := by decide +kernel
theorem d_Mod_store_18 : decode prog_12_method_33_code 18 = .ok (.aload_n 0, 1) := by decide +kernel
theorem d_Mod_store_19 : decode prog_12_method_33_code 19 = .ok (.getfield 7, 3) := by decide +kernel
theorem d_Mod_store_22 : decode prog_12_method_33_code 22 = .ok (.ifCond .eq (5), 3) := by decide +kernel
theorem d_Mod_store_25 : decode prog_12_method_33_code 25 = .ok (.iconst 0, 1) := by decide +kernel
theorem d_Mod_store_26 : decode prog_12_method_33_code 26 = .ok (.ireturn, 1) := by decide +kernel
theorem d_Mod_store_27 : decode prog_12_method_33_code 27 = .ok (.iload_n 1, 1) := by decide +kernel
theorem d_Mod_store_28 : decode prog_12_method_33_code 28 = .ok (.ifCond .ne (10), 3) := by decide +kernel
theorem d_Mod_store_31 : decode prog_12_method_33_code 31 = .ok (.aload_n 0, 1) := by decide +kernel
theorem d_Mod_store_32 : decode prog_12_method_33_code 32 = .ok (.getfield 58, 3) := by decide +kernel
theorem d_Mod_store_35 : decode prog_12_method_33_code 35 = .ok (.goto (31), 3) := by decide +kernel
theorem d_Mod_store_38 : decode prog_12_method_33_code 38 = .ok (.iload_n 1, 1) := by decide +kernel
theorem d_Mod_store_39 : decode prog_12_method_33_code 39 = .ok (.iconst 1, 1) := by decide +kernel
theorem d_Mod_store_40 : decode prog_12_method_33_code 40 = .ok (.if_icmp .ne (10), 3) := by decide +kernel
theorem d_Mod_store_43 : decode prog_12_method_33_code 43 = .ok (.aload_n 0, 1) := by decide +kernel
theorem d_Mod_store_44 : decode prog_12_method_33_code 44 = .ok (.invokevirtual 113, 3) := by decide +kernel
theorem d_Mod_store_47 : decode prog_12_method_33_code 47 = .ok (.goto (19), 3) := by decide +kernel
theorem d_Mod_store_50 : decode prog_12_method_33_code 50 = .ok (.iload_n 1, 1) := by decide +kernel
theorem d_Mod_store_51 : decode prog_12_method_33_code 51 = .ok (.iconst 2, 1) := by decide +kernel
theorem d_Mod_store_52 : decode prog_12_method_33_code 52 = .ok (.if_icmp .ne (10), 3) := by decide +kernel
theorem d_Mod_store_55 : decode prog_12_method_33_code 55 = .ok (.aload_n 0, 1) := by decide +kernel
theorem d_Mod_store_56 : decode prog_12_method_33_code 56 = .ok (.getfield 79, 3) := by decide +kernel
theorem d_Mod_store_59 : decode prog_12_method_33_code 59 = .ok (.goto (7), 3) := by decide +kernel
theorem d_Mod_store_62 : decode prog_12_method_33_code 62 = .ok (.aload_n 0, 1) := by decide +kernel
theorem d_Mod_store_63 : decode prog_12_method_33_code 63 = .ok (.getfield 82, 3) := by decide +kernel
theorem d_Mod_store_66 : decode prog_12_method_33_code 66 = .ok (.ireturn, 1) := by decide +kernel
theorem d_Mod_packet_0 : decode prog_12_method_34_code 0 = .ok (.aload_n 0, 1) := by decide +kernel
theorem d_Mod_packet_1 : decode prog_12_method_34_code 1 = .ok (.iload_n 1, 1) := by decide +kernel
theorem d_Mod_packet_2 : decode prog_12_method_34_code 2 = .ok (.ifCond .lt (11), 3) := by decide +kernel
theorem d_Mod_packet_5 : decode prog_12_method_34_code 5 = .ok (.iload_n 1, 1) := by decide +kernel
theorem d_Mod_packet_6 : decode prog_12_method_34_code 6 = .ok (.aload_n 0, 1) := by decide +kernel
theorem d_Mod_packet_7 : decode prog_12_method_34_code 7 = .ok (.getfield 58, 3) := by decide +kernel
theorem d_Mod_packet_10 : decode prog_12_method_34_code 10 = .ok (.if_icmp .lt (7), 3) := by decide +kernel
theorem d_Mod_packet_13 : decode prog_12_method_34_code 13 = .ok (.iconst 1, 1) := by decide +kernel
theorem d_Mod_packet_14 : decode prog_12_method_34_code 14 = .ok (.goto (17), 3) := by decide +kernel
theorem d_Mod_packet_17 : decode prog_12_method_34_code 17 = .ok (.iload_n 2, 1) := by decide +kernel
theorem d_Mod_packet_18 : decode prog_12_method_34_code 18 = .ok (.ifCond .lt (8), 3) := by decide +kernel
theorem d_Mod_packet_21 : decode prog_12_method_34_code 21 = .ok (.iload_n 2, 1) := by decide +kernel
theorem d_Mod_packet_22 : decode prog_12_method_34_code 22 = .ok (.iconst 4, 1) := by decide +kernel
theorem d_Mod_packet_23 : decode prog_12_method_34_code 23 = .ok (.if_icmp .le (7), 3) := by decide +kernel
theorem d_Mod_packet_26 : decode prog_12_method_34_code 26 = .ok (.iconst 2, 1) := by decide +kernel
theorem d_Mod_packet_27 : decode prog_12_method_34_code 27 = .ok (.goto (4), 3) := by decide +kernel
theorem d_Mod_packet_30 : decode prog_12_method_34_code 30 = .ok (.iconst 0, 1) := by decide +kernel
theorem d_Mod_packet_31 : decode prog_12_method_34_code 31 = .ok (.putfield 7, 3) := by decide +kernel
theorem d_Mod_packet_34 : decode prog_12_method_34_code 34 = .ok (.aload_n 0, 1) := by decide +kernel
theorem d_Mod_packet_35 : decode prog_12_method_34_code 35 = .ok (.getfield 7, 3) := by decide +kernel
theorem d_Mod_packet_38 : decode prog_12_method_34_code 38 = .ok (.ifCond .eq (5), 3) := by decide +kernel
theorem d_Mod_packet_41 : decode prog_12_method_34_code 41 = .ok (.iconst 0, 1) := by decide +kernel
theorem d_Mod_packet_42 : decode prog_12_method_34_code 42 = .ok (.ireturn, 1) := by decide +kernel
theorem d_Mod_packet_43 : decode prog_12_method_34_code 43 = .ok (.iload_n 2, 1) := by decide +kernel
theorem d_Mod_packet_44 : decode prog_12_method_34_code 44 = .ok (.ifCond .ne (10), 3) := by decide +kernel
theorem d_Mod_packet_47 : decode prog_12_method_34_code 47 = .ok (.aload_n 0, 1) := by decide +kernel
theorem d_Mod_packet_48 : decode prog_12_method_34_code 48 = .ok (.getfield 61, 3) := by decide +kernel
theorem d_Mod_packet_51 : decode prog_12_method_34_code 51 = .ok (.iload_n 1, 1) := by decide +kernel
theorem d_Mod_packet_52 : decode prog_12_method_34_code 52 = .ok (.iaload, 1) := by decide +kernel
theorem d_Mod_packet_53 : decode prog_12_method_34_code 53 = .ok (.ireturn, 1) := by decide +kernel
theorem d_Mod_packet_54 : decode prog_12_method_34_code 54 = .ok (.iload_n 2, 1) := by decide +kernel
theorem d_Mod_packet_55 : decode prog_12_method_34_code 55 = .ok (.iconst 1, 1) := by decide +kernel
theorem d_Mod_packet_56 : decode prog_12_method_34_code 56 = .ok (.if_icmp .ne (10), 3) := by decide +kernel
theorem d_Mod_packet_59 : decode prog_12_method_34_code 59 = .ok (.aload_n 0, 1) := by decide +kernel
theorem d_Mod_packet_60 : decode prog_12_method_34_code 60 = .ok (.getfield 64, 3) := by decide +kernel
theorem d_Mod_packet_63 : decode prog_12_method_34_code 63 = .ok (.iload_n 1, 1) := by decide +kernel
theorem d_Mod_packet_64 : decode prog_12_method_34_code 64 = .ok (.iaload, 1) := by decide +kernel
theorem d_Mod_packet_65 : decode prog_12_method_34_code 65 = .ok (.ireturn, 1) := by decide +kernel
theorem d_Mod_packet_66 : decode prog_12_method_34_code 66 = .ok (.iload_n 2, 1) := by decide +kernel
theorem d_Mod_packet_67 : decode prog_12_method_34_code 67 = .ok (.iconst 2, 1) := by decide +kernel
theorem d_Mod_packet_68 : decode prog_12_method_34_code 68 = .ok (.if_icmp .ne (32), 3) := by decide +kernel
theorem d_Mod_packet_71 : decode prog_12_method_34_code 71 = .ok (.aload_n 0, 1) := by decide +kernel
theorem d_Mod_packet_72 : decode prog_12_method_34_code 72 = .ok (.getfield 67, 3) := by decide +kernel
theorem d_Mod_packet_75 : decode prog_12_method_34_code 75 = .ok (.bipush (60), 2) := by decide +kernel
theorem d_Mod_packet_77 : decode prog_12_method_34_code 77 = .ok (.iload_n 1, 1) := by decide +kernel
theorem d_Mod_packet_78 : decode prog_12_method_34_code 78 = .ok (.imul, 1) := by decide +kernel
theorem d_Mod_packet_79 : decode prog_12_method_34_code 79 = .ok (.iaload, 1) := by decide +kernel
theorem d_Mod_packet_80 : decode prog_12_method_34_code 80 = .ok (.bipush (7), 2) := by decide +kernel
theorem d_Mod_packet_82 : decode prog_12_method_34_code 82 = .ok (.iand, 1) := by decide +kernel
theorem d_Mod_packet_83 : decode prog_12_method_34_code 83 = .ok (.sipush (256), 3) := by decide +kernel
theorem d_Mod_packet_86 : decode prog_12_method_34_code 86 = .ok (.imul, 1) := by decide +kernel
theorem d_Mod_packet_87 : decode prog_12_method_34_code 87 = .ok (.aload_n 0, 1) := by decide +kernel
theorem d_Mod_packet_88 : decode prog_12_method_34_code 88 = .ok (.getfield 67, 3) := by decide +kernel
theorem d_Mod_packet_91 : decode prog_12_method_34_code 91 = .ok (.bipush (60), 2) := by decide +kernel
theorem d_Mod_packet_93 : decode prog_12_method_34_code 93 = .ok (.iload_n 1, 1) := by decide +kernel
theorem d_Mod_packet_94 : decode prog_12_method_34_code 94 = .ok (.imul, 1) := by decide +kernel
theorem d_Mod_packet_95 : decode prog_12_method_34_code 95 = .ok (.iconst 1, 1) := by decide +kernel
theorem d_Mod_packet_96 : decode prog_12_method_34_code 96 = .ok (.iadd, 1) := by decide +kernel
theorem d_Mod_packet_97 : decode prog_12_method_34_code 97 = .ok (.iaload, 1) := by decide +kernel
theorem d_Mod_packet_98 : decode prog_12_method_34_code 98 = .ok (.iadd, 1) := by decide +kernel
theorem d_Mod_packet_99 : decode prog_12_method_34_code 99 = .ok (.ireturn, 1) := by decide +kernel
theorem d_Mod_packet_100 : decode prog_12_method_34_code 100 = .ok (.iload_n 2, 1) := by decide +kernel
theorem d_Mod_packet_101 : decode prog_12_method_34_code 101 = .ok (.iconst 3, 1) := by decide +kernel
theorem d_Mod_packet_102 : decode prog_12_method_34_code 102 = .ok (.if_icmp .ne (14), 3) := by decide +kernel
theorem d_Mod_packet_105 : decode prog_12_method_34_code 105 = .ok (.aload_n 0, 1) := by decide +kernel
theorem d_Mod_packet_106 : decode prog_12_method_34_code 106 = .ok (.getfield 70, 3) := by decide +kernel
theorem d_Mod_packet_109 : decode prog_12_method_34_code 109 = .ok (.iconst 3, 1) := by decide +kernel
theorem d_Mod_packet_110 : decode prog_12_method_34_code 110 = .ok (.iload_n 1, 1) := by decide +kernel
theorem d_Mod_packet_111 : decode prog_12_method_34_code 111 = .ok (.imul, 1) := by decide +kernel
theorem d_Mod_packet_112 : decode prog_12_method_34_code 112 = .ok (.iaload, 1) := by decide +kernel
theorem d_Mod_packet_113 : decode prog_12_method_34_code 113 = .ok (.goto (9), 3) := by decide +kernel
theorem d_Mod_packet_116 : decode prog_12_method_34_code 116 = .ok (.aload_n 0, 1) := by decide +kernel
theorem d_Mod_packet_117 : decode prog_12_method_34_code 117 = .ok (.getfield 73, 3) := by decide +kernel
theorem d_Mod_packet_120 : decode prog_12_method_34_code 120 = .ok (.iload_n 1, 1) := by decide +kernel
theorem d_Mod_packet_121 : decode prog_12_method_34_code 121 = .ok (.iaload, 1) := by decide +kernel
theorem d_Mod_packet_122 : decode prog_12_method_34_code 122 = .ok (.ireturn, 1) := by decide +kernel
theorem d_Mod_content_0 : decode prog_12_method_35_code 0 = .ok (.aload_n 0, 1) := by decide +kernel
theorem d_Mod_content_1 : decode prog_12_method_35_code 1 = .ok (.iload_n 1, 1) := by decide +kernel
theorem d_Mod_content_2 : decode prog_12_method_35_code 2 = .ok (.ifCond .lt (25), 3) := by decide +kernel
theorem d_Mod_content_5 : decode prog_12_method_35_code 5 = .ok (.iload_n 1, 1) := by decide +kernel
theorem d_Mod_content_6 : decode prog_12_method_35_code 6 = .ok (.aload_n 0, 1) := by decide +kernel
theorem d_Mod_content_7 : decode prog_12_method_35_code 7 = .ok (.getfield 58, 3) := by decide +kernel
theorem d_Mod_content_10 : decode prog_12_method_35_code 10 = .ok (.if_icmp .ge (17), 3) := by decide +kernel
theorem d_Mod_content_13 : decode prog_12_method_35_code 13 = .ok (.iload_n 2, 1) := by decide +kernel
theorem d_Mod_content_14 : decode prog_12_method_35_code 14 = .ok (.ifCond .lt (13), 3) := by decide +kernel
theorem d_Mod_content_17 : decode prog_12_method_35_code 17 = .ok (.iload_n 2, 1) := by decide +kernel
theorem d_Mod_content_18 : decode prog_12_method_35_code 18 = .ok (.aload_n 0, 1) := by decide +kernel
theorem d_Mod_content_19 : decode prog_12_method_35_code 19 = .ok (.getfield 64, 3) := by decide +kernel
theorem d_Mod_content_22 : decode prog_12_method_35_code 22 = .ok (.iload_n 1, 1) := by decide +kernel
theorem d_Mod_content_23 : decode prog_12_method_35_code 23 = .ok (.iaload, 1) := by decide +kernel
theorem d_Mod_content_24 : decode prog_12_method_35_code 24 = .ok (.if_icmp .lt (7), 3) := by decide +kernel
theorem d_Mod_content_27 : decode prog_12_method_35_code 27 = .ok (.iconst 1, 1) := by decide +kernel
theorem d_Mod_content_28 : decode prog_12_method_35_code 28 = .ok (.goto (4), 3) := by decide +kernel
theorem d_Mod_content_31 : decode prog_12_method_35_code 31 = .ok (.iconst 0, 1) := by decide +kernel
theorem d_Mod_content_32 : decode prog_12_method_35_code 32 = .ok (.putfield 7, 3) := by decide +kernel
theorem d_Mod_content_35 : decode prog_12_method_35_code 35 = .ok (.aload_n 0, 1) := by decide +kernel
theorem d_Mod_content_36 : decode prog_12_method_35_code 36 = .ok (.getfield 7, 3) := by decide +kernel
theorem d_Mod_content_39 : decode prog_12_method_35_code 39 = .ok (.ifCond .eq (7), 3) := by decide +kernel
theorem d_Mod_content_42 : decode prog_12_method_35_code 42 = .ok (.iconst 0, 1) := by decide +kernel
theorem d_Mod_content_43 : decode prog_12_method_35_code 43 = .ok (.goto (14), 3) := by decide +kernel
theorem d_Mod_content_46 : decode prog_12_method_35_code 46 = .ok (.aload_n 0, 1) := by decide +kernel
theorem d_Mod_content_47 : decode prog_12_method_35_code 47 = .ok (.getfield 67, 3) := by decide +kernel
theorem d_Mod_content_50 : decode prog_12_method_35_code 50 = .ok (.bipush (60), 2) := by decide +kernel
theorem d_Mod_content_52 : decode prog_12_method_35_code 52 = .ok (.iload_n 1, 1) := by decide +kernel
theorem d_Mod_content_53 : decode prog_12_method_35_code 53 = .ok (.imul, 1) := by decide +kernel
theorem d_Mod_content_54 : decode prog_12_method_35_code 54 = .ok (.iload_n 2, 1) := by decide +kernel
theorem d_Mod_content_55 : decode prog_12_method_35_code 55 = .ok (.iadd, 1) := by decide +kernel
theorem d_Mod_content_56 : decode prog_12_method_35_code 56 = .ok (.iaload, 1) := by decide +kernel
theorem d_Mod_content_57 : decode prog_12_method_35_code 57 = .ok (.ireturn, 1) := by decide +kernel
end
section
theorem d_Ear_init_0 : decode prog_2_method_1_code 0 = .ok (.aload_n 0, 1) := by decide +kernel
theorem d_Ear_init_1 : decode prog_2_method_1_code 1 = .ok (.invokespecial 3, 3) := by decide +kernel
theorem d_Ear_init_4 : decode prog_2_method_1_code 4 = .ok (.aload_n 0, 1) := by decide +kernel
theorem d_Ear_init_5 : decode prog_2_method_1_code 5 = .ok (.bipush (32), 2) := by decide +kernel
theorem d_Ear_init_7 : decode prog_2_method_1_code 7 = .ok (.newarray .int, 2) := by decide +kernel
theorem d_Ear_init_9 : decode prog_2_method_1_code 9 = .ok (.putfield 11, 3) := by decide +kernel
theorem d_Ear_init_12 : decode prog_2_method_1_code 12 = .ok (.aload_n 0, 1) := by decide +kernel
theorem d_Ear_init_13 : decode prog_2_method_1_code 13 = .ok (.iconst 2, 1) := by decide +kernel
theorem d_Ear_init_14 : decode prog_2_method_1_code 14 = .ok (.newarray .int, 2) := by decide +kernel
theorem d_Ear_init_16 : decode prog_2_method_1_code 16 = .ok (.putfield 15, 3) := by decide +kernel
theorem d_Ear_init_19 : decode prog_2_method_1_code 19 = .ok (.aload_n 0, 1) := by decide +kernel
theorem d_Ear_init_20 : decode prog_2_method_1_code 20 = .ok (.iconst 0, 1) := by decide +kernel
theorem d_Ear_init_21 : decode prog_2_method_1_code 21 = .ok (.putfield 18, 3) := by decide +kernel
theorem d_Ear_init_24 : decode prog_2_method_1_code 24 = .ok (.return_, 1) := by decide +kernel
theorem d_Ear_hasByte_0 : decode prog_2_method_2_code 0 = .ok (.aload_n 0, 1) := by decide +kernel
theorem d_Ear_hasByte_1 : decode prog_2_method_2_code 1 = .ok (.getfield 18, 3) := by decide +kernel
theorem d_Ear_hasByte_4 : decode prog_2_method_2_code 4 = .ok (.ifCond .eq (17), 3) := by decide +kernel
theorem d_Ear_hasByte_7 : decode prog_2_method_2_code 7 = .ok (.iload_n 1, 1) := by decide +kernel
theorem d_Ear_hasByte_8 : decode prog_2_method_2_code 8 = .ok (.ifCond .lt (13), 3) := by decide +kernel
theorem d_Ear_hasByte_11 : decode prog_2_method_2_code 11 = .ok (.iload_n 1, 1) := by decide +kernel
theorem d_Ear_hasByte_12 : decode prog_2_method_2_code 12 = .ok (.bipush (32), 2) := by decide +kernel
theorem d_Ear_hasByte_14 : decode prog_2_method_2_code 14 = .ok (.if_icmp .ge (7), 3) := by decide +kernel
theorem d_Ear_hasByte_17 : decode prog_2_method_2_code 17 = .ok (.iconst 1, 1) := by decide +kernel
theorem d_Ear_hasByte_18 : decode prog_2_method_2_code 18 = .ok (.goto (4), 3) := by decide +kernel
theorem d_Ear_hasByte_21 : decode prog_2_method_2_code 21 = .ok (.iconst 0, 1) := by decide +kernel
theorem d_Ear_hasByte_22 : decode prog_2_method_2_code 22 = .ok (.ireturn, 1) := by decide +kernel
theorem d_Ear_emit_0 : decode prog_2_method_3_code 0 = .ok (.aload_n 0, 1) := by decide +kernel
theorem d_Ear_emit_1 : decode prog_2_method_3_code 1 = .ok (.getfield 15, 3) := by decide +kernel
theorem d_Ear_emit_4 : decode prog_2_method_3_code 4 = .ok (.iload_n 1, 1) := by decide +kernel
theorem d_Ear_emit_5 : decode prog_2_method_3_code 5 = .ok (.iaload, 1) := by decide +kernel
theorem d_Ear_emit_6 : decode prog_2_method_3_code 6 = .ok (.istore_n 3, 1) := by decide +kernel
theorem d_Ear_emit_7 : decode prog_2_method_3_code 7 = .ok (.aload_n 0, 1) := by decide +kernel
theorem d_Ear_emit_8 : decode prog_2_method_3_code 8 = .ok (.getfield 15, 3) := by decide +kernel
theorem d_Ear_emit_11 : decode prog_2_method_3_code 11 = .ok (.iload_n 1, 1) := by decide +kernel
theorem d_Ear_emit_12 : decode prog_2_method_3_code 12 = .ok (.dup2, 1) := by decide +kernel
theorem d_Ear_emit_13 : decode prog_2_method_3_code 13 = .ok (.iaload, 1) := by decide +kernel
theorem d_Ear_emit_14 : decode prog_2_method_3_code 14 = .ok (.iconst 1, 1) := by decide +kernel
theorem d_Ear_emit_15 : decode prog_2_method_3_code 15 = .ok (.iadd, 1) := by decide +kernel
theorem d_Ear_emit_16 : decode prog_2_method_3_code 16 = .ok (.iastore, 1) := by decide +kernel
theorem d_Ear_emit_17 : decode prog_2_method_3_code 17 = .ok (.aload_n 0, 1) := by decide +kernel
theorem d_Ear_emit_18 : decode prog_2_method_3_code 18 = .ok (.iconst 1, 1) := by decide +kernel
theorem d_Ear_emit_19 : decode prog_2_method_3_code 19 = .ok (.putfield 18, 3) := by decide +kernel
theorem d_Ear_emit_22 : decode prog_2_method_3_code 22 = .ok (.aload_n 0, 1) := by decide +kernel
theorem d_Ear_emit_23 : decode prog_2_method_3_code 23 = .ok (.sipush (21312), 3) := by decide +kernel
theorem d_Ear_emit_26 : decode prog_2_method_3_code 26 = .ok (.iload_n 1, 1) := by decide +kernel
theorem d_Ear_emit_27 : decode prog_2_method_3_code 27 = .ok (.iadd, 1) := by decide +kernel
theorem d_Ear_emit_28 : decode prog_2_method_3_code 28 = .ok (.iconst 0, 1) := by decide +kernel
theorem d_Ear_emit_29 : decode prog_2_method_3_code 29 = .ok (.iconst 2, 1) := by decide +kernel
theorem d_Ear_emit_30 : decode prog_2_method_3_code 30 = .ok (.invokevirtual 22, 3) := by decide +kernel
theorem d_Ear_emit_33 : decode prog_2_method_3_code 33 = .ok (.aload_n 0, 1) := by decide +kernel
theorem d_Ear_emit_34 : decode prog_2_method_3_code 34 = .ok (.iload_n 3, 1) := by decide +kernel
theorem d_Ear_emit_35 : decode prog_2_method_3_code 35 = .ok (.iconst 2, 1) := by decide +kernel
theorem d_Ear_emit_36 : decode prog_2_method_3_code 36 = .ok (.iconst 3, 1) := by decide +kernel
theorem d_Ear_emit_37 : decode prog_2_method_3_code 37 = .ok (.invokevirtual 22, 3) := by decide +kernel
theorem d_Ear_emit_40 : decode prog_2_method_3_code 40 = .ok (.aload_n 0, 1) := by decide +kernel
theorem d_Ear_emit_41 : decode prog_2_method_3_code 41 = .ok (.iconst 0, 1) := by decide +kernel
theorem d_Ear_emit_42 : decode prog_2_method_3_code 42 = .ok (.iconst 5, 1) := by decide +kernel
theorem d_Ear_emit_43 : decode prog_2_method_3_code 43 = .ok (.iconst 1, 1) := by decide +kernel
theorem d_Ear_emit_44 : decode prog_2_method_3_code 44 = .ok (.invokevirtual 22, 3) := by decide +kernel
theorem d_Ear_emit_47 : decode prog_2_method_3_code 47 = .ok (.aload_n 0, 1) := by decide +kernel
theorem d_Ear_emit_48 : decode prog_2_method_3_code 48 = .ok (.aload_n 0, 1) := by decide +kernel
theorem d_Ear_emit_49 : decode prog_2_method_3_code 49 = .ok (.iload_n 1, 1) := by decide +kernel
theorem d_Ear_emit_50 : decode prog_2_method_3_code 50 = .ok (.aload_n 2, 1) := by decide +kernel
theorem d_Ear_emit_51 : decode prog_2_method_3_code 51 = .ok (.invokevirtual 26, 3) := by decide +kernel
theorem d_Ear_emit_54 : decode prog_2_method_3_code 54 = .ok (.bipush (6), 2) := by decide +kernel
theorem d_Ear_emit_56 : decode prog_2_method_3_code 56 = .ok (.iconst 2, 1) := by decide +kernel
theorem d_Ear_emit_57 : decode prog_2_method_3_code 57 = .ok (.invokevirtual 22, 3) := by decide +kernel
theorem d_Ear_emit_60 : decode prog_2_method_3_code 60 = .ok (.aload_n 0, 1) := by decide +kernel
theorem d_Ear_emit_61 : decode prog_2_method_3_code 61 = .ok (.aload_n 0, 1) := by decide +kernel
theorem d_Ear_emit_62 : decode prog_2_method_3_code 62 = .ok (.getfield 11, 3) := by decide +kernel
theorem d_Ear_emit_65 : decode prog_2_method_3_code 65 = .ok (.iconst 0, 1) := by decide +kernel
theorem d_Ear_emit_66 : decode prog_2_method_3_code 66 = .ok (.bipush (30), 2) := by decide +kernel
theorem d_Ear_emit_68 : decode prog_2_method_3_code 68 = .ok (.bipush (16), 2) := by decide +kernel
theorem d_Ear_emit_70 : decode prog_2_method_3_code 70 = .ok (.ldc 30, 2) := by decide +kernel
theorem d_Ear_emit_72 : decode prog_2_method_3_code 72 = .ok (.sipush (4129), 3) := by decide +kernel
theorem d_Ear_emit_75 : decode prog_2_method_3_code 75 = .ok (.invokestatic 31, 3) := by decide +kernel
theorem d_Ear_emit_78 : decode prog_2_method_3_code 78 = .ok (.bipush (30), 2) := by decide +kernel
theorem d_Ear_emit_80 : decode prog_2_method_3_code 80 = .ok (.iconst 2, 1) := by decide +kernel
theorem d_Ear_emit_81 : decode prog_2_method_3_code 81 = .ok (.invokevirtual 22, 3) := by decide +kernel
theorem d_Ear_emit_84 : decode prog_2_method_3_code 84 = .ok (.aload_n 2, 1) := by decide +kernel
theorem d_Ear_emit_85 : decode prog_2_method_3_code 85 = .ok (.invokevirtual 35, 3) := by decide +kernel
theorem d_Ear_emit_88 : decode prog_2_method_3_code 88 = .ok (.iload_n 3, 1) := by decide +kernel
theorem d_Ear_emit_89 : decode prog_2_method_3_code 89 = .ok (.ireturn, 1) := by decide +kernel
theorem d_Ear_putNumber_0 : decode prog_2_method_4_code 0 = .ok (.iconst 0, 1) := by decide +kernel
theorem d_Ear_putNumber_1 : decode prog_2_method_4_code 1 = .ok (.istore 4, 2) := by decide +kernel
theorem d_Ear_putNumber_3 : decode prog_2_method_4_code 3 = .ok (.iload 4, 2) := by decide +kernel
theorem d_Ear_putNumber_5 : decode prog_2_method_4_code 5 = .ok (.iload_n 3, 1) := by decide +kernel
theorem d_Ear_putNumber_6 : decode prog_2_method_4_code 6 = .ok (.if_icmp .ge (33), 3) := by decide +kernel
theorem d_Ear_putNumber_9 : decode prog_2_method_4_code 9 = .ok (.aload_n 0, 1) := by decide +kernel
theorem d_Ear_putNumber_10 : decode prog_2_method_4_code 10 = .ok (.getfield 11, 3) := by decide +kernel
theorem d_Ear_putNumber_13 : decode prog_2_method_4_code 13 = .ok (.iload_n 2, 1) := by decide +kernel
theorem d_Ear_putNumber_14 : decode prog_2_method_4_code 14 = .ok (.iload 4, 2) := by decide +kernel
theorem d_Ear_putNumber_16 : decode prog_2_method_4_code 16 = .ok (.iadd, 1) := by decide +kernel
theorem d_Ear_putNumber_17 : decode prog_2_method_4_code 17 = .ok (.iload_n 1, 1) := by decide +kernel
theorem d_Ear_putNumber_18 : decode prog_2_method_4_code 18 = .ok (.bipush (8), 2) := by decide +kernel
theorem d_Ear_putNumber_20 : decode prog_2_method_4_code 20 = .ok (.iload_n 3, 1) := by decide +kernel
theorem d_Ear_putNumber_21 : decode prog_2_method_4_code 21 = .ok (.iconst 1, 1) := by decide +kernel
theorem d_Ear_putNumber_22 : decode prog_2_method_4_code 22 = .ok (.isub, 1) := by decide +kernel
theorem d_Ear_putNumber_23 : decode prog_2_method_4_code 23 = .ok (.iload 4, 2) := by decide +kernel
theorem d_Ear_putNumber_25 : decode prog_2_method_4_code 25 = .ok (.isub, 1) := by decide +kernel
theorem d_Ear_putNumber_26 : decode prog_2_method_4_code 26 = .ok (.imul, 1) := by decide +kernel
theorem d_Ear_putNumber_27 : decode prog_2_method_4_code 27 = .ok (.iushr, 1) := by decide +kernel
theorem d_Ear_putNumber_28 : decode prog_2_method_4_code 28 = .ok (.sipush (255), 3) := by decide +kernel
theorem d_Ear_putNumber_31 : decode prog_2_method_4_code 31 = .ok (.iand, 1) := by decide +kernel
theorem d_Ear_putNumber_32 : decode prog_2_method_4_code 32 = .ok (.iastore, 1) := by decide +kernel
theorem d_Ear_putNumber_33 : decode prog_2_method_4_code 33 = .ok (.iinc 4 (1), 3) := by decide +kernel
theorem d_Ear_putNumber_36 : decode prog_2_method_4_code 36 = .ok (.goto (-33), 3) := by decide +kernel
theorem d_Ear_putNumber_39 : decode prog_2_method_4_code 39 = .ok (.return_, 1) := by decide +kernel
theorem d_Ear_fillZone_0 : decode prog_2_method_5_code 0 = .ok (.aload_n 0, 1) := by decide +kernel
theorem d_Ear_fillZone_1 : decode prog_2_method_5_code 1 = .ok (.getfield 11, 3) := by decide +kernel
theorem d_Ear_fillZone_4 : decode prog_2_method_5_code 4 = .ok (.bipush (8), 2) := by decide +kernel
theorem d_Ear_fillZone_6 : decode prog_2_method_5_code 6 = .ok (.bipush (30), 2) := by decide +kernel
theorem d_Ear_fillZone_8 : decode prog_2_method_5_code 8 = .ok (.bipush (85), 2) := by decide +kernel
theorem d_Ear_fillZone_10 : decode prog_2_method_5_code 10 = .ok (.invokestatic 40, 3) := by decide +kernel
theorem d_Ear_fillZone_13 : decode prog_2_method_5_code 13 = .ok (.sipush (2046), 3) := by decide +kernel
theorem d_Ear_fillZone_16 : decode prog_2_method_5_code 16 = .ok (.istore_n 3, 1) := by decide +kernel
theorem d_Ear_fillZone_17 : decode prog_2_method_5_code 17 = .ok (.bipush (8), 2) := by decide +kernel
theorem d_Ear_fillZone_19 : decode prog_2_method_5_code 19 = .ok (.istore 4, 2) := by decide +kernel
theorem d_Ear_fillZone_21 : decode prog_2_method_5_code 21 = .ok (.iconst 0, 1) := by decide +kernel
theorem d_Ear_fillZone_22 : decode prog_2_method_5_code 22 = .ok (.istore 5, 2) := by decide +kernel
theorem d_Ear_fillZone_24 : decode prog_2_method_5_code 24 = .ok (.iload 5, 2) := by decide +kernel
theorem d_Ear_fillZone_26 : decode prog_2_method_5_code 26 = .ok (.aload_n 2, 1) := by decide +kernel
theorem d_Ear_fillZone_27 : decode prog_2_method_5_code 27 = .ok (.getfield 46, 3) := by decide +kernel
theorem d_Ear_fillZone_30 : decode prog_2_method_5_code 30 = .ok (.if_icmp .ge (59), 3) := by decide +kernel
theorem d_Ear_fillZone_33 : decode prog_2_method_5_code 33 = .ok (.iload 4, 2) := by decide +kernel
theorem d_Ear_fillZone_35 : decode prog_2_method_5_code 35 = .ok (.bipush (30), 2) := by decide +kernel
theorem d_Ear_fillZone_37 : decode prog_2_method_5_code 37 = .ok (.if_icmp .ge (52), 3) := by decide +kernel
theorem d_Ear_fillZone_40 : decode prog_2_method_5_code 40 = .ok (.aload_n 2, 1) := by decide +kernel
theorem d_Ear_fillZone_41 : decode prog_2_method_5_code 41 = .ok (.getfield 50, 3) := by decide +kernel
theorem d_Ear_fillZone_44 : decode prog_2_method_5_code 44 = .ok (.iload 5, 2) := by decide +kernel
theorem d_Ear_fillZone_46 : decode prog_2_method_5_code 46 = .ok (.aaload, 1) := by decide +kernel
theorem d_Ear_fillZone_47 : decode prog_2_method_5_code 47 = .ok (.astore 6, 2) := by decide +kernel
theorem d_Ear_fillZone_49 : decode prog_2_method_5_code 49 = .ok (.aload 6, 2) := by decide +kernel
theorem d_Ear_fillZone_51 : decode prog_2_method_5_code 51 = .ok (.getfield 54, 3) := by decide +kernel
theorem d_Ear_fillZone_54 : decode prog_2_method_5_code 54 = .ok (.iconst 2, 1) := by decide +kernel
theorem d_Ear_fillZone_55 : decode prog_2_method_5_code 55 = .ok (.irem, 1) := by decide +kernel
theorem d_Ear_fillZone_56 : decode prog_2_method_5_code 56 = .ok (.iload_n 1, 1) := by decide +kernel
theorem d_Ear_fillZone_57 : decode prog_2_method_5_code 57 = .ok (.if_icmp .ne (26), 3) := by decide +kernel
theorem d_Ear_fillZone_60 : decode prog_2_method_5_code 60 = .ok (.aload 6, 2) := by decide +kernel
theorem d_Ear_fillZone_62 : decode prog_2_method_5_code 62 = .ok (.iload 4, 2) := by decide +kernel
theorem d_Ear_fillZone_64 : decode prog_2_method_5_code 64 = .ok (.bipush (8), 2) := by decide +kernel
theorem d_Ear_fillZone_66 : decode prog_2_method_5_code 66 = .ok (.isub, 1) := by decide +kernel
theorem d_Ear_fillZone_67 : decode prog_2_method_5_code 67 = .ok (.iload_n 3, 1) := by decide +kernel
theorem d_Ear_fillZone_68 : decode prog_2_method_5_code 68 = .ok (.invokestatic 59, 3) := by decide +kernel
theorem d_Ear_fillZone_71 : decode prog_2_method_5_code 71 = .ok (.istore_n 3, 1) := by decide +kernel
theorem d_Ear_fillZone_72 : decode prog_2_method_5_code 72 = .ok (.aload_n 0, 1) := by decide +kernel
theorem d_Ear_fillZone_73 : decode prog_2_method_5_code 73 = .ok (.aload 6, 2) := by decide +kernel
theorem d_Ear_fillZone_75 : decode prog_2_method_5_code 75 = .ok (.iload 4, 2) := by decide +kernel
theorem d_Ear_fillZone_77 : decode prog_2_method_5_code 77 = .ok (.aload_n 2, 1) := by decide +kernel
theorem d_Ear_fillZone_78 : decode prog_2_method_5_code 78 = .ok (.invokevirtual 63, 3) := by decide +kernel
theorem d_Ear_fillZone_81 : decode prog_2_method_5_code 81 = .ok (.istore 4, 2) := by decide +kernel
theorem d_Ear_fillZone_83 : decode prog_2_method_5_code 83 = .ok (.iinc 5 (1), 3) := by decide +kernel
theorem d_Ear_fillZone_86 : decode prog_2_method_5_code 86 = .ok (.goto (-62), 3) := by decide +kernel
theorem d_Ear_fillZone_89 : decode prog_2_method_5_code 89 = .ok (.iload_n 3, 1) := by decide +kernel
theorem d_Ear_fillZone_90 : decode prog_2_method_5_code 90 = .ok (.ireturn, 1) := by decide +kernel
theorem d_Ear_pointerWith_0 : decode prog_2_method_6_code 0 = .ok (.iload_n 2, 1) := by decide +kernel
theorem d_Ear_pointerWith_1 : decode prog_2_method_6_code 1 = .ok (.sipush (2046), 3) := by decide +kernel
theorem d_Ear_pointerWith_4 : decode prog_2_method_6_code 4 = .ok (.if_icmp .eq (10), 3) := by decide +kernel
theorem d_Ear_pointerWith_7 : decode prog_2_method_6_code 7 = .ok (.iload_n 2, 1) := by decide +kernel
theorem d_Ear_pointerWith_8 : decode prog_2_method_6_code 8 = .ok (.sipush (2047), 3) := by decide +kernel
theorem d_Ear_pointerWith_11 : decode prog_2_method_6_code 11 = .ok (.if_icmp .ne (7), 3) := by decide +kernel
theorem d_Ear_pointerWith_14 : decode prog_2_method_6_code 14 = .ok (.iconst 1, 1) := by decide +kernel
theorem d_Ear_pointerWith_15 : decode prog_2_method_6_code 15 = .ok (.goto (4), 3) := by decide +kernel
theorem d_Ear_pointerWith_18 : decode prog_2_method_6_code 18 = .ok (.iconst 0, 1) := by decide +kernel
theorem d_Ear_pointerWith_19 : decode prog_2_method_6_code 19 = .ok (.istore_n 3, 1) := by decide +kernel
theorem d_Ear_pointerWith_20 : decode prog_2_method_6_code 20 = .ok (.aload_n 0, 1) := by decide +kernel
theorem d_Ear_pointerWith_21 : decode prog_2_method_6_code 21 = .ok (.getfield 67, 3) := by decide +kernel
theorem d_Ear_pointerWith_24 : decode prog_2_method_6_code 24 = .ok (.ifCond .ne (13), 3) := by decide +kernel
theorem d_Ear_pointerWith_27 : decode prog_2_method_6_code 27 = .ok (.iload_n 3, 1) := by decide +kernel
theorem d_Ear_pointerWith_28 : decode prog_2_method_6_code 28 = .ok (.ifCond .eq (7), 3) := by decide +kernel
theorem d_Ear_pointerWith_31 : decode prog_2_method_6_code 31 = .ok (.iload_n 1, 1) := by decide +kernel
theorem d_Ear_pointerWith_32 : decode prog_2_method_6_code 32 = .ok (.goto (4), 3) := by decide +kernel
theorem d_Ear_pointerWith_35 : decode prog_2_method_6_code 35 = .ok (.iload_n 2, 1) := by decide +kernel
theorem d_Ear_pointerWith_36 : decode prog_2_method_6_code 36 = .ok (.ireturn, 1) := by decide +kernel
theorem d_Ear_pointerWith_37 : decode prog_2_method_6_code 37 = .ok (.iload_n 3, 1) := by decide +kernel
theorem d_Ear_pointerWith_38 : decode prog_2_method_6_code 38 = .ok (.ifCond .eq (9), 3) := by decide +kernel
theorem d_Ear_pointerWith_41 : decode prog_2_method_6_code 41 = .ok (.sipush (2047), 3) := by decide +kernel
theorem d_Ear_pointerWith_44 : decode prog_2_method_6_code 44 = .ok (.goto (4), 3) := by decide +kernel
theorem d_Ear_pointerWith_47 : decode prog_2_method_6_code 47 = .ok (.iload_n 2, 1) := by decide +kernel
theorem d_Ear_pointerWith_48 : decode prog_2_method_6_code 48 = .ok (.ireturn, 1) := by decide +kernel
theorem d_Ear_emitPart_0 : decode prog_2_method_7_code 0 = .ok (.iload_n 2, 1) := by decide +kernel
theorem d_Ear_emitPart_1 : decode prog_2_method_7_code 1 = .ok (.istore 4, 2) := by decide +kernel
theorem d_Ear_emitPart_3 : decode prog_2_method_7_code 3 = .ok (.iload 4, 2) := by decide +kernel
theorem d_Ear_emitPart_5 : decode prog_2_method_7_code 5 = .ok (.bipush (30), 2) := by decide +kernel
theorem d_Ear_emitPart_7 : decode prog_2_method_7_code 7 = .ok (.if_icmp .ge (46), 3) := by decide +kernel
theorem d_Ear_emitPart_10 : decode prog_2_method_7_code 10 = .ok (.aload_n 1, 1) := by decide +kernel
theorem d_Ear_emitPart_11 : decode prog_2_method_7_code 11 = .ok (.getfield 67, 3) := by decide +kernel
theorem d_Ear_emitPart_14 : decode prog_2_method_7_code 14 = .ok (.aload_n 1, 1) := by decide +kernel
theorem d_Ear_emitPart_15 : decode prog_2_method_7_code 15 = .ok (.getfield 70, 3) := by decide +kernel
theorem d_Ear_emitPart_18 : decode prog_2_method_7_code 18 = .ok (.if_icmp .ge (35), 3) := by decide +kernel
theorem d_Ear_emitPart_21 : decode prog_2_method_7_code 21 = .ok (.aload_n 0, 1) := by decide +kernel
theorem d_Ear_emitPart_22 : decode prog_2_method_7_code 22 = .ok (.getfield 11, 3) := by decide +kernel
theorem d_Ear_emitPart_25 : decode prog_2_method_7_code 25 = .ok (.iload 4, 2) := by decide +kernel
theorem d_Ear_emitPart_27 : decode prog_2_method_7_code 27 = .ok (.aload_n 3, 1) := by decide +kernel
theorem d_Ear_emitPart_28 : decode prog_2_method_7_code 28 = .ok (.aload_n 1, 1) := by decide +kernel
theorem d_Ear_emitPart_29 : decode prog_2_method_7_code 29 = .ok (.aload_n 1, 1) := by decide +kernel
theorem d_Ear_emitPart_30 : decode prog_2_method_7_code 30 = .ok (.getfield 67, 3) := by decide +kernel
theorem d_Ear_emitPart_33 : decode prog_2_method_7_code 33 = .ok (.invokevirtual 73, 3) := by decide +kernel
theorem d_Ear_emitPart_36 : decode prog_2_method_7_code 36 = .ok (.iastore, 1) := by decide +kernel
theorem d_Ear_emitPart_37 : decode prog_2_method_7_code 37 = .ok (.aload_n 1, 1) := by decide +kernel
theorem d_Ear_emitPart_38 : decode prog_2_method_7_code 38 = .ok (.dup, 1) := by decide +kernel
theorem d_Ear_emitPart_39 : decode prog_2_method_7_code 39 = .ok (.getfield 67, 3) := by decide +kernel
theorem d_Ear_emitPart_42 : decode prog_2_method_7_code 42 = .ok (.iconst 1, 1) := by decide +kernel
theorem d_Ear_emitPart_43 : decode prog_2_method_7_code 43 = .ok (.iadd, 1) := by decide +kernel
theorem d_Ear_emitPart_44 : decode prog_2_method_7_code 44 = .ok (.putfield 67, 3) := by decide +kernel
theorem d_Ear_emitPart_47 : decode prog_2_method_7_code 47 = .ok (.iinc 4 (1), 3) := by decide +kernel
theorem d_Ear_emitPart_50 : decode prog_2_method_7_code 50 = .ok (.goto (-47), 3) := by decide +kernel
theorem d_Ear_emitPart_53 : decode prog_2_method_7_code 53 = .ok (.iload 4, 2) := by decide +kernel
theorem d_Ear_emitPart_55 : decode prog_2_method_7_code 55 = .ok (.ireturn, 1) := by decide +kernel
end
section
theorem d_Frm_init_0 : decode prog_3_method_1_code 0 = .ok (.aload_n 0, 1) := by decide +kernel
theorem d_Frm_init_1 : decode prog_3_method_1_code 1 = .ok (.invokespecial 1, 3) := by decide +kernel
theorem d_Frm_init_4 : decode prog_3_method_1_code 4 = .ok (.aload_n 0, 1) := by decide +kernel
theorem d_Frm_init_5 : decode prog_3_method_1_code 5 = .ok (.bipush (64), 2) := by decide +kernel
theorem d_Frm_init_7 : decode prog_3_method_1_code 7 = .ok (.newarray .int, 2) := by decide +kernel
theorem d_Frm_init_9 : decode prog_3_method_1_code 9 = .ok (.putfield 9, 3) := by decide +kernel
theorem d_Frm_init_12 : decode prog_3_method_1_code 12 = .ok (.aload_n 0, 1) := by decide +kernel
theorem d_Frm_init_13 : decode prog_3_method_1_code 13 = .ok (.iconst 5, 1) := by decide +kernel
theorem d_Frm_init_14 : decode prog_3_method_1_code 14 = .ok (.putfield 13, 3) := by decide +kernel
theorem d_Frm_init_17 : decode prog_3_method_1_code 17 = .ok (.return_, 1) := by decide +kernel
theorem d_Frm_copy_0 : decode prog_3_method_2_code 0 = .ok (.aload_n 0, 1) := by decide +kernel
theorem d_Frm_copy_1 : decode prog_3_method_2_code 1 = .ok (.iconst 5, 1) := by decide +kernel
theorem d_Frm_copy_2 : decode prog_3_method_2_code 2 = .ok (.bipush (64), 2) := by decide +kernel
theorem d_Frm_copy_4 : decode prog_3_method_2_code 4 = .ok (.iload_n 3, 1) := by decide +kernel
theorem d_Frm_copy_5 : decode prog_3_method_2_code 5 = .ok (.invokestatic 17, 3) := by decide +kernel
theorem d_Frm_copy_8 : decode prog_3_method_2_code 8 = .ok (.invokestatic 23, 3) := by decide +kernel
theorem d_Frm_copy_11 : decode prog_3_method_2_code 11 = .ok (.putfield 13, 3) := by decide +kernel
theorem d_Frm_copy_14 : decode prog_3_method_2_code 14 = .ok (.aload_n 1, 1) := by decide +kernel
theorem d_Frm_copy_15 : decode prog_3_method_2_code 15 = .ok (.iload_n 2, 1) := by decide +kernel
theorem d_Frm_copy_16 : decode prog_3_method_2_code 16 = .ok (.aload_n 0, 1) := by decide +kernel
theorem d_Frm_copy_17 : decode prog_3_method_2_code 17 = .ok (.getfield 9, 3) := by decide +kernel
theorem d_Frm_copy_20 : decode prog_3_method_2_code 20 = .ok (.iconst 0, 1) := by decide +kernel
theorem d_Frm_copy_21 : decode prog_3_method_2_code 21 = .ok (.aload_n 0, 1) := by decide +kernel
theorem d_Frm_copy_22 : decode prog_3_method_2_code 22 = .ok (.getfield 13, 3) := by decide +kernel
theorem d_Frm_copy_25 : decode prog_3_method_2_code 25 = .ok (.invokestatic 26, 3) := by decide +kernel
theorem d_Frm_copy_28 : decode prog_3_method_2_code 28 = .ok (.return_, 1) := by decide +kernel
theorem d_Frm_isExpedited_0 : decode prog_3_method_3_code 0 = .ok (.aload_n 0, 1) := by decide +kernel
theorem d_Frm_isExpedited_1 : decode prog_3_method_3_code 1 = .ok (.getfield 9, 3) := by decide +kernel
theorem d_Frm_isExpedited_4 : decode prog_3_method_3_code 4 = .ok (.iconst 0, 1) := by decide +kernel
theorem d_Frm_isExpedited_5 : decode prog_3_method_3_code 5 = .ok (.iaload, 1) := by decide +kernel
theorem d_Frm_isExpedited_6 : decode prog_3_method_3_code 6 = .ok (.bipush (32), 2) := by decide +kernel
theorem d_Frm_isExpedited_8 : decode prog_3_method_3_code 8 = .ok (.iand, 1) := by decide +kernel
theorem d_Frm_isExpedited_9 : decode prog_3_method_3_code 9 = .ok (.ifCond .eq (7), 3) := by decide +kernel
theorem d_Frm_isExpedited_12 : decode prog_3_method_3_code 12 = .ok (.iconst 1, 1) := by decide +kernel
theorem d_Frm_isExpedited_13 : decode prog_3_method_3_code 13 = .ok (.goto (4), 3) := by decide +kernel
theorem d_Frm_isExpedited_16 : decode prog_3_method_3_code 16 = .ok (.iconst 0, 1) := by decide +kernel
theorem d_Frm_isExpedited_17 : decode prog_3_method_3_code 17 = .ok (.ireturn, 1) := by decide +kernel
theorem d_Frm_isDirective_0 : decode prog_3_method_4_code 0 = .ok (.aload_n 0, 1) := by decide +kernel
theorem d_Frm_isDirective_1 : decode prog_3_method_4_code 1 = .ok (.getfield 9, 3) := by decide +kernel
theorem d_Frm_isDirective_4 : decode prog_3_method_4_code 4 = .ok (.iconst 0, 1) := by decide +kernel
theorem d_Frm_isDirective_5 : decode prog_3_method_4_code 5 = .ok (.iaload, 1) := by decide +kernel
theorem d_Frm_isDirective_6 : decode prog_3_method_4_code 6 = .ok (.bipush (16), 2) := by decide +kernel
theorem d_Frm_isDirective_8 : decode prog_3_method_4_code 8 = .ok (.iand, 1) := by decide +kernel
theorem d_Frm_isDirective_9 : decode prog_3_method_4_code 9 = .ok (.ifCond .eq (7), 3) := by decide +kernel
theorem d_Frm_isDirective_12 : decode prog_3_method_4_code 12 = .ok (.iconst 1, 1) := by decide +kernel
theorem d_Frm_isDirective_13 : decode prog_3_method_4_code 13 = .ok (.goto (4), 3) := by decide +kernel
theorem d_Frm_isDirective_16 : decode prog_3_method_4_code 16 = .ok (.iconst 0, 1) := by decide +kernel
theorem d_Frm_isDirective_17 : decode prog_3_method_4_code 17 = .ok (.ireturn, 1) := by decide +kernel
theorem d_Frm_form_0 : decode prog_3_method_5_code 0 = .ok (.aload_n 0, 1) := by decide +kernel
theorem d_Frm_form_1 : decode prog_3_method_5_code 1 = .ok (.getfield 9, 3) := by decide +kernel
theorem d_Frm_form_4 : decode prog_3_method_5_code 4 = .ok (.iconst 0, 1) := by decide +kernel
theorem d_Frm_form_5 : decode prog_3_method_5_code 5 = .ok (.iaload, 1) := by decide +kernel
theorem d_Frm_form_6 : decode prog_3_method_5_code 6 = .ok (.iconst 2, 1) := by decide +kernel
theorem d_Frm_form_7 : decode prog_3_method_5_code 7 = .ok (.ishr, 1) := by decide +kernel
theorem d_Frm_form_8 : decode prog_3_method_5_code 8 = .ok (.iconst 3, 1) := by decide +kernel
theorem d_Frm_form_9 : decode prog_3_method_5_code 9 = .ok (.iand, 1) := by decide +kernel
theorem d_Frm_form_10 : decode prog_3_method_5_code 10 = .ok (.ireturn, 1) := by decide +kernel
theorem d_Frm_spacecraft_0 : decode prog_3_method_6_code 0 = .ok (.aload_n 0, 1) := by decide +kernel
theorem d_Frm_spacecraft_1 : decode prog_3_method_6_code 1 = .ok (.getfield 9, 3) := by decide +kernel
theorem d_Frm_spacecraft_4 : decode prog_3_method_6_code 4 = .ok (.iconst 0, 1) := by decide +kernel
theorem d_Frm_spacecraft_5 : decode prog_3_method_6_code 5 = .ok (.iaload, 1) := by decide +kernel
theorem d_Frm_spacecraft_6 : decode prog_3_method_6_code 6 = .ok (.iconst 3, 1) := by decide +kernel
theorem d_Frm_spacecraft_7 : decode prog_3_method_6_code 7 = .ok (.iand, 1) := by decide +kernel
theorem d_Frm_spacecraft_8 : decode prog_3_method_6_code 8 = .ok (.sipush (256), 3) := by decide +kernel
theorem d_Frm_spacecraft_11 : decode prog_3_method_6_code 11 = .ok (.imul, 1) := by decide +kernel
theorem d_Frm_spacecraft_12 : decode prog_3_method_6_code 12 = .ok (.aload_n 0, 1) := by decide +kernel
theorem d_Frm_spacecraft_13 : decode prog_3_method_6_code 13 = .ok (.getfield 9, 3) := by decide +kernel
theorem d_Frm_spacecraft_16 : decode prog_3_method_6_code 16 = .ok (.iconst 1, 1) := by decide +kernel
theorem d_Frm_spacecraft_17 : decode prog_3_method_6_code 17 = .ok (.iaload, 1) := by decide +kernel
theorem d_Frm_spacecraft_18 : decode prog_3_method_6_code 18 = .ok (.iadd, 1) := by decide +kernel
theorem d_Frm_spacecraft_19 : decode prog_3_method_6_code 19 = .ok (.ireturn, 1) := by decide +kernel
theorem d_Frm_channel_0 : decode prog_3_method_7_code 0 = .ok (.aload_n 0, 1) := by decide +kernel
theorem d_Frm_channel_1 : decode prog_3_method_7_code 1 = .ok (.getfield 9, 3) := by decide +kernel
theorem d_Frm_channel_4 : decode prog_3_method_7_code 4 = .ok (.iconst 2, 1) := by decide +kernel
theorem d_Frm_channel_5 : decode prog_3_method_7_code 5 = .ok (.iaload, 1) := by decide +kernel
theorem d_Frm_channel_6 : decode prog_3_method_7_code 6 = .ok (.bipush (7), 2) := by decide +kernel
theorem d_Frm_channel_8 : decode prog_3_method_7_code 8 = .ok (.ishr, 1) := by decide +kernel
theorem d_Frm_channel_9 : decode prog_3_method_7_code 9 = .ok (.ireturn, 1) := by decide +kernel
theorem d_Frm_number_0 : decode prog_3_method_8_code 0 = .ok (.aload_n 0, 1) := by decide +kernel
theorem d_Frm_number_1 : decode prog_3_method_8_code 1 = .ok (.getfield 9, 3) := by decide +kernel
theorem d_Frm_number_4 : decode prog_3_method_8_code 4 = .ok (.iconst 4, 1) := by decide +kernel
theorem d_Frm_number_5 : decode prog_3_method_8_code 5 = .ok (.iaload, 1) := by decide +kernel
theorem d_Frm_number_6 : decode prog_3_method_8_code 6 = .ok (.ireturn, 1) := by decide +kernel
theorem d_Frm_dataLength_0 : decode prog_3_method_9_code 0 = .ok (.aload_n 0, 1) := by decide +kernel
theorem d_Frm_dataLength_1 : decode prog_3_method_9_code 1 = .ok (.getfield 13, 3) := by decide +kernel
theorem d_Frm_dataLength_4 : decode prog_3_method_9_code 4 = .ok (.iconst 5, 1) := by decide +kernel
theorem d_Frm_dataLength_5 : decode prog_3_method_9_code 5 = .ok (.isub, 1) := by decide +kernel
theorem d_Frm_dataLength_6 : decode prog_3_method_9_code 6 = .ok (.ireturn, 1) := by decide +kernel
theorem d_Frm_data_0 : decode prog_3_method_10_code 0 = .ok (.iload_n 1, 1) := by decide +kernel
theorem d_Frm_data_1 : decode prog_3_method_10_code 1 = .ok (.ifCond .lt (24), 3) := by decide +kernel
theorem d_Frm_data_4 : decode prog_3_method_10_code 4 = .ok (.iload_n 1, 1) := by decide +kernel
theorem d_Frm_data_5 : decode prog_3_method_10_code 5 = .ok (.aload_n 0, 1) := by decide +kernel
theorem d_Frm_data_6 : decode prog_3_method_10_code 6 = .ok (.getfield 13, 3) := by decide +kernel
theorem d_Frm_data_9 : decode prog_3_method_10_code 9 = .ok (.iconst 5, 1) := by decide +kernel
theorem d_Frm_data_10 : decode prog_3_method_10_code 10 = .ok (.isub, 1) := by decide +kernel
theorem d_Frm_data_11 : decode prog_3_method_10_code 11 = .ok (.if_icmp .ge (14), 3) := by decide +kernel
theorem d_Frm_data_14 : decode prog_3_method_10_code 14 = .ok (.aload_n 0, 1) := by decide +kernel
theorem d_Frm_data_15 : decode prog_3_method_10_code 15 = .ok (.getfield 9, 3) := by decide +kernel
theorem d_Frm_data_18 : decode prog_3_method_10_code 18 = .ok (.iconst 5, 1) := by decide +kernel
theorem d_Frm_data_19 : decode prog_3_method_10_code 19 = .ok (.iload_n 1, 1) := by decide +kernel
theorem d_Frm_data_20 : decode prog_3_method_10_code 20 = .ok (.iadd, 1) := by decide +kernel
theorem d_Frm_data_21 : decode prog_3_method_10_code 21 = .ok (.iaload, 1) := by decide +kernel
theorem d_Frm_data_22 : decode prog_3_method_10_code 22 = .ok (.goto (4), 3) := by decide +kernel
theorem d_Frm_data_25 : decode prog_3_method_10_code 25 = .ok (.iconst 0, 1) := by decide +kernel
theorem d_Frm_data_26 : decode prog_3_method_10_code 26 = .ok (.ireturn, 1) := by decide +kernel
end
section
theorem d_Har_init_0 : decode prog_4_method_1_code 0 = .ok (.aload_n 0, 1) := by decide +kernel
theorem d_Har_init_1 : decode prog_4_method_1_code 1 = .ok (.invokespecial 3, 3) := by decide +kernel
theorem d_Har_init_4 : decode prog_4_method_1_code 4 = .ok (.aload_n 0, 1) := by decide +kernel
theorem d_Har_init_5 : decode prog_4_method_1_code 5 = .ok (.bipush (60), 2) := by decide +kernel
theorem d_Har_init_7 : decode prog_4_method_1_code 7 = .ok (.newarray .int, 2) := by decide +kernel
theorem d_Har_init_9 : decode prog_4_method_1_code 9 = .ok (.putfield 9, 3) := by decide +kernel
theorem d_Har_init_12 : decode prog_4_method_1_code 12 = .ok (.aload_n 0, 1) := by decide +kernel
theorem d_Har_init_13 : decode prog_4_method_1_code 13 = .ok (.bipush (8), 2) := by decide +kernel
theorem d_Har_init_15 : decode prog_4_method_1_code 15 = .ok (.newarray .int, 2) := by decide +kernel
theorem d_Har_init_17 : decode prog_4_method_1_code 17 = .ok (.putfield 15, 3) := by decide +kernel
theorem d_Har_init_20 : decode prog_4_method_1_code 20 = .ok (.aload_n 0, 1) := by decide +kernel
theorem d_Har_init_21 : decode prog_4_method_1_code 21 = .ok (.bipush (8), 2) := by decide +kernel
theorem d_Har_init_23 : decode prog_4_method_1_code 23 = .ok (.newarray .int, 2) := by decide +kernel
theorem d_Har_init_25 : decode prog_4_method_1_code 25 = .ok (.putfield 18, 3) := by decide +kernel
theorem d_Har_init_28 : decode prog_4_method_1_code 28 = .ok (.aload_n 0, 1) := by decide +kernel
theorem d_Har_init_29 : decode prog_4_method_1_code 29 = .ok (.iconst 0, 1) := by decide +kernel
theorem d_Har_init_30 : decode prog_4_method_1_code 30 = .ok (.putfield 21, 3) := by decide +kernel
theorem d_Har_init_33 : decode prog_4_method_1_code 33 = .ok (.aload_n 0, 1) := by decide +kernel
theorem d_Har_init_34 : decode prog_4_method_1_code 34 = .ok (.iconst 0, 1) := by decide +kernel
theorem d_Har_init_35 : decode prog_4_method_1_code 35 = .ok (.putfield 25, 3) := by decide +kernel
theorem d_Har_init_38 : decode prog_4_method_1_code 38 = .ok (.return_, 1) := by decide +kernel
theorem d_Har_clear_0 : decode prog_4_method_2_code 0 = .ok (.aload_n 0, 1) := by decide +kernel
theorem d_Har_clear_1 : decode prog_4_method_2_code 1 = .ok (.iconst 0, 1) := by decide +kernel
theorem d_Har_clear_2 : decode prog_4_method_2_code 2 = .ok (.putfield 21, 3) := by decide +kernel
theorem d_Har_clear_5 : decode prog_4_method_2_code 5 = .ok (.aload_n 0, 1) := by decide +kernel
theorem d_Har_clear_6 : decode prog_4_method_2_code 6 = .ok (.iconst 0, 1) := by decide +kernel
theorem d_Har_clear_7 : decode prog_4_method_2_code 7 = .ok (.putfield 25, 3) := by decide +kernel
theorem d_Har_clear_10 : decode prog_4_method_2_code 10 = .ok (.return_, 1) := by decide +kernel
theorem d_Har_append_0 : decode prog_4_method_3_code 0 = .ok (.aload_n 0, 1) := by decide +kernel
theorem d_Har_append_1 : decode prog_4_method_3_code 1 = .ok (.getfield 21, 3) := by decide +kernel
theorem d_Har_append_4 : decode prog_4_method_3_code 4 = .ok (.bipush (60), 2) := by decide +kernel
theorem d_Har_append_6 : decode prog_4_method_3_code 6 = .ok (.if_icmp .ge (23), 3) := by decide +kernel
theorem d_Har_append_9 : decode prog_4_method_3_code 9 = .ok (.aload_n 0, 1) := by decide +kernel
theorem d_Har_append_10 : decode prog_4_method_3_code 10 = .ok (.getfield 9, 3) := by decide +kernel
theorem d_Har_append_13 : decode prog_4_method_3_code 13 = .ok (.aload_n 0, 1) := by decide +kernel
theorem d_Har_append_14 : decode prog_4_method_3_code 14 = .ok (.getfield 21, 3) := by decide +kernel
theorem d_Har_append_17 : decode prog_4_method_3_code 17 = .ok (.iload_n 1, 1) := by decide +kernel
theorem d_Har_append_18 : decode prog_4_method_3_code 18 = .ok (.iastore, 1) := by decide +kernel
theorem d_Har_append_19 : decode prog_4_method_3_code 19 = .ok (.aload_n 0, 1) := by decide +kernel
theorem d_Har_append_20 : decode prog_4_method_3_code 20 = .ok (.dup, 1) := by decide +kernel
theorem d_Har_append_21 : decode prog_4_method_3_code 21 = .ok (.getfield 21, 3) := by decide +kernel
theorem d_Har_append_24 : decode prog_4_method_3_code 24 = .ok (.iconst 1, 1) := by decide +kernel
theorem d_Har_append_25 : decode prog_4_method_3_code 25 = .ok (.iadd, 1) := by decide +kernel
theorem d_Har_append_26 : decode prog_4_method_3_code 26 = .ok (.putfield 21, 3) := by decide +kernel
theorem d_Har_append_29 : decode prog_4_method_3_code 29 = .ok (.return_, 1) := by decide +kernel
theorem d_Har_findPackets_0 : decode prog_4_method_4_code 0 = .ok (.iconst 0, 1) := by decide +kernel
theorem d_Har_findPackets_1 : decode prog_4_method_4_code 1 = .ok (.istore_n 1, 1) := by decide +kernel
theorem d_Har_findPackets_2 : decode prog_4_method_4_code 2 = .ok (.iconst 0, 1) := by decide +kernel
theorem d_Har_findPackets_3 : decode prog_4_method_4_code 3 = .ok (.istore_n 2, 1) := by decide +kernel
theorem d_Har_findPackets_4 : decode prog_4_method_4_code 4 = .ok (.iload_n 2, 1) := by decide +kernel
theorem d_Har_findPackets_5 : decode prog_4_method_4_code 5 = .ok (.bipush (8), 2) := by decide +kernel
theorem d_Har_findPackets_7 : decode prog_4_method_4_code 7 = .ok (.if_icmp .ge (54), 3) := by decide +kernel
theorem d_Har_findPackets_10 : decode prog_4_method_4_code 10 = .ok (.aload_n 0, 1) := by decide +kernel
theorem d_Har_findPackets_11 : decode prog_4_method_4_code 11 = .ok (.iload_n 1, 1) := by decide +kernel
theorem d_Har_findPackets_12 : decode prog_4_method_4_code 12 = .ok (.invokevirtual 28, 3) := by decide +kernel
theorem d_Har_findPackets_15 : decode prog_4_method_4_code 15 = .ok (.istore_n 3, 1) := by decide +kernel
theorem d_Har_findPackets_16 : decode prog_4_method_4_code 16 = .ok (.iload_n 3, 1) := by decide +kernel
theorem d_Har_findPackets_17 : decode prog_4_method_4_code 17 = .ok (.ifCond .ne (4), 3) := by decide +kernel
theorem d_Har_findPackets_20 : decode prog_4_method_4_code 20 = .ok (.return_, 1) := by decide +kernel
theorem d_Har_findPackets_21 : decode prog_4_method_4_code 21 = .ok (.aload_n 0, 1) := by decide +kernel
theorem d_Har_findPackets_22 : decode prog_4_method_4_code 22 = .ok (.getfield 15, 3) := by decide +kernel
theorem d_Har_findPackets_25 : decode prog_4_method_4_code 25 = .ok (.aload_n 0, 1) := by decide +kernel
theorem d_Har_findPackets_26 : decode prog_4_method_4_code 26 = .ok (.getfield 25, 3) := by decide +kernel
theorem d_Har_findPackets_29 : decode prog_4_method_4_code 29 = .ok (.iload_n 1, 1) := by decide +kernel
theorem d_Har_findPackets_30 : decode prog_4_method_4_code 30 = .ok (.iastore, 1) := by decide +kernel
theorem d_Har_findPackets_31 : decode prog_4_method_4_code 31 = .ok (.aload_n 0, 1) := by decide +kernel
theorem d_Har_findPackets_32 : decode prog_4_method_4_code 32 = .ok (.getfield 18, 3) := by decide +kernel
theorem d_Har_findPackets_35 : decode prog_4_method_4_code 35 = .ok (.aload_n 0, 1) := by decide +kernel
theorem d_Har_findPackets_36 : decode prog_4_method_4_code 36 = .ok (.getfield 25, 3) := by decide +kernel
theorem d_Har_findPackets_39 : decode prog_4_method_4_code 39 = .ok (.iload_n 3, 1) := by decide +kernel
theorem d_Har_findPackets_40 : decode prog_4_method_4_code 40 = .ok (.iastore, 1) := by decide +kernel
theorem d_Har_findPackets_41 : decode prog_4_method_4_code 41 = .ok (.aload_n 0, 1) := by decide +kernel
theorem d_Har_findPackets_42 : decode prog_4_method_4_code 42 = .ok (.dup, 1) := by decide +kernel
theorem d_Har_findPackets_43 : decode prog_4_method_4_code 43 = .ok (.getfield 25, 3) := by decide +kernel
theorem d_Har_findPackets_46 : decode prog_4_method_4_code 46 = .ok (.iconst 1, 1) := by decide +kernel
theorem d_Har_findPackets_47 : decode prog_4_method_4_code 47 = .ok (.iadd, 1) := by decide +kernel
theorem d_Har_findPackets_48 : decode prog_4_method_4_code 48 = .ok (.putfield 25, 3) := by decide +kernel
theorem d_Har_findPackets_51 : decode prog_4_method_4_code 51 = .ok (.iload_n 1, 1) := by decide +kernel
theorem d_Har_findPackets_52 : decode prog_4_method_4_code 52 = .ok (.iload_n 3, 1) := by decide +kernel
theorem d_Har_findPackets_53 : decode prog_4_method_4_code 53 = .ok (.iadd, 1) := by decide +kernel
theorem d_Har_findPackets_54 : decode prog_4_method_4_code 54 = .ok (.istore_n 1, 1) := by decide +kernel
theorem d_Har_findPackets_55 : decode prog_4_method_4_code 55 = .ok (.iinc 2 (1), 3) := by decide +kernel
theorem d_Har_findPackets_58 : decode prog_4_method_4_code 58 = .ok (.goto (-54), 3) := by decide +kernel
theorem d_Har_findPackets_61 : decode prog_4_method_4_code 61 = .ok (.return_, 1) := by decide +kernel
theorem d_Har_findOneWholePacket_0 : decode prog_4_method_5_code 0 = .ok (.aload_n 0, 1) := by decide +kernel
theorem d_Har_findOneWholePacket_1 : decode prog_4_method_5_code 1 = .ok (.getfield 21, 3) := by decide +kernel
theorem d_Har_findOneWholePacket_4 : decode prog_4_method_5_code 4 = .ok (.ifCond .le (37), 3) := by decide +kernel
theorem d_Har_findOneWholePacket_7 : decode prog_4_method_5_code 7 = .ok (.aload_n 0, 1) := by decide +kernel
theorem d_Har_findOneWholePacket_8 : decode prog_4_method_5_code 8 = .ok (.iconst 0, 1) := by decide +kernel
theorem d_Har_findOneWholePacket_9 : decode prog_4_method_5_code 9 = .ok (.invokevirtual 28, 3) := by decide +kernel
theorem d_Har_findOneWholePacket_12 : decode prog_4_method_5_code 12 = .ok (.aload_n 0, 1) := by decide +kernel
theorem d_Har_findOneWholePacket_13 : decode prog_4_method_5_code 13 = .ok (.getfield 21, 3) := by decide +kernel
theorem d_Har_findOneWholePacket_16 : decode prog_4_method_5_code 16 = .ok (.if_icmp .ne (25), 3) := by decide +kernel
theorem d_Har_findOneWholePacket_19 : decode prog_4_method_5_code 19 = .ok (.aload_n 0, 1) := by decide +kernel
theorem d_Har_findOneWholePacket_20 : decode prog_4_method_5_code 20 = .ok (.getfield 15, 3) := by decide +kernel
theorem d_Har_findOneWholePacket_23 : decode prog_4_method_5_code 23 = .ok (.iconst 0, 1) := by decide +kernel
theorem d_Har_findOneWholePacket_24 : decode prog_4_method_5_code 24 = .ok (.iconst 0, 1) := by decide +kernel
theorem d_Har_findOneWholePacket_25 : decode prog_4_method_5_code 25 = .ok (.iastore, 1) := by decide +kernel
theorem d_Har_findOneWholePacket_26 : decode prog_4_method_5_code 26 = .ok (.aload_n 0, 1) := by decide +kernel
theorem d_Har_findOneWholePacket_27 : decode prog_4_method_5_code 27 = .ok (.getfield 18, 3) := by decide +kernel
theorem d_Har_findOneWholePacket_30 : decode prog_4_method_5_code 30 = .ok (.iconst 0, 1) := by decide +kernel
theorem d_Har_findOneWholePacket_31 : decode prog_4_method_5_code 31 = .ok (.aload_n 0, 1) := by decide +kernel
theorem d_Har_findOneWholePacket_32 : decode prog_4_method_5_code 32 = .ok (.getfield 21, 3) := by decide +kernel
theorem d_Har_findOneWholePacket_35 : decode prog_4_method_5_code 35 = .ok (.iastore, 1) := by decide +kernel
theorem d_Har_findOneWholePacket_36 : decode prog_4_method_5_code 36 = .ok (.aload_n 0, 1) := by decide +kernel
theorem d_Har_findOneWholePacket_37 : decode prog_4_method_5_code 37 = .ok (.iconst 1, 1) := by decide +kernel
theorem d_Har_findOneWholePacket_38 : decode prog_4_method_5_code 38 = .ok (.putfield 25, 3) := by decide +kernel
theorem d_Har_findOneWholePacket_41 : decode prog_4_method_5_code 41 = .ok (.return_, 1) := by decide +kernel
theorem d_Har_blocksOfAll_0 : decode prog_4_method_6_code 0 = .ok (.iconst 0, 1) := by decide +kernel
theorem d_Har_blocksOfAll_1 : decode prog_4_method_6_code 1 = .ok (.istore_n 1, 1) := by decide +kernel
theorem d_Har_blocksOfAll_2 : decode prog_4_method_6_code 2 = .ok (.iconst 0, 1) := by decide +kernel
theorem d_Har_blocksOfAll_3 : decode prog_4_method_6_code 3 = .ok (.istore_n 2, 1) := by decide +kernel
theorem d_Har_blocksOfAll_4 : decode prog_4_method_6_code 4 = .ok (.iload_n 2, 1) := by decide +kernel
theorem d_Har_blocksOfAll_5 : decode prog_4_method_6_code 5 = .ok (.aload_n 0, 1) := by decide +kernel
theorem d_Har_blocksOfAll_6 : decode prog_4_method_6_code 6 = .ok (.getfield 25, 3) := by decide +kernel
theorem d_Har_blocksOfAll_9 : decode prog_4_method_6_code 9 = .ok (.if_icmp .ge (21), 3) := by decide +kernel
theorem d_Har_blocksOfAll_12 : decode prog_4_method_6_code 12 = .ok (.iload_n 1, 1) := by decide +kernel
theorem d_Har_blocksOfAll_13 : decode prog_4_method_6_code 13 = .ok (.aload_n 0, 1) := by decide +kernel
theorem d_Har_blocksOfAll_14 : decode prog_4_method_6_code 14 = .ok (.getfield 18, 3) := by decide +kernel
theorem d_Har_blocksOfAll_17 : decode prog_4_method_6_code 17 = .ok (.iload_n 2, 1) := by decide +kernel
theorem d_Har_blocksOfAll_18 : decode prog_4_method_6_code 18 = .ok (.iaload, 1) := by decide +kernel
theorem d_Har_blocksOfAll_19 : decode prog_4_method_6_code 19 = .ok (.invokestatic 32, 3) := by decide +kernel
theorem d_Har_blocksOfAll_22 : decode prog_4_method_6_code 22 = .ok (.iadd, 1) := by decide +kernel
theorem d_Har_blocksOfAll_23 : decode prog_4_method_6_code 23 = .ok (.istore_n 1, 1) := by decide +kernel
theorem d_Har_blocksOfAll_24 : decode prog_4_method_6_code 24 = .ok (.iinc 2 (1), 3) := by decide +kernel
theorem d_Har_blocksOfAll_27 : decode prog_4_method_6_code 27 = .ok (.goto (-23), 3) := by decide +kernel
theorem d_Har_blocksOfAll_30 : decode prog_4_method_6_code 30 = .ok (.iload_n 1, 1) := by decide +kernel
theorem d_Har_blocksOfAll_31 : decode prog_4_method_6_code 31 = .ok (.ireturn, 1) := by decide +kernel
theorem d_Har_packetLengthAt_0 : decode prog_4_method_7_code 0 = .ok (.aload_n 0, 1) := by decide +kernel
theorem d_Har_packetLengthAt_1 : decode prog_4_method_7_code 1 = .ok (.getfield 21, 3) := by decide +kernel
theorem d_Har_packetLengthAt_4 : decode prog_4_method_7_code 4 = .ok (.iload_n 1, 1) := by decide +kernel
theorem d_Har_packetLengthAt_5 : decode prog_4_method_7_code 5 = .ok (.isub, 1) := by decide +kernel
theorem d_Har_packetLengthAt_6 : decode prog_4_method_7_code 6 = .ok (.bipush (7), 2) := by decide +kernel
theorem d_Har_packetLengthAt_8 : decode prog_4_method_7_code 8 = .ok (.if_icmp .lt (25), 3) := by decide +kernel
theorem d_Har_packetLengthAt_11 : decode prog_4_method_7_code 11 = .ok (.aload_n 0, 1) := by decide +kernel
theorem d_Har_packetLengthAt_12 : decode prog_4_method_7_code 12 = .ok (.getfield 9, 3) := by decide +kernel
theorem d_Har_packetLengthAt_15 : decode prog_4_method_7_code 15 = .ok (.iload_n 1, 1) := by decide +kernel
theorem d_Har_packetLengthAt_16 : decode prog_4_method_7_code 16 = .ok (.iaload, 1) := by decide +kernel
theorem d_Har_packetLengthAt_17 : decode prog_4_method_7_code 17 = .ok (.bipush (8), 2) := by decide +kernel
theorem d_Har_packetLengthAt_19 : decode prog_4_method_7_code 19 = .ok (.if_icmp .lt (14), 3) := by decide +kernel
theorem d_Har_packetLengthAt_22 : decode prog_4_method_7_code 22 = .ok (.aload_n 0, 1) := by decide +kernel
theorem d_Har_packetLengthAt_23 : decode prog_4_method_7_code 23 = .ok (.getfield 9, 3) := by decide +kernel
theorem d_Har_packetLengthAt_26 : decode prog_4_method_7_code 26 = .ok (.iload_n 1, 1) := by decide +kernel
theorem d_Har_packetLengthAt_27 : decode prog_4_method_7_code 27 = .ok (.iaload, 1) := by decide +kernel
theorem d_Har_packetLengthAt_28 : decode prog_4_method_7_code 28 = .ok (.bipush (15), 2) := by decide +kernel
theorem d_Har_packetLengthAt_30 : decode prog_4_method_7_code 30 = .ok (.if_icmp .le (5), 3) := by decide +kernel
theorem d_Har_packetLengthAt_33 : decode prog_4_method_7_code 33 = .ok (.iconst 0, 1) := by decide +kernel
theorem d_Har_packetLengthAt_34 : decode prog_4_method_7_code 34 = .ok (.ireturn, 1) := by decide +kernel
theorem d_Har_packetLengthAt_35 : decode prog_4_method_7_code 35 = .ok (.aload_n 0, 1) := by decide +kernel
theorem d_Har_packetLengthAt_36 : decode prog_4_method_7_code 36 = .ok (.getfield 9, 3) := by decide +kernel
theorem d_Har_packetLengthAt_39 : decode prog_4_method_7_code 39 = .ok (.iload_n 1, 1) := by decide +kernel
theorem d_Har_packetLengthAt_40 : decode prog_4_method_7_code 40 = .ok (.iconst 4, 1) := by decide +kernel
theorem d_Har_packetLengthAt_41 : decode prog_4_method_7_code 41 = .ok (.iadd, 1) := by decide +kernel
theorem d_Har_packetLengthAt_42 : decode prog_4_method_7_code 42 = .ok (.iaload, 1) := by decide +kernel
theorem d_Har_packetLengthAt_43 : decode prog_4_method_7_code 43 = .ok (.sipush (256), 3) := by decide +kernel
theorem d_Har_packetLengthAt_46 : decode prog_4_method_7_code 46 = .ok (.imul, 1) := by decide +kernel
theorem d_Har_packetLengthAt_47 : decode prog_4_method_7_code 47 = .ok (.aload_n 0, 1) := by decide +kernel
theorem d_Har_packetLengthAt_48 : decode prog_4_method_7_code 48 = .ok (.getfield 9, 3) := by decide +kernel
theorem d_Har_packetLengthAt_51 : decode prog_4_method_7_code 51 = .ok (.iload_n 1, 1) := by decide +kernel
theorem d_Har_packetLengthAt_52 : decode prog_4_method_7_code 52 = .ok (.iconst 5, 1) := by decide +kernel
theorem d_Har_packetLengthAt_53 : decode prog_4_method_7_code 53 = .ok (.iadd, 1) := by decide +kernel
theorem d_Har_packetLengthAt_54 : decode prog_4_method_7_code 54 = .ok (.iaload, 1) := by decide +kernel
theorem d_Har_packetLengthAt_55 : decode prog_4_method_7_code 55 = .ok (.iadd, 1) := by decide +kernel
theorem d_Har_packetLengthAt_56 : decode prog_4_method_7_code 56 = .ok (.bipush (7), 2) := by decide +kernel
theorem d_Har_packetLengthAt_58 : decode prog_4_method_7_code 58 = .ok (.iadd, 1) := by decide +kernel
theorem d_Har_packetLengthAt_59 : decode prog_4_method_7_code 59 = .ok (.istore_n 2, 1) := by decide +kernel
theorem d_Har_packetLengthAt_60 : decode prog_4_method_7_code 60 = .ok (.iload_n 2, 1) := by decide +kernel
theorem d_Har_packetLengthAt_61 : decode prog_4_method_7_code 61 = .ok (.aload_n 0, 1) := by decide +kernel
theorem d_Har_packetLengthAt_62 : decode prog_4_method_7_code 62 = .ok (.getfield 21, 3) := by decide +kernel
theorem d_Har_packetLengthAt_65 : decode prog_4_method_7_code 65 = .ok (.iload_n 1, 1) := by decide +kernel
theorem d_Har_packetLengthAt_66 : decode prog_4_method_7_code 66 = .ok (.isub, 1) := by decide +kernel
theorem d_Har_packetLengthAt_67 : decode prog_4_method_7_code 67 = .ok (.if_icmp .gt (7), 3) := by decide +kernel
theorem d_Har_packetLengthAt_70 : decode prog_4_method_7_code 70 = .ok (.iload_n 2, 1) := by decide +kernel
theorem d_Har_packetLengthAt_71 : decode prog_4_method_7_code 71 = .ok (.goto (4), 3) := by decide +kernel
theorem d_Har_packetLengthAt_74 : decode prog_4_method_7_code 74 = .ok (.iconst 0, 1) := by decide +kernel
theorem d_Har_packetLengthAt_75 : decode prog_4_method_7_code 75 = .ok (.ireturn, 1) := by decide +kernel
end
section
theorem d_Lan_init_0 : decode prog_5_method_1_code 0 = .ok (.aload_n 0, 1) := by decide +kernel
theorem d_Lan_init_1 : decode prog_5_method_1_code 1 = .ok (.invokespecial 5, 3) := by decide +kernel
theorem d_Lan_init_4 : decode prog_5_method_1_code 4 = .ok (.aload_n 0, 1) := by decide +kernel
theorem d_Lan_init_5 : decode prog_5_method_1_code 5 = .ok (.bipush (71), 2) := by decide +kernel
theorem d_Lan_init_7 : decode prog_5_method_1_code 7 = .ok (.newarray .int, 2) := by decide +kernel
theorem d_Lan_init_9 : decode prog_5_method_1_code 9 = .ok (.putfield 11, 3) := by decide +kernel
theorem d_Lan_init_12 : decode prog_5_method_1_code 12 = .ok (.aload_n 0, 1) := by decide +kernel
theorem d_Lan_init_13 : decode prog_5_method_1_code 13 = .ok (.new 3, 3) := by decide +kernel
theorem d_Lan_init_16 : decode prog_5_method_1_code 16 = .ok (.dup, 1) := by decide +kernel
theorem d_Lan_init_17 : decode prog_5_method_1_code 17 = .ok (.invokespecial 15, 3) := by decide +kernel
theorem d_Lan_init_20 : decode prog_5_method_1_code 20 = .ok (.putfield 16, 3) := by decide +kernel
theorem d_Lan_init_23 : decode prog_5_method_1_code 23 = .ok (.aload_n 0, 1) := by decide +kernel
theorem d_Lan_init_24 : decode prog_5_method_1_code 24 = .ok (.iconst 0, 1) := by decide +kernel
theorem d_Lan_init_25 : decode prog_5_method_1_code 25 = .ok (.putfield 20, 3) := by decide +kernel
theorem d_Lan_init_28 : decode prog_5_method_1_code 28 = .ok (.return_, 1) := by decide +kernel
theorem d_Lan_put_0 : decode prog_5_method_2_code 0 = .ok (.aload_n 0, 1) := by decide +kernel
theorem d_Lan_put_1 : decode prog_5_method_2_code 1 = .ok (.getfield 20, 3) := by decide +kernel
theorem d_Lan_put_4 : decode prog_5_method_2_code 4 = .ok (.bipush (71), 2) := by decide +kernel
theorem d_Lan_put_6 : decode prog_5_method_2_code 6 = .ok (.if_icmp .ge (23), 3) := by decide +kernel
theorem d_Lan_put_9 : decode prog_5_method_2_code 9 = .ok (.aload_n 0, 1) := by decide +kernel
theorem d_Lan_put_10 : decode prog_5_method_2_code 10 = .ok (.getfield 11, 3) := by decide +kernel
theorem d_Lan_put_13 : decode prog_5_method_2_code 13 = .ok (.aload_n 0, 1) := by decide +kernel
theorem d_Lan_put_14 : decode prog_5_method_2_code 14 = .ok (.getfield 20, 3) := by decide +kernel
theorem d_Lan_put_17 : decode prog_5_method_2_code 17 = .ok (.iload_n 1, 1) := by decide +kernel
theorem d_Lan_put_18 : decode prog_5_method_2_code 18 = .ok (.iastore, 1) := by decide +kernel
theorem d_Lan_put_19 : decode prog_5_method_2_code 19 = .ok (.aload_n 0, 1) := by decide +kernel
theorem d_Lan_put_20 : decode prog_5_method_2_code 20 = .ok (.dup, 1) := by decide +kernel
theorem d_Lan_put_21 : decode prog_5_method_2_code 21 = .ok (.getfield 20, 3) := by decide +kernel
theorem d_Lan_put_24 : decode prog_5_method_2_code 24 = .ok (.iconst 1, 1) := by decide +kernel
theorem d_Lan_put_25 : decode prog_5_method_2_code 25 = .ok (.iadd, 1) := by decide +kernel
theorem d_Lan_put_26 : decode prog_5_method_2_code 26 = .ok (.putfield 20, 3) := by decide +kernel
theorem d_Lan_put_29 : decode prog_5_method_2_code 29 = .ok (.return_, 1) := by decide +kernel
theorem d_Lan_forgetAll_0 : decode prog_5_method_3_code 0 = .ok (.aload_n 0, 1) := by decide +kernel
theorem d_Lan_forgetAll_1 : decode prog_5_method_3_code 1 = .ok (.iconst 0, 1) := by decide +kernel
theorem d_Lan_forgetAll_2 : decode prog_5_method_3_code 2 = .ok (.putfield 20, 3) := by decide +kernel
theorem d_Lan_forgetAll_5 : decode prog_5_method_3_code 5 = .ok (.return_, 1) := by decide +kernel
theorem d_Lan_giveUp_0 : decode prog_5_method_4_code 0 = .ok (.iload_n 1, 1) := by decide +kernel
theorem d_Lan_giveUp_1 : decode prog_5_method_4_code 1 = .ok (.aload_n 0, 1) := by decide +kernel
theorem d_Lan_giveUp_2 : decode prog_5_method_4_code 2 = .ok (.getfield 20, 3) := by decide +kernel
theorem d_Lan_giveUp_5 : decode prog_5_method_4_code 5 = .ok (.invokestatic 24, 3) := by decide +kernel
theorem d_Lan_giveUp_8 : decode prog_5_method_4_code 8 = .ok (.istore_n 2, 1) := by decide +kernel
theorem d_Lan_giveUp_9 : decode prog_5_method_4_code 9 = .ok (.aload_n 0, 1) := by decide +kernel
theorem d_Lan_giveUp_10 : decode prog_5_method_4_code 10 = .ok (.getfield 11, 3) := by decide +kernel
theorem d_Lan_giveUp_13 : decode prog_5_method_4_code 13 = .ok (.iload_n 2, 1) := by decide +kernel
theorem d_Lan_giveUp_14 : decode prog_5_method_4_code 14 = .ok (.aload_n 0, 1) := by decide +kernel
theorem d_Lan_giveUp_15 : decode prog_5_method_4_code 15 = .ok (.getfield 11, 3) := by decide +kernel
theorem d_Lan_giveUp_18 : decode prog_5_method_4_code 18 = .ok (.iconst 0, 1) := by decide +kernel
theorem d_Lan_giveUp_19 : decode prog_5_method_4_code 19 = .ok (.aload_n 0, 1) := by decide +kernel
theorem d_Lan_giveUp_20 : decode prog_5_method_4_code 20 = .ok (.getfield 20, 3) := by decide +kernel
theorem d_Lan_giveUp_23 : decode prog_5_method_4_code 23 = .ok (.iload_n 2, 1) := by decide +kernel
theorem d_Lan_giveUp_24 : decode prog_5_method_4_code 24 = .ok (.isub, 1) := by decide +kernel
theorem d_Lan_giveUp_25 : decode prog_5_method_4_code 25 = .ok (.invokestatic 30, 3) := by decide +kernel
theorem d_Lan_giveUp_28 : decode prog_5_method_4_code 28 = .ok (.aload_n 0, 1) := by decide +kernel
theorem d_Lan_giveUp_29 : decode prog_5_method_4_code 29 = .ok (.dup, 1) := by decide +kernel
theorem d_Lan_giveUp_30 : decode prog_5_method_4_code 30 = .ok (.getfield 20, 3) := by decide +kernel
theorem d_Lan_giveUp_33 : decode prog_5_method_4_code 33 = .ok (.iload_n 2, 1) := by decide +kernel
theorem d_Lan_giveUp_34 : decode prog_5_method_4_code 34 = .ok (.isub, 1) := by decide +kernel
theorem d_Lan_giveUp_35 : decode prog_5_method_4_code 35 = .ok (.putfield 20, 3) := by decide +kernel
theorem d_Lan_giveUp_38 : decode prog_5_method_4_code 38 = .ok (.return_, 1) := by decide +kernel
theorem d_Lan_look_0 : decode prog_5_method_5_code 0 = .ok (.iconst 0, 1) := by decide +kernel
theorem d_Lan_look_1 : decode prog_5_method_5_code 1 = .ok (.istore_n 1, 1) := by decide +kernel
theorem d_Lan_look_2 : decode prog_5_method_5_code 2 = .ok (.iload_n 1, 1) := by decide +kernel
theorem d_Lan_look_3 : decode prog_5_method_5_code 3 = .ok (.iconst 3, 1) := by decide +kernel
theorem d_Lan_look_4 : decode prog_5_method_5_code 4 = .ok (.if_icmp .ge (35), 3) := by decide +kernel
theorem d_Lan_look_7 : decode prog_5_method_5_code 7 = .ok (.aload_n 0, 1) := by decide +kernel
theorem d_Lan_look_8 : decode prog_5_method_5_code 8 = .ok (.getfield 20, 3) := by decide +kernel
theorem d_Lan_look_11 : decode prog_5_method_5_code 11 = .ok (.iload_n 1, 1) := by decide +kernel
theorem d_Lan_look_12 : decode prog_5_method_5_code 12 = .ok (.if_icmp .gt (5), 3) := by decide +kernel
theorem d_Lan_look_15 : decode prog_5_method_5_code 15 = .ok (.iconst 0, 1) := by decide +kernel
theorem d_Lan_look_16 : decode prog_5_method_5_code 16 = .ok (.ireturn, 1) := by decide +kernel
theorem d_Lan_look_17 : decode prog_5_method_5_code 17 = .ok (.aload_n 0, 1) := by decide +kernel
theorem d_Lan_look_18 : decode prog_5_method_5_code 18 = .ok (.getfield 11, 3) := by decide +kernel
theorem d_Lan_look_21 : decode prog_5_method_5_code 21 = .ok (.iload_n 1, 1) := by decide +kernel
theorem d_Lan_look_22 : decode prog_5_method_5_code 22 = .ok (.iaload, 1) := by decide +kernel
theorem d_Lan_look_23 : decode prog_5_method_5_code 23 = .ok (.getstatic 36, 3) := by decide +kernel
theorem d_Lan_look_26 : decode prog_5_method_5_code 26 = .ok (.iload_n 1, 1) := by decide +kernel
theorem d_Lan_look_27 : decode prog_5_method_5_code 27 = .ok (.iaload, 1) := by decide +kernel
theorem d_Lan_look_28 : decode prog_5_method_5_code 28 = .ok (.if_icmp .eq (5), 3) := by decide +kernel
theorem d_Lan_look_31 : decode prog_5_method_5_code 31 = .ok (.iconst (-1), 1) := by decide +kernel
theorem d_Lan_look_32 : decode prog_5_method_5_code 32 = .ok (.ireturn, 1) := by decide +kernel
theorem d_Lan_look_33 : decode prog_5_method_5_code 33 = .ok (.iinc 1 (1), 3) := by decide +kernel
theorem d_Lan_look_36 : decode prog_5_method_5_code 36 = .ok (.goto (-34), 3) := by decide +kernel
theorem d_Lan_look_39 : decode prog_5_method_5_code 39 = .ok (.aload_n 0, 1) := by decide +kernel
theorem d_Lan_look_40 : decode prog_5_method_5_code 40 = .ok (.getfield 20, 3) := by decide +kernel
theorem d_Lan_look_43 : decode prog_5_method_5_code 43 = .ok (.iconst 3, 1) := by decide +kernel
theorem d_Lan_look_44 : decode prog_5_method_5_code 44 = .ok (.if_icmp .gt (5), 3) := by decide +kernel
theorem d_Lan_look_47 : decode prog_5_method_5_code 47 = .ok (.iconst 0, 1) := by decide +kernel
theorem d_Lan_look_48 : decode prog_5_method_5_code 48 = .ok (.ireturn, 1) := by decide +kernel
theorem d_Lan_look_49 : decode prog_5_method_5_code 49 = .ok (.aload_n 0, 1) := by decide +kernel
theorem d_Lan_look_50 : decode prog_5_method_5_code 50 = .ok (.getfield 11, 3) := by decide +kernel
theorem d_Lan_look_53 : decode prog_5_method_5_code 53 = .ok (.iconst 3, 1) := by decide +kernel
theorem d_Lan_look_54 : decode prog_5_method_5_code 54 = .ok (.iaload, 1) := by decide +kernel
theorem d_Lan_look_55 : decode prog_5_method_5_code 55 = .ok (.bipush (6), 2) := by decide +kernel
theorem d_Lan_look_57 : decode prog_5_method_5_code 57 = .ok (.ishr, 1) := by decide +kernel
theorem d_Lan_look_58 : decode prog_5_method_5_code 58 = .ok (.iconst 2, 1) := by decide +kernel
theorem d_Lan_look_59 : decode prog_5_method_5_code 59 = .ok (.if_icmp .eq (5), 3) := by decide +kernel
theorem d_Lan_look_62 : decode prog_5_method_5_code 62 = .ok (.iconst (-1), 1) := by decide +kernel
theorem d_Lan_look_63 : decode prog_5_method_5_code 63 = .ok (.ireturn, 1) := by decide +kernel
theorem d_Lan_look_64 : decode prog_5_method_5_code 64 = .ok (.aload_n 0, 1) := by decide +kernel
theorem d_Lan_look_65 : decode prog_5_method_5_code 65 = .ok (.getfield 20, 3) := by decide +kernel
theorem d_Lan_look_68 : decode prog_5_method_5_code 68 = .ok (.bipush (6), 2) := by decide +kernel
theorem d_Lan_look_70 : decode prog_5_method_5_code 70 = .ok (.if_icmp .gt (5), 3) := by decide +kernel
theorem d_Lan_look_73 : decode prog_5_method_5_code 73 = .ok (.iconst 0, 1) := by decide +kernel
theorem d_Lan_look_74 : decode prog_5_method_5_code 74 = .ok (.ireturn, 1) := by decide +kernel
theorem d_Lan_look_75 : decode prog_5_method_5_code 75 = .ok (.aload_n 0, 1) := by decide +kernel
theorem d_Lan_look_76 : decode prog_5_method_5_code 76 = .ok (.invokevirtual 39, 3) := by decide +kernel
theorem d_Lan_look_79 : decode prog_5_method_5_code 79 = .ok (.istore_n 1, 1) := by decide +kernel
theorem d_Lan_look_80 : decode prog_5_method_5_code 80 = .ok (.iload_n 1, 1) := by decide +kernel
theorem d_Lan_look_81 : decode prog_5_method_5_code 81 = .ok (.iconst 5, 1) := by decide +kernel
theorem d_Lan_look_82 : decode prog_5_method_5_code 82 = .ok (.if_icmp .lt (9), 3) := by decide +kernel
theorem d_Lan_look_85 : decode prog_5_method_5_code 85 = .ok (.iload_n 1, 1) := by decide +kernel
theorem d_Lan_look_86 : decode prog_5_method_5_code 86 = .ok (.bipush (64), 2) := by decide +kernel
theorem d_Lan_look_88 : decode prog_5_method_5_code 88 = .ok (.if_icmp .le (5), 3) := by decide +kernel
theorem d_Lan_look_91 : decode prog_5_method_5_code 91 = .ok (.iconst (-1), 1) := by decide +kernel
theorem d_Lan_look_92 : decode prog_5_method_5_code 92 = .ok (.ireturn, 1) := by decide +kernel
theorem d_Lan_look_93 : decode prog_5_method_5_code 93 = .ok (.aload_n 0, 1) := by decide +kernel
theorem d_Lan_look_94 : decode prog_5_method_5_code 94 = .ok (.getfield 20, 3) := by decide +kernel
theorem d_Lan_look_97 : decode prog_5_method_5_code 97 = .ok (.iconst 3, 1) := by decide +kernel
theorem d_Lan_look_98 : decode prog_5_method_5_code 98 = .ok (.iload_n 1, 1) := by decide +kernel
theorem d_Lan_look_99 : decode prog_5_method_5_code 99 = .ok (.iadd, 1) := by decide +kernel
theorem d_Lan_look_100 : decode prog_5_method_5_code 100 = .ok (.iconst 4, 1) := by decide +kernel
theorem d_Lan_look_101 : decode prog_5_method_5_code 101 = .ok (.iadd, 1) := by decide +kernel
theorem d_Lan_look_102 : decode prog_5_method_5_code 102 = .ok (.if_icmp .ge (5), 3) := by decide +kernel
theorem d_Lan_look_105 : decode prog_5_method_5_code 105 = .ok (.iconst 0, 1) := by decide +kernel
theorem d_Lan_look_106 : decode prog_5_method_5_code 106 = .ok (.ireturn, 1) := by decide +kernel
theorem d_Lan_look_107 : decode prog_5_method_5_code 107 = .ok (.aload_n 0, 1) := by decide +kernel
theorem d_Lan_look_108 : decode prog_5_method_5_code 108 = .ok (.iload_n 1, 1) := by decide +kernel
theorem d_Lan_look_109 : decode prog_5_method_5_code 109 = .ok (.invokevirtual 43, 3) := by decide +kernel
theorem d_Lan_look_112 : decode prog_5_method_5_code 112 = .ok (.ifCond .eq (7), 3) := by decide +kernel
theorem d_Lan_look_115 : decode prog_5_method_5_code 115 = .ok (.iload_n 1, 1) := by decide +kernel
theorem d_Lan_look_116 : decode prog_5_method_5_code 116 = .ok (.goto (4), 3) := by decide +kernel
theorem d_Lan_look_119 : decode prog_5_method_5_code 119 = .ok (.iconst (-1), 1) := by decide +kernel
theorem d_Lan_look_120 : decode prog_5_method_5_code 120 = .ok (.ireturn, 1) := by decide +kernel
theorem d_Lan_takeFrame_0 : decode prog_5_method_6_code 0 = .ok (.aload_n 0, 1) := by decide +kernel
theorem d_Lan_takeFrame_1 : decode prog_5_method_6_code 1 = .ok (.invokevirtual 39, 3) := by decide +kernel
theorem d_Lan_takeFrame_4 : decode prog_5_method_6_code 4 = .ok (.istore_n 1, 1) := by decide +kernel
theorem d_Lan_takeFrame_5 : decode prog_5_method_6_code 5 = .ok (.aload_n 0, 1) := by decide +kernel
theorem d_Lan_takeFrame_6 : decode prog_5_method_6_code 6 = .ok (.getfield 16, 3) := by decide +kernel
theorem d_Lan_takeFrame_9 : decode prog_5_method_6_code 9 = .ok (.aload_n 0, 1) := by decide +kernel
theorem d_Lan_takeFrame_10 : decode prog_5_method_6_code 10 = .ok (.getfield 11, 3) := by decide +kernel
theorem d_Lan_takeFrame_13 : decode prog_5_method_6_code 13 = .ok (.iconst 3, 1) := by decide +kernel
theorem d_Lan_takeFrame_14 : decode prog_5_method_6_code 14 = .ok (.iload_n 1, 1) := by decide +kernel
theorem d_Lan_takeFrame_15 : decode prog_5_method_6_code 15 = .ok (.invokevirtual 47, 3) := by decide +kernel
theorem d_Lan_takeFrame_18 : decode prog_5_method_6_code 18 = .ok (.aload_n 0, 1) := by decide +kernel
theorem d_Lan_takeFrame_19 : decode prog_5_method_6_code 19 = .ok (.iconst 3, 1) := by decide +kernel
theorem d_Lan_takeFrame_20 : decode prog_5_method_6_code 20 = .ok (.iload_n 1, 1) := by decide +kernel
theorem d_Lan_takeFrame_21 : decode prog_5_method_6_code 21 = .ok (.iadd, 1) := by decide +kernel
theorem d_Lan_takeFrame_22 : decode prog_5_method_6_code 22 = .ok (.iconst 4, 1) := by decide +kernel
theorem d_Lan_takeFrame_23 : decode prog_5_method_6_code 23 = .ok (.iadd, 1) := by decide +kernel
theorem d_Lan_takeFrame_24 : decode prog_5_method_6_code 24 = .ok (.invokevirtual 51, 3) := by decide +kernel
theorem d_Lan_takeFrame_27 : decode prog_5_method_6_code 27 = .ok (.return_, 1) := by decide +kernel
theorem d_Lan_toldLength_0 : decode prog_5_method_7_code 0 = .ok (.aload_n 0, 1) := by decide +kernel
theorem d_Lan_toldLength_1 : decode prog_5_method_7_code 1 = .ok (.getfield 11, 3) := by decide +kernel
theorem d_Lan_toldLength_4 : decode prog_5_method_7_code 4 = .ok (.iconst 5, 1) := by decide +kernel
theorem d_Lan_toldLength_5 : decode prog_5_method_7_code 5 = .ok (.iaload, 1) := by decide +kernel
theorem d_Lan_toldLength_6 : decode prog_5_method_7_code 6 = .ok (.bipush (7), 2) := by decide +kernel
theorem d_Lan_toldLength_8 : decode prog_5_method_7_code 8 = .ok (.iand, 1) := by decide +kernel
theorem d_Lan_toldLength_9 : decode prog_5_method_7_code 9 = .ok (.sipush (256), 3) := by decide +kernel
theorem d_Lan_toldLength_12 : decode prog_5_method_7_code 12 = .ok (.imul, 1) := by decide +kernel
theorem d_Lan_toldLength_13 : decode prog_5_method_7_code 13 = .ok (.aload_n 0, 1) := by decide +kernel
theorem d_Lan_toldLength_14 : decode prog_5_method_7_code 14 = .ok (.getfield 11, 3) := by decide +kernel
theorem d_Lan_toldLength_17 : decode prog_5_method_7_code 17 = .ok (.bipush (6), 2) := by decide +kernel
theorem d_Lan_toldLength_19 : decode prog_5_method_7_code 19 = .ok (.iaload, 1) := by decide +kernel
theorem d_Lan_toldLength_20 : decode prog_5_method_7_code 20 = .ok (.iadd, 1) := by decide +kernel
theorem d_Lan_toldLength_21 : decode prog_5_method_7_code 21 = .ok (.iconst 1, 1) := by decide +kernel
theorem d_Lan_toldLength_22 : decode prog_5_method_7_code 22 = .ok (.iadd, 1) := by decide +kernel
theorem d_Lan_toldLength_23 : decode prog_5_method_7_code 23 = .ok (.ireturn, 1) := by decide +kernel
theorem d_Lan_checkHolds_0 : decode prog_5_method_8_code 0 = .ok (.iconst 3, 1) := by decide +kernel
theorem d_Lan_checkHolds_1 : decode prog_5_method_8_code 1 = .ok (.iload_n 1, 1) := by decide +kernel
theorem d_Lan_checkHolds_2 : decode prog_5_method_8_code 2 = .ok (.iadd, 1) := by decide +kernel
theorem d_Lan_checkHolds_3 : decode prog_5_method_8_code 3 = .ok (.istore_n 2, 1) := by decide +kernel
theorem d_Lan_checkHolds_4 : decode prog_5_method_8_code 4 = .ok (.aload_n 0, 1) := by decide +kernel
theorem d_Lan_checkHolds_5 : decode prog_5_method_8_code 5 = .ok (.getfield 11, 3) := by decide +kernel
theorem d_Lan_checkHolds_8 : decode prog_5_method_8_code 8 = .ok (.iconst 3, 1) := by decide +kernel
theorem d_Lan_checkHolds_9 : decode prog_5_method_8_code 9 = .ok (.iload_n 2, 1) := by decide +kernel
theorem d_Lan_checkHolds_10 : decode prog_5_method_8_code 10 = .ok (.bipush (32), 2) := by decide +kernel
theorem d_Lan_checkHolds_12 : decode prog_5_method_8_code 12 = .ok (.iconst 0, 1) := by decide +kernel
theorem d_Lan_checkHolds_13 : decode prog_5_method_8_code 13 = .ok (.ldc 55, 2) := by decide +kernel
theorem d_Lan_checkHolds_15 : decode prog_5_method_8_code 15 = .ok (.invokestatic 56, 3) := by decide +kernel
theorem d_Lan_checkHolds_18 : decode prog_5_method_8_code 18 = .ok (.istore_n 3, 1) := by decide +kernel
theorem d_Lan_checkHolds_19 : decode prog_5_method_8_code 19 = .ok (.aload_n 0, 1) := by decide +kernel
theorem d_Lan_checkHolds_20 : decode prog_5_method_8_code 20 = .ok (.getfield 11, 3) := by decide +kernel
theorem d_Lan_checkHolds_23 : decode prog_5_method_8_code 23 = .ok (.iload_n 2, 1) := by decide +kernel
theorem d_Lan_checkHolds_24 : decode prog_5_method_8_code 24 = .ok (.iaload, 1) := by decide +kernel
theorem d_Lan_checkHolds_25 : decode prog_5_method_8_code 25 = .ok (.bipush (24), 2) := by decide +kernel
theorem d_Lan_checkHolds_27 : decode prog_5_method_8_code 27 = .ok (.ishl, 1) := by decide +kernel
theorem d_Lan_checkHolds_28 : decode prog_5_method_8_code 28 = .ok (.aload_n 0, 1) := by decide +kernel
theorem d_Lan_checkHolds_29 : decode prog_5_method_8_code 29 = .ok (.getfield 11, 3) := by decide +kernel
theorem d_Lan_checkHolds_32 : decode prog_5_method_8_code 32 = .ok (.iload_n 2, 1) := by decide +kernel
theorem d_Lan_checkHolds_33 : decode prog_5_method_8_code 33 = .ok (.iconst 1, 1) := by decide +kernel
theorem d_Lan_checkHolds_34 : decode prog_5_method_8_code 34 = .ok (.iadd, 1) := by decide +kernel
theorem d_Lan_checkHolds_35 : decode prog_5_method_8_code 35 = .ok (.iaload, 1) := by decide +kernel
theorem d_Lan_checkHolds_36 : decode prog_5_method_8_code 36 = .ok (.bipush (16), 2) := by decide +kernel
theorem d_Lan_checkHolds_38 : decode prog_5_method_8_code 38 = .ok (.ishl, 1) := by decide +kernel
theorem d_Lan_checkHolds_39 : decode prog_5_method_8_code 39 = .ok (.ior, 1) := by decide +kernel
theorem d_Lan_checkHolds_40 : decode prog_5_method_8_code 40 = .ok (.aload_n 0, 1) := by decide +kernel
theorem d_Lan_checkHolds_41 : decode prog_5_method_8_code 41 = .ok (.getfield 11, 3) := by decide +kernel
theorem d_Lan_checkHolds_44 : decode prog_5_method_8_code 44 = .ok (.iload_n 2, 1) := by decide +kernel
theorem d_Lan_checkHolds_45 : decode prog_5_method_8_code 45 = .ok (.iconst 2, 1) := by decide +kernel
theorem d_Lan_checkHolds_46 : decode prog_5_method_8_code 46 = .ok (.iadd, 1) := by decide +kernel
theorem d_Lan_checkHolds_47 : decode prog_5_method_8_code 47 = .ok (.iaload, 1) := by decide +kernel
theorem d_Lan_checkHolds_48 : decode prog_5_method_8_code 48 = .ok (.bipush (8), 2) := by decide +kernel
theorem d_Lan_checkHolds_50 : decode prog_5_method_8_code 50 = .ok (.ishl, 1) := by decide +kernel
theorem d_Lan_checkHolds_51 : decode prog_5_method_8_code 51 = .ok (.ior, 1) := by decide +kernel
theorem d_Lan_checkHolds_52 : decode prog_5_method_8_code 52 = .ok (.aload_n 0, 1) := by decide +kernel
theorem d_Lan_checkHolds_53 : decode prog_5_method_8_code 53 = .ok (.getfield 11, 3) := by decide +kernel
theorem d_Lan_checkHolds_56 : decode prog_5_method_8_code 56 = .ok (.iload_n 2, 1) := by decide +kernel
theorem d_Lan_checkHolds_57 : decode prog_5_method_8_code 57 = .ok (.iconst 3, 1) := by decide +kernel
theorem d_Lan_checkHolds_58 : decode prog_5_method_8_code 58 = .ok (.iadd, 1) := by decide +kernel
theorem d_Lan_checkHolds_59 : decode prog_5_method_8_code 59 = .ok (.iaload, 1) := by decide +kernel
theorem d_Lan_checkHolds_60 : decode prog_5_method_8_code 60 = .ok (.ior, 1) := by decide +kernel
theorem d_Lan_checkHolds_61 : decode prog_5_method_8_code 61 = .ok (.istore 4, 2) := by decide +kernel
theorem d_Lan_checkHolds_63 : decode prog_5_method_8_code 63 = .ok (.iload_n 3, 1) := by decide +kernel
theorem d_Lan_checkHolds_64 : decode prog_5_method_8_code 64 = .ok (.iload 4, 2) := by decide +kernel
theorem d_Lan_checkHolds_66 : decode prog_5_method_8_code 66 = .ok (.if_icmp .ne (7), 3) := by decide +kernel
theorem d_Lan_checkHolds_69 : decode prog_5_method_8_code 69 = .ok (.iconst 1, 1) := by decide +kernel
theorem d_Lan_checkHolds_70 : decode prog_5_method_8_code 70 = .ok (.goto (4), 3) := by decide +kernel
theorem d_Lan_checkHolds_73 : decode prog_5_method_8_code 73 = .ok (.iconst 0, 1) := by decide +kernel
theorem d_Lan_checkHolds_74 : decode prog_5_method_8_code 74 = .ok (.ireturn, 1) := by decide +kernel
end
section
theorem d_Pkt_init_0 : decode prog_6_method_1_code 0 = .ok (.aload_n 0, 1) := by decide +kernel
theorem d_Pkt_init_1 : decode prog_6_method_1_code 1 = .ok (.invokespecial 1, 3) := by decide +kernel
theorem d_Pkt_init_4 : decode prog_6_method_1_code 4 = .ok (.aload_n 0, 1) := by decide +kernel
theorem d_Pkt_init_5 : decode prog_6_method_1_code 5 = .ok (.bipush (60), 2) := by decide +kernel
theorem d_Pkt_init_7 : decode prog_6_method_1_code 7 = .ok (.invokestatic 9, 3) := by decide +kernel
theorem d_Pkt_init_10 : decode prog_6_method_1_code 10 = .ok (.newarray .int, 2) := by decide +kernel
theorem d_Pkt_init_12 : decode prog_6_method_1_code 12 = .ok (.putfield 15, 3) := by decide +kernel
theorem d_Pkt_init_15 : decode prog_6_method_1_code 15 = .ok (.aload_n 0, 1) := by decide +kernel
theorem d_Pkt_init_16 : decode prog_6_method_1_code 16 = .ok (.iconst 0, 1) := by decide +kernel
theorem d_Pkt_init_17 : decode prog_6_method_1_code 17 = .ok (.putfield 19, 3) := by decide +kernel
theorem d_Pkt_init_20 : decode prog_6_method_1_code 20 = .ok (.aload_n 0, 1) := by decide +kernel
theorem d_Pkt_init_21 : decode prog_6_method_1_code 21 = .ok (.iconst 0, 1) := by decide +kernel
theorem d_Pkt_init_22 : decode prog_6_method_1_code 22 = .ok (.putfield 23, 3) := by decide +kernel
theorem d_Pkt_init_25 : decode prog_6_method_1_code 25 = .ok (.aload_n 0, 1) := by decide +kernel
theorem d_Pkt_init_26 : decode prog_6_method_1_code 26 = .ok (.iconst 0, 1) := by decide +kernel
theorem d_Pkt_init_27 : decode prog_6_method_1_code 27 = .ok (.putfield 26, 3) := by decide +kernel
theorem d_Pkt_init_30 : decode prog_6_method_1_code 30 = .ok (.aload_n 0, 1) := by decide +kernel
theorem d_Pkt_init_31 : decode prog_6_method_1_code 31 = .ok (.iconst 0, 1) := by decide +kernel
theorem d_Pkt_init_32 : decode prog_6_method_1_code 32 = .ok (.putfield 29, 3) := by decide +kernel
theorem d_Pkt_init_35 : decode prog_6_method_1_code 35 = .ok (.return_, 1) := by decide +kernel
end
section
theorem d_Ses_init_0 : decode prog_7_method_1_code 0 = .ok (.aload_n 0, 1) := by decide +kernel
theorem d_Ses_init_1 : decode prog_7_method_1_code 1 = .ok (.invokespecial 3, 3) := by decide +kernel
theorem d_Ses_init_4 : decode prog_7_method_1_code 4 = .ok (.aload_n 0, 1) := by decide +kernel
theorem d_Ses_init_5 : decode prog_7_method_1_code 5 = .ok (.new 9, 3) := by decide +kernel
theorem d_Ses_init_8 : decode prog_7_method_1_code 8 = .ok (.dup, 1) := by decide +kernel
theorem d_Ses_init_9 : decode prog_7_method_1_code 9 = .ok (.invokespecial 11, 3) := by decide +kernel
theorem d_Ses_init_12 : decode prog_7_method_1_code 12 = .ok (.putfield 12, 3) := by decide +kernel
theorem d_Ses_init_15 : decode prog_7_method_1_code 15 = .ok (.aload_n 0, 1) := by decide +kernel
theorem d_Ses_init_16 : decode prog_7_method_1_code 16 = .ok (.iconst 4, 1) := by decide +kernel
theorem d_Ses_init_17 : decode prog_7_method_1_code 17 = .ok (.anewarray 18, 3) := by decide +kernel
theorem d_Ses_init_20 : decode prog_7_method_1_code 20 = .ok (.putfield 20, 3) := by decide +kernel
theorem d_Ses_init_23 : decode prog_7_method_1_code 23 = .ok (.aload_n 0, 1) := by decide +kernel
theorem d_Ses_init_24 : decode prog_7_method_1_code 24 = .ok (.iconst 0, 1) := by decide +kernel
theorem d_Ses_init_25 : decode prog_7_method_1_code 25 = .ok (.putfield 24, 3) := by decide +kernel
theorem d_Ses_init_28 : decode prog_7_method_1_code 28 = .ok (.aload_n 0, 1) := by decide +kernel
theorem d_Ses_init_29 : decode prog_7_method_1_code 29 = .ok (.iconst 0, 1) := by decide +kernel
theorem d_Ses_init_30 : decode prog_7_method_1_code 30 = .ok (.putfield 28, 3) := by decide +kernel
theorem d_Ses_init_33 : decode prog_7_method_1_code 33 = .ok (.aload_n 0, 1) := by decide +kernel
theorem d_Ses_init_34 : decode prog_7_method_1_code 34 = .ok (.iconst 0, 1) := by decide +kernel
theorem d_Ses_init_35 : decode prog_7_method_1_code 35 = .ok (.putfield 32, 3) := by decide +kernel
theorem d_Ses_init_38 : decode prog_7_method_1_code 38 = .ok (.aload_n 0, 1) := by decide +kernel
theorem d_Ses_init_39 : decode prog_7_method_1_code 39 = .ok (.iconst 0, 1) := by decide +kernel
theorem d_Ses_init_40 : decode prog_7_method_1_code 40 = .ok (.putfield 35, 3) := by decide +kernel
theorem d_Ses_init_43 : decode prog_7_method_1_code 43 = .ok (.aload_n 0, 1) := by decide +kernel
theorem d_Ses_init_44 : decode prog_7_method_1_code 44 = .ok (.iconst 0, 1) := by decide +kernel
theorem d_Ses_init_45 : decode prog_7_method_1_code 45 = .ok (.putfield 38, 3) := by decide +kernel
theorem d_Ses_init_48 : decode prog_7_method_1_code 48 = .ok (.aload_n 0, 1) := by decide +kernel
theorem d_Ses_init_49 : decode prog_7_method_1_code 49 = .ok (.aconst_null, 1) := by decide +kernel
theorem d_Ses_init_50 : decode prog_7_method_1_code 50 = .ok (.putfield 41, 3) := by decide +kernel
theorem d_Ses_init_53 : decode prog_7_method_1_code 53 = .ok (.aload_n 0, 1) := by decide +kernel
theorem d_Ses_init_54 : decode prog_7_method_1_code 54 = .ok (.iconst 0, 1) := by decide +kernel
theorem d_Ses_init_55 : decode prog_7_method_1_code 55 = .ok (.putfield 45, 3) := by decide +kernel
theorem d_Ses_init_58 : decode prog_7_method_1_code 58 = .ok (.aload_n 0, 1) := by decide +kernel
theorem d_Ses_init_59 : decode prog_7_method_1_code 59 = .ok (.aload_n 1, 1) := by decide +kernel
theorem d_Ses_init_60 : decode prog_7_method_1_code 60 = .ok (.putfield 48, 3) := by decide +kernel
theorem d_Ses_init_63 : decode prog_7_method_1_code 63 = .ok (.iconst 0, 1) := by decide +kernel
theorem d_Ses_init_64 : decode prog_7_method_1_code 64 = .ok (.istore_n 2, 1) := by decide +kernel
theorem d_Ses_init_65 : decode prog_7_method_1_code 65 = .ok (.iload_n 2, 1) := by decide +kernel
theorem d_Ses_init_66 : decode prog_7_method_1_code 66 = .ok (.iconst 4, 1) := by decide +kernel
theorem d_Ses_init_67 : decode prog_7_method_1_code 67 = .ok (.if_icmp .ge (22), 3) := by decide +kernel
theorem d_Ses_init_70 : decode prog_7_method_1_code 70 = .ok (.aload_n 0, 1) := by decide +kernel
theorem d_Ses_init_71 : decode prog_7_method_1_code 71 = .ok (.getfield 20, 3) := by decide +kernel
theorem d_Ses_init_74 : decode prog_7_method_1_code 74 = .ok (.iload_n 2, 1) := by decide +kernel
theorem d_Ses_init_75 : decode prog_7_method_1_code 75 = .ok (.new 18, 3) := by decide +kernel
theorem d_Ses_init_78 : decode prog_7_method_1_code 78 = .ok (.dup, 1) := by decide +kernel
theorem d_Ses_init_79 : decode prog_7_method_1_code 79 = .ok (.invokespecial 52, 3) := by decide +kernel
theorem d_Ses_init_82 : decode prog_7_method_1_code 82 = .ok (.aastore, 1) := by decide +kernel
theorem d_Ses_init_83 : decode prog_7_method_1_code 83 = .ok (.iinc 2 (1), 3) := by decide +kernel
theorem d_Ses_init_86 : decode prog_7_method_1_code 86 = .ok (.goto (-21), 3) := by decide +kernel
theorem d_Ses_init_89 : decode prog_7_method_1_code 89 = .ok (.return_, 1) := by decide +kernel
theorem d_Ses_restart_0 : decode prog_7_method_2_code 0 = .ok (.aload_n 0, 1) := by decide +kernel
theorem d_Ses_restart_1 : decode prog_7_method_2_code 1 = .ok (.iconst 0, 1) := by decide +kernel
theorem d_Ses_restart_2 : decode prog_7_method_2_code 2 = .ok (.putfield 24, 3) := by decide +kernel
theorem d_Ses_restart_5 : decode prog_7_method_2_code 5 = .ok (.aload_n 0, 1) := by decide +kernel
theorem d_Ses_restart_6 : decode prog_7_method_2_code 6 = .ok (.invokevirtual 53, 3) := by decide +kernel
theorem d_Ses_restart_9 : decode prog_7_method_2_code 9 = .ok (.return_, 1) := by decide +kernel
theorem d_Ses_reportWord_0 : decode prog_7_method_3_code 0 = .ok (.aload_n 0, 1) := by decide +kernel
theorem d_Ses_reportWord_1 : decode prog_7_method_3_code 1 = .ok (.getfield 24, 3) := by decide +kernel
theorem d_Ses_reportWord_4 : decode prog_7_method_3_code 4 = .ok (.ifCond .ne (5), 3) := by decide +kernel
theorem d_Ses_reportWord_7 : decode prog_7_method_3_code 7 = .ok (.iconst 0, 1) := by decide +kernel
theorem d_Ses_reportWord_8 : decode prog_7_method_3_code 8 = .ok (.ireturn, 1) := by decide +kernel
theorem d_Ses_reportWord_9 : decode prog_7_method_3_code 9 = .ok (.ldc 56, 2) := by decide +kernel
theorem d_Ses_reportWord_11 : decode prog_7_method_3_code 11 = .ok (.aload_n 0, 1) := by decide +kernel
theorem d_Ses_reportWord_12 : decode prog_7_method_3_code 12 = .ok (.getfield 35, 3) := by decide +kernel
theorem d_Ses_reportWord_15 : decode prog_7_method_3_code 15 = .ok (.ifCond .eq (9), 3) := by decide +kernel
theorem d_Ses_reportWord_18 : decode prog_7_method_3_code 18 = .ok (.sipush (8192), 3) := by decide +kernel
theorem d_Ses_reportWord_21 : decode prog_7_method_3_code 21 = .ok (.goto (4), 3) := by decide +kernel
theorem d_Ses_reportWord_24 : decode prog_7_method_3_code 24 = .ok (.iconst 0, 1) := by decide +kernel
theorem d_Ses_reportWord_25 : decode prog_7_method_3_code 25 = .ok (.ior, 1) := by decide +kernel
theorem d_Ses_reportWord_26 : decode prog_7_method_3_code 26 = .ok (.aload_n 0, 1) := by decide +kernel
theorem d_Ses_reportWord_27 : decode prog_7_method_3_code 27 = .ok (.getfield 28, 3) := by decide +kernel
theorem d_Ses_reportWord_30 : decode prog_7_method_3_code 30 = .ok (.bipush (12), 2) := by decide +kernel
theorem d_Ses_reportWord_32 : decode prog_7_method_3_code 32 = .ok (.ishl, 1) := by decide +kernel
theorem d_Ses_reportWord_33 : decode prog_7_method_3_code 33 = .ok (.ior, 1) := by decide +kernel
theorem d_Ses_reportWord_34 : decode prog_7_method_3_code 34 = .ok (.aload_n 0, 1) := by decide +kernel
theorem d_Ses_reportWord_35 : decode prog_7_method_3_code 35 = .ok (.getfield 38, 3) := by decide +kernel
theorem d_Ses_reportWord_38 : decode prog_7_method_3_code 38 = .ok (.bipush (8), 2) := by decide +kernel
theorem d_Ses_reportWord_40 : decode prog_7_method_3_code 40 = .ok (.ishl, 1) := by decide +kernel
theorem d_Ses_reportWord_41 : decode prog_7_method_3_code 41 = .ok (.ior, 1) := by decide +kernel
theorem d_Ses_reportWord_42 : decode prog_7_method_3_code 42 = .ok (.aload_n 0, 1) := by decide +kernel
theorem d_Ses_reportWord_43 : decode prog_7_method_3_code 43 = .ok (.getfield 32, 3) := by decide +kernel
theorem d_Ses_reportWord_46 : decode prog_7_method_3_code 46 = .ok (.ior, 1) := by decide +kernel
theorem d_Ses_reportWord_47 : decode prog_7_method_3_code 47 = .ok (.ireturn, 1) := by decide +kernel
theorem d_Ses_heed_0 : decode prog_7_method_4_code 0 = .ok (.aload_n 1, 1) := by decide +kernel
theorem d_Ses_heed_1 : decode prog_7_method_4_code 1 = .ok (.invokevirtual 57, 3) := by decide +kernel
theorem d_Ses_heed_4 : decode prog_7_method_4_code 4 = .ok (.bipush (77), 2) := by decide +kernel
theorem d_Ses_heed_6 : decode prog_7_method_4_code 6 = .ok (.if_icmp .eq (4), 3) := by decide +kernel
theorem d_Ses_heed_9 : decode prog_7_method_4_code 9 = .ok (.return_, 1) := by decide +kernel
theorem d_Ses_heed_10 : decode prog_7_method_4_code 10 = .ok (.aload_n 1, 1) := by decide +kernel
theorem d_Ses_heed_11 : decode prog_7_method_4_code 11 = .ok (.invokevirtual 63, 3) := by decide +kernel
theorem d_Ses_heed_14 : decode prog_7_method_4_code 14 = .ok (.ifCond .eq (11), 3) := by decide +kernel
theorem d_Ses_heed_17 : decode prog_7_method_4_code 17 = .ok (.aload_n 0, 1) := by decide +kernel
theorem d_Ses_heed_18 : decode prog_7_method_4_code 18 = .ok (.aload_n 1, 1) := by decide +kernel
theorem d_Ses_heed_19 : decode prog_7_method_4_code 19 = .ok (.invokevirtual 67, 3) := by decide +kernel
theorem d_Ses_heed_22 : decode prog_7_method_4_code 22 = .ok (.goto (52), 3) := by decide +kernel
theorem d_Ses_heed_25 : decode prog_7_method_4_code 25 = .ok (.aload_n 0, 1) := by decide +kernel
theorem d_Ses_heed_26 : decode prog_7_method_4_code 26 = .ok (.aload_n 1, 1) := by decide +kernel
theorem d_Ses_heed_27 : decode prog_7_method_4_code 27 = .ok (.invokevirtual 71, 3) := by decide +kernel
theorem d_Ses_heed_30 : decode prog_7_method_4_code 30 = .ok (.ifCond .eq (44), 3) := by decide +kernel
theorem d_Ses_heed_33 : decode prog_7_method_4_code 33 = .ok (.aload_n 0, 1) := by decide +kernel
theorem d_Ses_heed_34 : decode prog_7_method_4_code 34 = .ok (.aload_n 1, 1) := by decide +kernel
theorem d_Ses_heed_35 : decode prog_7_method_4_code 35 = .ok (.invokevirtual 75, 3) := by decide +kernel
theorem d_Ses_heed_38 : decode prog_7_method_4_code 38 = .ok (.aload_n 1, 1) := by decide +kernel
theorem d_Ses_heed_39 : decode prog_7_method_4_code 39 = .ok (.invokevirtual 78, 3) := by decide +kernel
theorem d_Ses_heed_42 : decode prog_7_method_4_code 42 = .ok (.ifCond .eq (13), 3) := by decide +kernel
theorem d_Ses_heed_45 : decode prog_7_method_4_code 45 = .ok (.aload_n 0, 1) := by decide +kernel
theorem d_Ses_heed_46 : decode prog_7_method_4_code 46 = .ok (.invokevirtual 81, 3) := by decide +kernel
theorem d_Ses_heed_49 : decode prog_7_method_4_code 49 = .ok (.ifCond .eq (25), 3) := by decide +kernel
theorem d_Ses_heed_52 : decode prog_7_method_4_code 52 = .ok (.goto (14), 3) := by decide +kernel
theorem d_Ses_heed_55 : decode prog_7_method_4_code 55 = .ok (.aload_n 0, 1) := by decide +kernel
theorem d_Ses_heed_56 : decode prog_7_method_4_code 56 = .ok (.aload_n 1, 1) := by decide +kernel
theorem d_Ses_heed_57 : decode prog_7_method_4_code 57 = .ok (.invokevirtual 84, 3) := by decide +kernel
theorem d_Ses_heed_60 : decode prog_7_method_4_code 60 = .ok (.invokevirtual 87, 3) := by decide +kernel
theorem d_Ses_heed_63 : decode prog_7_method_4_code 63 = .ok (.ifCond .eq (11), 3) := by decide +kernel
theorem d_Ses_heed_66 : decode prog_7_method_4_code 66 = .ok (.aload_n 0, 1) := by decide +kernel
theorem d_Ses_heed_67 : decode prog_7_method_4_code 67 = .ok (.invokevirtual 91, 3) := by decide +kernel
theorem d_Ses_heed_70 : decode prog_7_method_4_code 70 = .ok (.aload_n 0, 1) := by decide +kernel
theorem d_Ses_heed_71 : decode prog_7_method_4_code 71 = .ok (.invokevirtual 94, 3) := by decide +kernel
theorem d_Ses_heed_74 : decode prog_7_method_4_code 74 = .ok (.return_, 1) := by decide +kernel
theorem d_Ses_isOnFor_0 : decode prog_7_method_5_code 0 = .ok (.aload_n 0, 1) := by decide +kernel
theorem d_Ses_isOnFor_1 : decode prog_7_method_5_code 1 = .ok (.getfield 24, 3) := by decide +kernel
theorem d_Ses_isOnFor_4 : decode prog_7_method_5_code 4 = .ok (.ifCond .eq (18), 3) := by decide +kernel
theorem d_Ses_isOnFor_7 : decode prog_7_method_5_code 7 = .ok (.aload_n 1, 1) := by decide +kernel
theorem d_Ses_isOnFor_8 : decode prog_7_method_5_code 8 = .ok (.invokevirtual 97, 3) := by decide +kernel
theorem d_Ses_isOnFor_11 : decode prog_7_method_5_code 11 = .ok (.aload_n 0, 1) := by decide +kernel
theorem d_Ses_isOnFor_12 : decode prog_7_method_5_code 12 = .ok (.getfield 28, 3) := by decide +kernel
theorem d_Ses_isOnFor_15 : decode prog_7_method_5_code 15 = .ok (.if_icmp .ne (7), 3) := by decide +kernel
theorem d_Ses_isOnFor_18 : decode prog_7_method_5_code 18 = .ok (.iconst 1, 1) := by decide +kernel
theorem d_Ses_isOnFor_19 : decode prog_7_method_5_code 19 = .ok (.goto (4), 3) := by decide +kernel
theorem d_Ses_isOnFor_22 : decode prog_7_method_5_code 22 = .ok (.iconst 0, 1) := by decide +kernel
theorem d_Ses_isOnFor_23 : decode prog_7_method_5_code 23 = .ok (.ireturn, 1) := by decide +kernel
theorem d_Ses_obey_0 : decode prog_7_method_6_code 0 = .ok (.aload_n 1, 1) := by decide +kernel
theorem d_Ses_obey_1 : decode prog_7_method_6_code 1 = .ok (.invokevirtual 99, 3) := by decide +kernel
theorem d_Ses_obey_4 : decode prog_7_method_6_code 4 = .ok (.iconst 2, 1) := by decide +kernel
theorem d_Ses_obey_5 : decode prog_7_method_6_code 5 = .ok (.if_icmp .ge (4), 3) := by decide +kernel
theorem d_Ses_obey_8 : decode prog_7_method_6_code 8 = .ok (.return_, 1) := by decide +kernel
theorem d_Ses_obey_9 : decode prog_7_method_6_code 9 = .ok (.aload_n 1, 1) := by decide +kernel
theorem d_Ses_obey_10 : decode prog_7_method_6_code 10 = .ok (.iconst 0, 1) := by decide +kernel
theorem d_Ses_obey_11 : decode prog_7_method_6_code 11 = .ok (.invokevirtual 102, 3) := by decide +kernel
theorem d_Ses_obey_14 : decode prog_7_method_6_code 14 = .ok (.tableswitch (70) 1 3 #[26, 37, 45], 26) := by decide +kernel
theorem d_Ses_obey_40 : decode prog_7_method_6_code 40 = .ok (.aload_n 0, 1) := by decide +kernel
theorem d_Ses_obey_41 : decode prog_7_method_6_code 41 = .ok (.aload_n 1, 1) := by decide +kernel
theorem d_Ses_obey_42 : decode prog_7_method_6_code 42 = .ok (.invokevirtual 97, 3) := by decide +kernel
theorem d_Ses_obey_45 : decode prog_7_method_6_code 45 = .ok (.invokevirtual 106, 3) := by decide +kernel
theorem d_Ses_obey_48 : decode prog_7_method_6_code 48 = .ok (.goto (36), 3) := by decide +kernel
theorem d_Ses_obey_51 : decode prog_7_method_6_code 51 = .ok (.aload_n 0, 1) := by decide +kernel
theorem d_Ses_obey_52 : decode prog_7_method_6_code 52 = .ok (.iconst 0, 1) := by decide +kernel
theorem d_Ses_obey_53 : decode prog_7_method_6_code 53 = .ok (.putfield 24, 3) := by decide +kernel
theorem d_Ses_obey_56 : decode prog_7_method_6_code 56 = .ok (.goto (28), 3) := by decide +kernel
theorem d_Ses_obey_59 : decode prog_7_method_6_code 59 = .ok (.aload_n 0, 1) := by decide +kernel
theorem d_Ses_obey_60 : decode prog_7_method_6_code 60 = .ok (.aload_n 1, 1) := by decide +kernel
theorem d_Ses_obey_61 : decode prog_7_method_6_code 61 = .ok (.invokevirtual 71, 3) := by decide +kernel
theorem d_Ses_obey_64 : decode prog_7_method_6_code 64 = .ok (.ifCond .eq (20), 3) := by decide +kernel
theorem d_Ses_obey_67 : decode prog_7_method_6_code 67 = .ok (.aload_n 0, 1) := by decide +kernel
theorem d_Ses_obey_68 : decode prog_7_method_6_code 68 = .ok (.aload_n 1, 1) := by decide +kernel
theorem d_Ses_obey_69 : decode prog_7_method_6_code 69 = .ok (.iconst 1, 1) := by decide +kernel
theorem d_Ses_obey_70 : decode prog_7_method_6_code 70 = .ok (.invokevirtual 102, 3) := by decide +kernel
theorem d_Ses_obey_73 : decode prog_7_method_6_code 73 = .ok (.putfield 32, 3) := by decide +kernel
theorem d_Ses_obey_76 : decode prog_7_method_6_code 76 = .ok (.aload_n 0, 1) := by decide +kernel
theorem d_Ses_obey_77 : decode prog_7_method_6_code 77 = .ok (.iconst 0, 1) := by decide +kernel
theorem d_Ses_obey_78 : decode prog_7_method_6_code 78 = .ok (.putfield 35, 3) := by decide +kernel
theorem d_Ses_obey_81 : decode prog_7_method_6_code 81 = .ok (.goto (3), 3) := by decide +kernel
theorem d_Ses_obey_84 : decode prog_7_method_6_code 84 = .ok (.return_, 1) := by decide +kernel
theorem d_Ses_begin_0 : decode prog_7_method_7_code 0 = .ok (.aload_n 0, 1) := by decide +kernel
theorem d_Ses_begin_1 : decode prog_7_method_7_code 1 = .ok (.iconst 1, 1) := by decide +kernel
theorem d_Ses_begin_2 : decode prog_7_method_7_code 2 = .ok (.putfield 24, 3) := by decide +kernel
theorem d_Ses_begin_5 : decode prog_7_method_7_code 5 = .ok (.aload_n 0, 1) := by decide +kernel
theorem d_Ses_begin_6 : decode prog_7_method_7_code 6 = .ok (.iload_n 1, 1) := by decide +kernel
theorem d_Ses_begin_7 : decode prog_7_method_7_code 7 = .ok (.putfield 28, 3) := by decide +kernel
theorem d_Ses_begin_10 : decode prog_7_method_7_code 10 = .ok (.aload_n 0, 1) := by decide +kernel
theorem d_Ses_begin_11 : decode prog_7_method_7_code 11 = .ok (.iconst 0, 1) := by decide +kernel
theorem d_Ses_begin_12 : decode prog_7_method_7_code 12 = .ok (.putfield 32, 3) := by decide +kernel
theorem d_Ses_begin_15 : decode prog_7_method_7_code 15 = .ok (.aload_n 0, 1) := by decide +kernel
theorem d_Ses_begin_16 : decode prog_7_method_7_code 16 = .ok (.iconst 0, 1) := by decide +kernel
theorem d_Ses_begin_17 : decode prog_7_method_7_code 17 = .ok (.putfield 35, 3) := by decide +kernel
theorem d_Ses_begin_20 : decode prog_7_method_7_code 20 = .ok (.aload_n 0, 1) := by decide +kernel
theorem d_Ses_begin_21 : decode prog_7_method_7_code 21 = .ok (.iconst 0, 1) := by decide +kernel
theorem d_Ses_begin_22 : decode prog_7_method_7_code 22 = .ok (.putfield 38, 3) := by decide +kernel
theorem d_Ses_begin_25 : decode prog_7_method_7_code 25 = .ok (.aload_n 0, 1) := by decide +kernel
theorem d_Ses_begin_26 : decode prog_7_method_7_code 26 = .ok (.invokevirtual 53, 3) := by decide +kernel
theorem d_Ses_begin_29 : decode prog_7_method_7_code 29 = .ok (.return_, 1) := by decide +kernel
theorem d_Ses_forgetSegments_0 : decode prog_7_method_8_code 0 = .ok (.iconst 0, 1) := by decide +kernel
theorem d_Ses_forgetSegments_1 : decode prog_7_method_8_code 1 = .ok (.istore_n 1, 1) := by decide +kernel
theorem d_Ses_forgetSegments_2 : decode prog_7_method_8_code 2 = .ok (.iload_n 1, 1) := by decide +kernel
theorem d_Ses_forgetSegments_3 : decode prog_7_method_8_code 3 = .ok (.iconst 4, 1) := by decide +kernel
theorem d_Ses_forgetSegments_4 : decode prog_7_method_8_code 4 = .ok (.if_icmp .ge (18), 3) := by decide +kernel
theorem d_Ses_forgetSegments_7 : decode prog_7_method_8_code 7 = .ok (.aload_n 0, 1) := by decide +kernel
theorem d_Ses_forgetSegments_8 : decode prog_7_method_8_code 8 = .ok (.getfield 20, 3) := by decide +kernel
theorem d_Ses_forgetSegments_11 : decode prog_7_method_8_code 11 = .ok (.iload_n 1, 1) := by decide +kernel
theorem d_Ses_forgetSegments_12 : decode prog_7_method_8_code 12 = .ok (.aaload, 1) := by decide +kernel
theorem d_Ses_forgetSegments_13 : decode prog_7_method_8_code 13 = .ok (.invokevirtual 110, 3) := by decide +kernel
theorem d_Ses_forgetSegments_16 : decode prog_7_method_8_code 16 = .ok (.iinc 1 (1), 3) := by decide +kernel
theorem d_Ses_forgetSegments_19 : decode prog_7_method_8_code 19 = .ok (.goto (-17), 3) := by decide +kernel
theorem d_Ses_forgetSegments_22 : decode prog_7_method_8_code 22 = .ok (.return_, 1) := by decide +kernel
theorem d_Ses_admitExpedited_0 : decode prog_7_method_9_code 0 = .ok (.aload_n 0, 1) := by decide +kernel
theorem d_Ses_admitExpedited_1 : decode prog_7_method_9_code 1 = .ok (.aload_n 0, 1) := by decide +kernel
theorem d_Ses_admitExpedited_2 : decode prog_7_method_9_code 2 = .ok (.getfield 38, 3) := by decide +kernel
theorem d_Ses_admitExpedited_5 : decode prog_7_method_9_code 5 = .ok (.iconst 1, 1) := by decide +kernel
theorem d_Ses_admitExpedited_6 : decode prog_7_method_9_code 6 = .ok (.iadd, 1) := by decide +kernel
theorem d_Ses_admitExpedited_7 : decode prog_7_method_9_code 7 = .ok (.bipush (7), 2) := by decide +kernel
theorem d_Ses_admitExpedited_9 : decode prog_7_method_9_code 9 = .ok (.iand, 1) := by decide +kernel
theorem d_Ses_admitExpedited_10 : decode prog_7_method_9_code 10 = .ok (.putfield 38, 3) := by decide +kernel
theorem d_Ses_admitExpedited_13 : decode prog_7_method_9_code 13 = .ok (.iconst 1, 1) := by decide +kernel
theorem d_Ses_admitExpedited_14 : decode prog_7_method_9_code 14 = .ok (.ireturn, 1) := by decide +kernel
theorem d_Ses_admitSequenced_0 : decode prog_7_method_10_code 0 = .ok (.iload_n 1, 1) := by decide +kernel
theorem d_Ses_admitSequenced_1 : decode prog_7_method_10_code 1 = .ok (.aload_n 0, 1) := by decide +kernel
theorem d_Ses_admitSequenced_2 : decode prog_7_method_10_code 2 = .ok (.getfield 32, 3) := by decide +kernel
theorem d_Ses_admitSequenced_5 : decode prog_7_method_10_code 5 = .ok (.isub, 1) := by decide +kernel
theorem d_Ses_admitSequenced_6 : decode prog_7_method_10_code 6 = .ok (.sipush (255), 3) := by decide +kernel
theorem d_Ses_admitSequenced_9 : decode prog_7_method_10_code 9 = .ok (.iand, 1) := by decide +kernel
theorem d_Ses_admitSequenced_10 : decode prog_7_method_10_code 10 = .ok (.istore_n 2, 1) := by decide +kernel
theorem d_Ses_admitSequenced_11 : decode prog_7_method_10_code 11 = .ok (.iload_n 2, 1) := by decide +kernel
theorem d_Ses_admitSequenced_12 : decode prog_7_method_10_code 12 = .ok (.bipush (127), 2) := by decide +kernel
theorem d_Ses_admitSequenced_14 : decode prog_7_method_10_code 14 = .ok (.if_icmp .le (5), 3) := by decide +kernel
theorem d_Ses_admitSequenced_17 : decode prog_7_method_10_code 17 = .ok (.iconst 0, 1) := by decide +kernel
theorem d_Ses_admitSequenced_18 : decode prog_7_method_10_code 18 = .ok (.ireturn, 1) := by decide +kernel
theorem d_Ses_admitSequenced_19 : decode prog_7_method_10_code 19 = .ok (.iload_n 2, 1) := by decide +kernel
theorem d_Ses_admitSequenced_20 : decode prog_7_method_10_code 20 = .ok (.ifCond .ne (24), 3) := by decide +kernel
theorem d_Ses_admitSequenced_23 : decode prog_7_method_10_code 23 = .ok (.aload_n 0, 1) := by decide +kernel
theorem d_Ses_admitSequenced_24 : decode prog_7_method_10_code 24 = .ok (.getfield 48, 3) := by decide +kernel
theorem d_Ses_admitSequenced_27 : decode prog_7_method_10_code 27 = .ok (.aload_n 0, 1) := by decide +kernel
theorem d_Ses_admitSequenced_28 : decode prog_7_method_10_code 28 = .ok (.getfield 12, 3) := by decide +kernel
theorem d_Ses_admitSequenced_31 : decode prog_7_method_10_code 31 = .ok (.invokevirtual 113, 3) := by decide +kernel
theorem d_Ses_admitSequenced_34 : decode prog_7_method_10_code 34 = .ok (.invokevirtual 116, 3) := by decide +kernel
theorem d_Ses_admitSequenced_37 : decode prog_7_method_10_code 37 = .ok (.ifCond .eq (7), 3) := by decide +kernel
theorem d_Ses_admitSequenced_40 : decode prog_7_method_10_code 40 = .ok (.iconst 1, 1) := by decide +kernel
theorem d_Ses_admitSequenced_41 : decode prog_7_method_10_code 41 = .ok (.goto (4), 3) := by decide +kernel
theorem d_Ses_admitSequenced_44 : decode prog_7_method_10_code 44 = .ok (.iconst 0, 1) := by decide +kernel
theorem d_Ses_admitSequenced_45 : decode prog_7_method_10_code 45 = .ok (.istore_n 3, 1) := by decide +kernel
theorem d_Ses_admitSequenced_46 : decode prog_7_method_10_code 46 = .ok (.aload_n 0, 1) := by decide +kernel
theorem d_Ses_admitSequenced_47 : decode prog_7_method_10_code 47 = .ok (.iload_n 3, 1) := by decide +kernel
theorem d_Ses_admitSequenced_48 : decode prog_7_method_10_code 48 = .ok (.ifCond .ne (7), 3) := by decide +kernel
theorem d_Ses_admitSequenced_51 : decode prog_7_method_10_code 51 = .ok (.iconst 1, 1) := by decide +kernel
theorem d_Ses_admitSequenced_52 : decode prog_7_method_10_code 52 = .ok (.goto (4), 3) := by decide +kernel
theorem d_Ses_admitSequenced_55 : decode prog_7_method_10_code 55 = .ok (.iconst 0, 1) := by decide +kernel
theorem d_Ses_admitSequenced_56 : decode prog_7_method_10_code 56 = .ok (.putfield 35, 3) := by decide +kernel
theorem d_Ses_admitSequenced_59 : decode prog_7_method_10_code 59 = .ok (.iload_n 3, 1) := by decide +kernel
theorem d_Ses_admitSequenced_60 : decode prog_7_method_10_code 60 = .ok (.ifCond .eq (17), 3) := by decide +kernel
theorem d_Ses_admitSequenced_63 : decode prog_7_method_10_code 63 = .ok (.aload_n 0, 1) := by decide +kernel
theorem d_Ses_admitSequenced_64 : decode prog_7_method_10_code 64 = .ok (.aload_n 0, 1) := by decide +kernel
theorem d_Ses_admitSequenced_65 : decode prog_7_method_10_code 65 = .ok (.getfield 32, 3) := by decide +kernel
theorem d_Ses_admitSequenced_68 : decode prog_7_method_10_code 68 = .ok (.iconst 1, 1) := by decide +kernel
theorem d_Ses_admitSequenced_69 : decode prog_7_method_10_code 69 = .ok (.iadd, 1) := by decide +kernel
theorem d_Ses_admitSequenced_70 : decode prog_7_method_10_code 70 = .ok (.sipush (255), 3) := by decide +kernel
theorem d_Ses_admitSequenced_73 : decode prog_7_method_10_code 73 = .ok (.iand, 1) := by decide +kernel
theorem d_Ses_admitSequenced_74 : decode prog_7_method_10_code 74 = .ok (.putfield 32, 3) := by decide +kernel
theorem d_Ses_admitSequenced_77 : decode prog_7_method_10_code 77 = .ok (.iload_n 3, 1) := by decide +kernel
theorem d_Ses_admitSequenced_78 : decode prog_7_method_10_code 78 = .ok (.ireturn, 1) := by decide +kernel
theorem d_Ses_keepWhatFits_0 : decode prog_7_method_11_code 0 = .ok (.iconst 0, 1) := by decide +kernel
theorem d_Ses_keepWhatFits_1 : decode prog_7_method_11_code 1 = .ok (.istore_n 1, 1) := by decide +kernel
theorem d_Ses_keepWhatFits_2 : decode prog_7_method_11_code 2 = .ok (.iload_n 1, 1) := by decide +kernel
theorem d_Ses_keepWhatFits_3 : decode prog_7_method_11_code 3 = .ok (.aload_n 0, 1) := by decide +kernel
theorem d_Ses_keepWhatFits_4 : decode prog_7_method_11_code 4 = .ok (.getfield 12, 3) := by decide +kernel
theorem d_Ses_keepWhatFits_7 : decode prog_7_method_11_code 7 = .ok (.getfield 121, 3) := by decide +kernel
theorem d_Ses_keepWhatFits_10 : decode prog_7_method_11_code 10 = .ok (.if_icmp .ge (41), 3) := by decide +kernel
theorem d_Ses_keepWhatFits_13 : decode prog_7_method_11_code 13 = .ok (.aload_n 0, 1) := by decide +kernel
theorem d_Ses_keepWhatFits_14 : decode prog_7_method_11_code 14 = .ok (.getfield 48, 3) := by decide +kernel
theorem d_Ses_keepWhatFits_17 : decode prog_7_method_11_code 17 = .ok (.aload_n 0, 1) := by decide +kernel
theorem d_Ses_keepWhatFits_18 : decode prog_7_method_11_code 18 = .ok (.getfield 12, 3) := by decide +kernel
theorem d_Ses_keepWhatFits_21 : decode prog_7_method_11_code 21 = .ok (.getfield 124, 3) := by decide +kernel
theorem d_Ses_keepWhatFits_24 : decode prog_7_method_11_code 24 = .ok (.aload_n 0, 1) := by decide +kernel
theorem d_Ses_keepWhatFits_25 : decode prog_7_method_11_code 25 = .ok (.getfield 12, 3) := by decide +kernel
theorem d_Ses_keepWhatFits_28 : decode prog_7_method_11_code 28 = .ok (.getfield 128, 3) := by decide +kernel
theorem d_Ses_keepWhatFits_31 : decode prog_7_method_11_code 31 = .ok (.iload_n 1, 1) := by decide +kernel
theorem d_Ses_keepWhatFits_32 : decode prog_7_method_11_code 32 = .ok (.iaload, 1) := by decide +kernel
theorem d_Ses_keepWhatFits_33 : decode prog_7_method_11_code 33 = .ok (.aload_n 0, 1) := by decide +kernel
theorem d_Ses_keepWhatFits_34 : decode prog_7_method_11_code 34 = .ok (.getfield 12, 3) := by decide +kernel
theorem d_Ses_keepWhatFits_37 : decode prog_7_method_11_code 37 = .ok (.getfield 131, 3) := by decide +kernel
theorem d_Ses_keepWhatFits_40 : decode prog_7_method_11_code 40 = .ok (.iload_n 1, 1) := by decide +kernel
theorem d_Ses_keepWhatFits_41 : decode prog_7_method_11_code 41 = .ok (.iaload, 1) := by decide +kernel
theorem d_Ses_keepWhatFits_42 : decode prog_7_method_11_code 42 = .ok (.invokevirtual 134, 3) := by decide +kernel
theorem d_Ses_keepWhatFits_45 : decode prog_7_method_11_code 45 = .ok (.iinc 1 (1), 3) := by decide +kernel
theorem d_Ses_keepWhatFits_48 : decode prog_7_method_11_code 48 = .ok (.goto (-46), 3) := by decide +kernel
theorem d_Ses_keepWhatFits_51 : decode prog_7_method_11_code 51 = .ok (.return_, 1) := by decide +kernel
theorem d_Ses_gather_0 : decode prog_7_method_12_code 0 = .ok (.aload_n 0, 1) := by decide +kernel
theorem d_Ses_gather_1 : decode prog_7_method_12_code 1 = .ok (.getfield 12, 3) := by decide +kernel
theorem d_Ses_gather_4 : decode prog_7_method_12_code 4 = .ok (.invokevirtual 138, 3) := by decide +kernel
theorem d_Ses_gather_7 : decode prog_7_method_12_code 7 = .ok (.aload_n 0, 1) := by decide +kernel
theorem d_Ses_gather_8 : decode prog_7_method_12_code 8 = .ok (.aconst_null, 1) := by decide +kernel
theorem d_Ses_gather_9 : decode prog_7_method_12_code 9 = .ok (.putfield 41, 3) := by decide +kernel
theorem d_Ses_gather_12 : decode prog_7_method_12_code 12 = .ok (.aload_n 1, 1) := by decide +kernel
theorem d_Ses_gather_13 : decode prog_7_method_12_code 13 = .ok (.invokevirtual 141, 3) := by decide +kernel
theorem d_Ses_gather_16 : decode prog_7_method_12_code 16 = .ok (.ifCond .ne (19), 3) := by decide +kernel
theorem d_Ses_gather_19 : decode prog_7_method_12_code 19 = .ok (.aload_n 0, 1) := by decide +kernel
theorem d_Ses_gather_20 : decode prog_7_method_12_code 20 = .ok (.aload_n 1, 1) := by decide +kernel
theorem d_Ses_gather_21 : decode prog_7_method_12_code 21 = .ok (.iconst 0, 1) := by decide +kernel
theorem d_Ses_gather_22 : decode prog_7_method_12_code 22 = .ok (.invokevirtual 144, 3) := by decide +kernel
theorem d_Ses_gather_25 : decode prog_7_method_12_code 25 = .ok (.aload_n 0, 1) := by decide +kernel
theorem d_Ses_gather_26 : decode prog_7_method_12_code 26 = .ok (.getfield 12, 3) := by decide +kernel
theorem d_Ses_gather_29 : decode prog_7_method_12_code 29 = .ok (.invokevirtual 148, 3) := by decide +kernel
theorem d_Ses_gather_32 : decode prog_7_method_12_code 32 = .ok (.goto (23), 3) := by decide +kernel
theorem d_Ses_gather_35 : decode prog_7_method_12_code 35 = .ok (.aload_n 1, 1) := by decide +kernel
theorem d_Ses_gather_36 : decode prog_7_method_12_code 36 = .ok (.invokevirtual 141, 3) := by decide +kernel
theorem d_Ses_gather_39 : decode prog_7_method_12_code 39 = .ok (.iconst 1, 1) := by decide +kernel
theorem d_Ses_gather_40 : decode prog_7_method_12_code 40 = .ok (.if_icmp .ne (15), 3) := by decide +kernel
theorem d_Ses_gather_43 : decode prog_7_method_12_code 43 = .ok (.aload_n 1, 1) := by decide +kernel
theorem d_Ses_gather_44 : decode prog_7_method_12_code 44 = .ok (.invokevirtual 99, 3) := by decide +kernel
theorem d_Ses_gather_47 : decode prog_7_method_12_code 47 = .ok (.ifCond .le (8), 3) := by decide +kernel
theorem d_Ses_gather_50 : decode prog_7_method_12_code 50 = .ok (.aload_n 0, 1) := by decide +kernel
theorem d_Ses_gather_51 : decode prog_7_method_12_code 51 = .ok (.aload_n 1, 1) := by decide +kernel
theorem d_Ses_gather_52 : decode prog_7_method_12_code 52 = .ok (.invokevirtual 151, 3) := by decide +kernel
theorem d_Ses_gather_55 : decode prog_7_method_12_code 55 = .ok (.return_, 1) := by decide +kernel
theorem d_Ses_gatherSegment_0 : decode prog_7_method_13_code 0 = .ok (.aload_n 1, 1) := by decide +kernel
theorem d_Ses_gatherSegment_1 : decode prog_7_method_13_code 1 = .ok (.iconst 0, 1) := by decide +kernel
theorem d_Ses_gatherSegment_2 : decode prog_7_method_13_code 2 = .ok (.invokevirtual 102, 3) := by decide +kernel
theorem d_Ses_gatherSegment_5 : decode prog_7_method_13_code 5 = .ok (.bipush (64), 2) := by decide +kernel
theorem d_Ses_gatherSegment_7 : decode prog_7_method_13_code 7 = .ok (.iand, 1) := by decide +kernel
theorem d_Ses_gatherSegment_8 : decode prog_7_method_13_code 8 = .ok (.ifCond .eq (7), 3) := by decide +kernel
theorem d_Ses_gatherSegment_11 : decode prog_7_method_13_code 11 = .ok (.iconst 1, 1) := by decide +kernel
theorem d_Ses_gatherSegment_12 : decode prog_7_method_13_code 12 = .ok (.goto (4), 3) := by decide +kernel
theorem d_Ses_gatherSegment_15 : decode prog_7_method_13_code 15 = .ok (.iconst 0, 1) := by decide +kernel
theorem d_Ses_gatherSegment_16 : decode prog_7_method_13_code 16 = .ok (.istore_n 2, 1) := by decide +kernel
theorem d_Ses_gatherSegment_17 : decode prog_7_method_13_code 17 = .ok (.aload_n 1, 1) := by decide +kernel
theorem d_Ses_gatherSegment_18 : decode prog_7_method_13_code 18 = .ok (.iconst 0, 1) := by decide +kernel
theorem d_Ses_gatherSegment_19 : decode prog_7_method_13_code 19 = .ok (.invokevirtual 102, 3) := by decide +kernel
theorem d_Ses_gatherSegment_22 : decode prog_7_method_13_code 22 = .ok (.sipush (128), 3) := by decide +kernel
theorem d_Ses_gatherSegment_25 : decode prog_7_method_13_code 25 = .ok (.iand, 1) := by decide +kernel
theorem d_Ses_gatherSegment_26 : decode prog_7_method_13_code 26 = .ok (.ifCond .eq (7), 3) := by decide +kernel
theorem d_Ses_gatherSegment_29 : decode prog_7_method_13_code 29 = .ok (.iconst 1, 1) := by decide +kernel
theorem d_Ses_gatherSegment_30 : decode prog_7_method_13_code 30 = .ok (.goto (4), 3) := by decide +kernel
theorem d_Ses_gatherSegment_33 : decode prog_7_method_13_code 33 = .ok (.iconst 0, 1) := by decide +kernel
theorem d_Ses_gatherSegment_34 : decode prog_7_method_13_code 34 = .ok (.istore_n 3, 1) := by decide +kernel
theorem d_Ses_gatherSegment_35 : decode prog_7_method_13_code 35 = .ok (.aload_n 1, 1) := by decide +kernel
theorem d_Ses_gatherSegment_36 : decode prog_7_method_13_code 36 = .ok (.iconst 0, 1) := by decide +kernel
theorem d_Ses_gatherSegment_37 : decode prog_7_method_13_code 37 = .ok (.invokevirtual 102, 3) := by decide +kernel
theorem d_Ses_gatherSegment_40 : decode prog_7_method_13_code 40 = .ok (.bipush (63), 2) := by decide +kernel
theorem d_Ses_gatherSegment_42 : decode prog_7_method_13_code 42 = .ok (.iand, 1) := by decide +kernel
theorem d_Ses_gatherSegment_43 : decode prog_7_method_13_code 43 = .ok (.istore 4, 2) := by decide +kernel
theorem d_Ses_gatherSegment_45 : decode prog_7_method_13_code 45 = .ok (.iload 4, 2) := by decide +kernel
theorem d_Ses_gatherSegment_47 : decode prog_7_method_13_code 47 = .ok (.iconst 4, 1) := by decide +kernel
theorem d_Ses_gatherSegment_48 : decode prog_7_method_13_code 48 = .ok (.if_icmp .lt (4), 3) := by decide +kernel
theorem d_Ses_gatherSegment_51 : decode prog_7_method_13_code 51 = .ok (.return_, 1) := by decide +kernel
theorem d_Ses_gatherSegment_52 : decode prog_7_method_13_code 52 = .ok (.aload_n 0, 1) := by decide +kernel
theorem d_Ses_gatherSegment_53 : decode prog_7_method_13_code 53 = .ok (.aload_n 0, 1) := by decide +kernel
theorem d_Ses_gatherSegment_54 : decode prog_7_method_13_code 54 = .ok (.getfield 20, 3) := by decide +kernel
theorem d_Ses_gatherSegment_57 : decode prog_7_method_13_code 57 = .ok (.iload 4, 2) := by decide +kernel
theorem d_Ses_gatherSegment_59 : decode prog_7_method_13_code 59 = .ok (.aaload, 1) := by decide +kernel
theorem d_Ses_gatherSegment_60 : decode prog_7_method_13_code 60 = .ok (.putfield 41, 3) := by decide +kernel
theorem d_Ses_gatherSegment_63 : decode prog_7_method_13_code 63 = .ok (.aload_n 0, 1) := by decide +kernel
theorem d_Ses_gatherSegment_64 : decode prog_7_method_13_code 64 = .ok (.iconst 0, 1) := by decide +kernel
theorem d_Ses_gatherSegment_65 : decode prog_7_method_13_code 65 = .ok (.putfield 45, 3) := by decide +kernel
theorem d_Ses_gatherSegment_68 : decode prog_7_method_13_code 68 = .ok (.iload_n 2, 1) := by decide +kernel
theorem d_Ses_gatherSegment_69 : decode prog_7_method_13_code 69 = .ok (.ifCond .ne (71), 3) := by decide +kernel
theorem d_Ses_gatherSegment_72 : decode prog_7_method_13_code 72 = .ok (.aload_n 0, 1) := by decide +kernel
theorem d_Ses_gatherSegment_73 : decode prog_7_method_13_code 73 = .ok (.getfield 41, 3) := by decide +kernel
theorem d_Ses_gatherSegment_76 : decode prog_7_method_13_code 76 = .ok (.getfield 154, 3) := by decide +kernel
theorem d_Ses_gatherSegment_79 : decode prog_7_method_13_code 79 = .ok (.ifCond .eq (22), 3) := by decide +kernel
theorem d_Ses_gatherSegment_82 : decode prog_7_method_13_code 82 = .ok (.aload_n 0, 1) := by decide +kernel
theorem d_Ses_gatherSegment_83 : decode prog_7_method_13_code 83 = .ok (.getfield 41, 3) := by decide +kernel
theorem d_Ses_gatherSegment_86 : decode prog_7_method_13_code 86 = .ok (.getfield 157, 3) := by decide +kernel
theorem d_Ses_gatherSegment_89 : decode prog_7_method_13_code 89 = .ok (.aload_n 1, 1) := by decide +kernel
theorem d_Ses_gatherSegment_90 : decode prog_7_method_13_code 90 = .ok (.invokevirtual 99, 3) := by decide +kernel
theorem d_Ses_gatherSegment_93 : decode prog_7_method_13_code 93 = .ok (.iadd, 1) := by decide +kernel
theorem d_Ses_gatherSegment_94 : decode prog_7_method_13_code 94 = .ok (.iconst 1, 1) := by decide +kernel
theorem d_Ses_gatherSegment_95 : decode prog_7_method_13_code 95 = .ok (.isub, 1) := by decide +kernel
theorem d_Ses_gatherSegment_96 : decode prog_7_method_13_code 96 = .ok (.bipush (60), 2) := by decide +kernel
theorem d_Ses_gatherSegment_98 : decode prog_7_method_13_code 98 = .ok (.if_icmp .le (4), 3) := by decide +kernel
theorem d_Ses_gatherSegment_101 : decode prog_7_method_13_code 101 = .ok (.return_, 1) := by decide +kernel
theorem d_Ses_gatherSegment_102 : decode prog_7_method_13_code 102 = .ok (.iconst 0, 1) := by decide +kernel
theorem d_Ses_gatherSegment_103 : decode prog_7_method_13_code 103 = .ok (.istore 5, 2) := by decide +kernel
theorem d_Ses_gatherSegment_105 : decode prog_7_method_13_code 105 = .ok (.iload 5, 2) := by decide +kernel
theorem d_Ses_gatherSegment_107 : decode prog_7_method_13_code 107 = .ok (.aload_n 0, 1) := by decide +kernel
theorem d_Ses_gatherSegment_108 : decode prog_7_method_13_code 108 = .ok (.getfield 41, 3) := by decide +kernel
theorem d_Ses_gatherSegment_111 : decode prog_7_method_13_code 111 = .ok (.getfield 157, 3) := by decide +kernel
theorem d_Ses_gatherSegment_114 : decode prog_7_method_13_code 114 = .ok (.if_icmp .ge (26), 3) := by decide +kernel
theorem d_Ses_gatherSegment_117 : decode prog_7_method_13_code 117 = .ok (.aload_n 0, 1) := by decide +kernel
theorem d_Ses_gatherSegment_118 : decode prog_7_method_13_code 118 = .ok (.getfield 12, 3) := by decide +kernel
theorem d_Ses_gatherSegment_121 : decode prog_7_method_13_code 121 = .ok (.aload_n 0, 1) := by decide +kernel
theorem d_Ses_gatherSegment_122 : decode prog_7_method_13_code 122 = .ok (.getfield 41, 3) := by decide +kernel
theorem d_Ses_gatherSegment_125 : decode prog_7_method_13_code 125 = .ok (.getfield 162, 3) := by decide +kernel
theorem d_Ses_gatherSegment_128 : decode prog_7_method_13_code 128 = .ok (.iload 5, 2) := by decide +kernel
theorem d_Ses_gatherSegment_130 : decode prog_7_method_13_code 130 = .ok (.iaload, 1) := by decide +kernel
theorem d_Ses_gatherSegment_131 : decode prog_7_method_13_code 131 = .ok (.invokevirtual 165, 3) := by decide +kernel
theorem d_Ses_gatherSegment_134 : decode prog_7_method_13_code 134 = .ok (.iinc 5 (1), 3) := by decide +kernel
theorem d_Ses_gatherSegment_137 : decode prog_7_method_13_code 137 = .ok (.goto (-32), 3) := by decide +kernel
theorem d_Ses_gatherSegment_140 : decode prog_7_method_13_code 140 = .ok (.aload_n 0, 1) := by decide +kernel
theorem d_Ses_gatherSegment_141 : decode prog_7_method_13_code 141 = .ok (.aload_n 1, 1) := by decide +kernel
theorem d_Ses_gatherSegment_142 : decode prog_7_method_13_code 142 = .ok (.iconst 1, 1) := by decide +kernel
theorem d_Ses_gatherSegment_143 : decode prog_7_method_13_code 143 = .ok (.invokevirtual 144, 3) := by decide +kernel
theorem d_Ses_gatherSegment_146 : decode prog_7_method_13_code 146 = .ok (.aload_n 0, 1) := by decide +kernel
theorem d_Ses_gatherSegment_147 : decode prog_7_method_13_code 147 = .ok (.iload_n 3, 1) := by decide +kernel
theorem d_Ses_gatherSegment_148 : decode prog_7_method_13_code 148 = .ok (.ifCond .ne (7), 3) := by decide +kernel
theorem d_Ses_gatherSegment_151 : decode prog_7_method_13_code 151 = .ok (.iconst 1, 1) := by decide +kernel
theorem d_Ses_gatherSegment_152 : decode prog_7_method_13_code 152 = .ok (.goto (4), 3) := by decide +kernel
theorem d_Ses_gatherSegment_155 : decode prog_7_method_13_code 155 = .ok (.iconst 0, 1) := by decide +kernel
theorem d_Ses_gatherSegment_156 : decode prog_7_method_13_code 156 = .ok (.putfield 45, 3) := by decide +kernel
theorem d_Ses_gatherSegment_159 : decode prog_7_method_13_code 159 = .ok (.iload_n 3, 1) := by decide +kernel
theorem d_Ses_gatherSegment_160 : decode prog_7_method_13_code 160 = .ok (.ifCond .eq (10), 3) := by decide +kernel
theorem d_Ses_gatherSegment_163 : decode prog_7_method_13_code 163 = .ok (.aload_n 0, 1) := by decide +kernel
theorem d_Ses_gatherSegment_164 : decode prog_7_method_13_code 164 = .ok (.getfield 12, 3) := by decide +kernel
theorem d_Ses_gatherSegment_167 : decode prog_7_method_13_code 167 = .ok (.invokevirtual 168, 3) := by decide +kernel
theorem d_Ses_gatherSegment_170 : decode prog_7_method_13_code 170 = .ok (.return_, 1) := by decide +kernel
theorem d_Ses_appendData_0 : decode prog_7_method_14_code 0 = .ok (.iload_n 2, 1) := by decide +kernel
theorem d_Ses_appendData_1 : decode prog_7_method_14_code 1 = .ok (.istore_n 3, 1) := by decide +kernel
theorem d_Ses_appendData_2 : decode prog_7_method_14_code 2 = .ok (.iload_n 3, 1) := by decide +kernel
theorem d_Ses_appendData_3 : decode prog_7_method_14_code 3 = .ok (.aload_n 1, 1) := by decide +kernel
theorem d_Ses_appendData_4 : decode prog_7_method_14_code 4 = .ok (.invokevirtual 99, 3) := by decide +kernel
theorem d_Ses_appendData_7 : decode prog_7_method_14_code 7 = .ok (.if_icmp .ge (21), 3) := by decide +kernel
theorem d_Ses_appendData_10 : decode prog_7_method_14_code 10 = .ok (.aload_n 0, 1) := by decide +kernel
theorem d_Ses_appendData_11 : decode prog_7_method_14_code 11 = .ok (.getfield 12, 3) := by decide +kernel
theorem d_Ses_appendData_14 : decode prog_7_method_14_code 14 = .ok (.aload_n 1, 1) := by decide +kernel
theorem d_Ses_appendData_15 : decode prog_7_method_14_code 15 = .ok (.iload_n 3, 1) := by decide +kernel
theorem d_Ses_appendData_16 : decode prog_7_method_14_code 16 = .ok (.invokevirtual 102, 3) := by decide +kernel
theorem d_Ses_appendData_19 : decode prog_7_method_14_code 19 = .ok (.invokevirtual 165, 3) := by decide +kernel
theorem d_Ses_appendData_22 : decode prog_7_method_14_code 22 = .ok (.iinc 3 (1), 3) := by decide +kernel
theorem d_Ses_appendData_25 : decode prog_7_method_14_code 25 = .ok (.goto (-23), 3) := by decide +kernel
theorem d_Ses_appendData_28 : decode prog_7_method_14_code 28 = .ok (.return_, 1) := by decide +kernel
theorem d_Ses_settleStream_0 : decode prog_7_method_15_code 0 = .ok (.aload_n 0, 1) := by decide +kernel
theorem d_Ses_settleStream_1 : decode prog_7_method_15_code 1 = .ok (.getfield 41, 3) := by decide +kernel
theorem d_Ses_settleStream_4 : decode prog_7_method_15_code 4 = .ok (.ifnonnull (4), 3) := by decide +kernel
theorem d_Ses_settleStream_7 : decode prog_7_method_15_code 7 = .ok (.return_, 1) := by decide +kernel
theorem d_Ses_settleStream_8 : decode prog_7_method_15_code 8 = .ok (.aload_n 0, 1) := by decide +kernel
theorem d_Ses_settleStream_9 : decode prog_7_method_15_code 9 = .ok (.getfield 45, 3) := by decide +kernel
theorem d_Ses_settleStream_12 : decode prog_7_method_15_code 12 = .ok (.ifCond .eq (17), 3) := by decide +kernel
theorem d_Ses_settleStream_15 : decode prog_7_method_15_code 15 = .ok (.aload_n 0, 1) := by decide +kernel
theorem d_Ses_settleStream_16 : decode prog_7_method_15_code 16 = .ok (.getfield 41, 3) := by decide +kernel
theorem d_Ses_settleStream_19 : decode prog_7_method_15_code 19 = .ok (.aload_n 0, 1) := by decide +kernel
theorem d_Ses_settleStream_20 : decode prog_7_method_15_code 20 = .ok (.getfield 12, 3) := by decide +kernel
theorem d_Ses_settleStream_23 : decode prog_7_method_15_code 23 = .ok (.invokevirtual 171, 3) := by decide +kernel
theorem d_Ses_settleStream_26 : decode prog_7_method_15_code 26 = .ok (.goto (10), 3) := by decide +kernel
theorem d_Ses_settleStream_29 : decode prog_7_method_15_code 29 = .ok (.aload_n 0, 1) := by decide +kernel
theorem d_Ses_settleStream_30 : decode prog_7_method_15_code 30 = .ok (.getfield 41, 3) := by decide +kernel
theorem d_Ses_settleStream_33 : decode prog_7_method_15_code 33 = .ok (.invokevirtual 110, 3) := by decide +kernel
theorem d_Ses_settleStream_36 : decode prog_7_method_15_code 36 = .ok (.return_, 1) := by decide +kernel
end
section
theorem d_Sto_init_0 : decode prog_8_method_1_code 0 = .ok (.aload_n 0, 1) := by decide +kernel
theorem d_Sto_init_1 : decode prog_8_method_1_code 1 = .ok (.invokespecial 1, 3) := by decide +kernel
theorem d_Sto_init_4 : decode prog_8_method_1_code 4 = .ok (.aload_n 0, 1) := by decide +kernel
theorem d_Sto_init_5 : decode prog_8_method_1_code 5 = .ok (.sipush (480), 3) := by decide +kernel
theorem d_Sto_init_8 : decode prog_8_method_1_code 8 = .ok (.newarray .int, 2) := by decide +kernel
theorem d_Sto_init_10 : decode prog_8_method_1_code 10 = .ok (.putfield 9, 3) := by decide +kernel
theorem d_Sto_init_13 : decode prog_8_method_1_code 13 = .ok (.aload_n 0, 1) := by decide +kernel
theorem d_Sto_init_14 : decode prog_8_method_1_code 14 = .ok (.bipush (24), 2) := by decide +kernel
theorem d_Sto_init_16 : decode prog_8_method_1_code 16 = .ok (.newarray .boolean, 2) := by decide +kernel
theorem d_Sto_init_18 : decode prog_8_method_1_code 18 = .ok (.putfield 13, 3) := by decide +kernel
theorem d_Sto_init_21 : decode prog_8_method_1_code 21 = .ok (.aload_n 0, 1) := by decide +kernel
theorem d_Sto_init_22 : decode prog_8_method_1_code 22 = .ok (.bipush (24), 2) := by decide +kernel
theorem d_Sto_init_24 : decode prog_8_method_1_code 24 = .ok (.anewarray 17, 3) := by decide +kernel
theorem d_Sto_init_27 : decode prog_8_method_1_code 27 = .ok (.putfield 19, 3) := by decide +kernel
theorem d_Sto_init_30 : decode prog_8_method_1_code 30 = .ok (.aload_n 0, 1) := by decide +kernel
theorem d_Sto_init_31 : decode prog_8_method_1_code 31 = .ok (.iconst 0, 1) := by decide +kernel
theorem d_Sto_init_32 : decode prog_8_method_1_code 32 = .ok (.putfield 23, 3) := by decide +kernel
theorem d_Sto_init_35 : decode prog_8_method_1_code 35 = .ok (.aload_n 0, 1) := by decide +kernel
theorem d_Sto_init_36 : decode prog_8_method_1_code 36 = .ok (.bipush (24), 2) := by decide +kernel
theorem d_Sto_init_38 : decode prog_8_method_1_code 38 = .ok (.putfield 27, 3) := by decide +kernel
theorem d_Sto_init_41 : decode prog_8_method_1_code 41 = .ok (.aload_n 0, 1) := by decide +kernel
theorem d_Sto_init_42 : decode prog_8_method_1_code 42 = .ok (.iconst 0, 1) := by decide +kernel
theorem d_Sto_init_43 : decode prog_8_method_1_code 43 = .ok (.putfield 30, 3) := by decide +kernel
theorem d_Sto_init_46 : decode prog_8_method_1_code 46 = .ok (.aload_n 0, 1) := by decide +kernel
theorem d_Sto_init_47 : decode prog_8_method_1_code 47 = .ok (.iconst 0, 1) := by decide +kernel
theorem d_Sto_init_48 : decode prog_8_method_1_code 48 = .ok (.putfield 33, 3) := by decide +kernel
theorem d_Sto_init_51 : decode prog_8_method_1_code 51 = .ok (.aload_n 0, 1) := by decide +kernel
theorem d_Sto_init_52 : decode prog_8_method_1_code 52 = .ok (.iconst 0, 1) := by decide +kernel
theorem d_Sto_init_53 : decode prog_8_method_1_code 53 = .ok (.putfield 36, 3) := by decide +kernel
theorem d_Sto_init_56 : decode prog_8_method_1_code 56 = .ok (.aload_n 0, 1) := by decide +kernel
theorem d_Sto_init_57 : decode prog_8_method_1_code 57 = .ok (.iconst 0, 1) := by decide +kernel
theorem d_Sto_init_58 : decode prog_8_method_1_code 58 = .ok (.putfield 39, 3) := by decide +kernel
theorem d_Sto_init_61 : decode prog_8_method_1_code 61 = .ok (.aload_n 0, 1) := by decide +kernel
theorem d_Sto_init_62 : decode prog_8_method_1_code 62 = .ok (.iconst 0, 1) := by decide +kernel
theorem d_Sto_init_63 : decode prog_8_method_1_code 63 = .ok (.putfield 42, 3) := by decide +kernel
theorem d_Sto_init_66 : decode prog_8_method_1_code 66 = .ok (.iconst 0, 1) := by decide +kernel
theorem d_Sto_init_67 : decode prog_8_method_1_code 67 = .ok (.istore_n 1, 1) := by decide +kernel
theorem d_Sto_init_68 : decode prog_8_method_1_code 68 = .ok (.iload_n 1, 1) := by decide +kernel
theorem d_Sto_init_69 : decode prog_8_method_1_code 69 = .ok (.bipush (24), 2) := by decide +kernel
theorem d_Sto_init_71 : decode prog_8_method_1_code 71 = .ok (.if_icmp .ge (22), 3) := by decide +kernel
theorem d_Sto_init_74 : decode prog_8_method_1_code 74 = .ok (.aload_n 0, 1) := by decide +kernel
theorem d_Sto_init_75 : decode prog_8_method_1_code 75 = .ok (.getfield 19, 3) := by decide +kernel
theorem d_Sto_init_78 : decode prog_8_method_1_code 78 = .ok (.iload_n 1, 1) := by decide +kernel
theorem d_Sto_init_79 : decode prog_8_method_1_code 79 = .ok (.new 17, 3) := by decide +kernel
theorem d_Sto_init_82 : decode prog_8_method_1_code 82 = .ok (.dup, 1) := by decide +kernel
theorem d_Sto_init_83 : decode prog_8_method_1_code 83 = .ok (.invokespecial 46, 3) := by decide +kernel
theorem d_Sto_init_86 : decode prog_8_method_1_code 86 = .ok (.aastore, 1) := by decide +kernel
theorem d_Sto_init_87 : decode prog_8_method_1_code 87 = .ok (.iinc 1 (1), 3) := by decide +kernel
theorem d_Sto_init_90 : decode prog_8_method_1_code 90 = .ok (.goto (-22), 3) := by decide +kernel
theorem d_Sto_init_93 : decode prog_8_method_1_code 93 = .ok (.return_, 1) := by decide +kernel
theorem d_Sto_blocksFor_0 : decode prog_8_method_2_code 0 = .ok (.iload_n 0, 1) := by decide +kernel
theorem d_Sto_blocksFor_1 : decode prog_8_method_2_code 1 = .ok (.bipush (20), 2) := by decide +kernel
theorem d_Sto_blocksFor_3 : decode prog_8_method_2_code 3 = .ok (.iadd, 1) := by decide +kernel
theorem d_Sto_blocksFor_4 : decode prog_8_method_2_code 4 = .ok (.iconst 1, 1) := by decide +kernel
theorem d_Sto_blocksFor_5 : decode prog_8_method_2_code 5 = .ok (.isub, 1) := by decide +kernel
theorem d_Sto_blocksFor_6 : decode prog_8_method_2_code 6 = .ok (.bipush (20), 2) := by decide +kernel
theorem d_Sto_blocksFor_8 : decode prog_8_method_2_code 8 = .ok (.idiv, 1) := by decide +kernel
theorem d_Sto_blocksFor_9 : decode prog_8_method_2_code 9 = .ok (.ireturn, 1) := by decide +kernel
theorem d_Sto_hasRoom_0 : decode prog_8_method_3_code 0 = .ok (.iload_n 1, 1) := by decide +kernel
theorem d_Sto_hasRoom_1 : decode prog_8_method_3_code 1 = .ok (.aload_n 0, 1) := by decide +kernel
theorem d_Sto_hasRoom_2 : decode prog_8_method_3_code 2 = .ok (.getfield 27, 3) := by decide +kernel
theorem d_Sto_hasRoom_5 : decode prog_8_method_3_code 5 = .ok (.if_icmp .gt (7), 3) := by decide +kernel
theorem d_Sto_hasRoom_8 : decode prog_8_method_3_code 8 = .ok (.iconst 1, 1) := by decide +kernel
theorem d_Sto_hasRoom_9 : decode prog_8_method_3_code 9 = .ok (.goto (4), 3) := by decide +kernel
theorem d_Sto_hasRoom_12 : decode prog_8_method_3_code 12 = .ok (.iconst 0, 1) := by decide +kernel
theorem d_Sto_hasRoom_13 : decode prog_8_method_3_code 13 = .ok (.ireturn, 1) := by decide +kernel
theorem d_Sto_has_0 : decode prog_8_method_4_code 0 = .ok (.iload_n 1, 1) := by decide +kernel
theorem d_Sto_has_1 : decode prog_8_method_4_code 1 = .ok (.ifCond .lt (15), 3) := by decide +kernel
theorem d_Sto_has_4 : decode prog_8_method_4_code 4 = .ok (.iload_n 1, 1) := by decide +kernel
theorem d_Sto_has_5 : decode prog_8_method_4_code 5 = .ok (.aload_n 0, 1) := by decide +kernel
theorem d_Sto_has_6 : decode prog_8_method_4_code 6 = .ok (.getfield 23, 3) := by decide +kernel
theorem d_Sto_has_9 : decode prog_8_method_4_code 9 = .ok (.if_icmp .ge (7), 3) := by decide +kernel
theorem d_Sto_has_12 : decode prog_8_method_4_code 12 = .ok (.iconst 1, 1) := by decide +kernel
theorem d_Sto_has_13 : decode prog_8_method_4_code 13 = .ok (.goto (4), 3) := by decide +kernel
theorem d_Sto_has_16 : decode prog_8_method_4_code 16 = .ok (.iconst 0, 1) := by decide +kernel
theorem d_Sto_has_17 : decode prog_8_method_4_code 17 = .ok (.ireturn, 1) := by decide +kernel
theorem d_Sto_byteOf_0 : decode prog_8_method_5_code 0 = .ok (.aload_n 0, 1) := by decide +kernel
theorem d_Sto_byteOf_1 : decode prog_8_method_5_code 1 = .ok (.getfield 9, 3) := by decide +kernel
theorem d_Sto_byteOf_4 : decode prog_8_method_5_code 4 = .ok (.aload_n 1, 1) := by decide +kernel
theorem d_Sto_byteOf_5 : decode prog_8_method_5_code 5 = .ok (.getfield 47, 3) := by decide +kernel
theorem d_Sto_byteOf_8 : decode prog_8_method_5_code 8 = .ok (.iload_n 2, 1) := by decide +kernel
theorem d_Sto_byteOf_9 : decode prog_8_method_5_code 9 = .ok (.bipush (20), 2) := by decide +kernel
theorem d_Sto_byteOf_11 : decode prog_8_method_5_code 11 = .ok (.idiv, 1) := by decide +kernel
theorem d_Sto_byteOf_12 : decode prog_8_method_5_code 12 = .ok (.iaload, 1) := by decide +kernel
theorem d_Sto_byteOf_13 : decode prog_8_method_5_code 13 = .ok (.bipush (20), 2) := by decide +kernel
theorem d_Sto_byteOf_15 : decode prog_8_method_5_code 15 = .ok (.imul, 1) := by decide +kernel
theorem d_Sto_byteOf_16 : decode prog_8_method_5_code 16 = .ok (.iload_n 2, 1) := by decide +kernel
theorem d_Sto_byteOf_17 : decode prog_8_method_5_code 17 = .ok (.bipush (20), 2) := by decide +kernel
theorem d_Sto_byteOf_19 : decode prog_8_method_5_code 19 = .ok (.irem, 1) := by decide +kernel
theorem d_Sto_byteOf_20 : decode prog_8_method_5_code 20 = .ok (.iadd, 1) := by decide +kernel
theorem d_Sto_byteOf_21 : decode prog_8_method_5_code 21 = .ok (.iaload, 1) := by decide +kernel
theorem d_Sto_byteOf_22 : decode prog_8_method_5_code 22 = .ok (.ireturn, 1) := by decide +kernel
theorem d_Sto_restart_0 : decode prog_8_method_6_code 0 = .ok (.aload_n 0, 1) := by decide +kernel
theorem d_Sto_restart_1 : decode prog_8_method_6_code 1 = .ok (.iconst 0, 1) := by decide +kernel
theorem d_Sto_restart_2 : decode prog_8_method_6_code 2 = .ok (.putfield 42, 3) := by decide +kernel
theorem d_Sto_restart_5 : decode prog_8_method_6_code 5 = .ok (.aload_n 0, 1) := by decide +kernel
theorem d_Sto_restart_6 : decode prog_8_method_6_code 6 = .ok (.iconst 0, 1) := by decide +kernel
theorem d_Sto_restart_7 : decode prog_8_method_6_code 7 = .ok (.putfield 39, 3) := by decide +kernel
theorem d_Sto_restart_10 : decode prog_8_method_6_code 10 = .ok (.iconst 0, 1) := by decide +kernel
theorem d_Sto_restart_11 : decode prog_8_method_6_code 11 = .ok (.istore_n 1, 1) := by decide +kernel
theorem d_Sto_restart_12 : decode prog_8_method_6_code 12 = .ok (.iload_n 1, 1) := by decide +kernel
theorem d_Sto_restart_13 : decode prog_8_method_6_code 13 = .ok (.aload_n 0, 1) := by decide +kernel
theorem d_Sto_restart_14 : decode prog_8_method_6_code 14 = .ok (.getfield 23, 3) := by decide +kernel
theorem d_Sto_restart_17 : decode prog_8_method_6_code 17 = .ok (.if_icmp .ge (19), 3) := by decide +kernel
theorem d_Sto_restart_20 : decode prog_8_method_6_code 20 = .ok (.aload_n 0, 1) := by decide +kernel
theorem d_Sto_restart_21 : decode prog_8_method_6_code 21 = .ok (.getfield 19, 3) := by decide +kernel
theorem d_Sto_restart_24 : decode prog_8_method_6_code 24 = .ok (.iload_n 1, 1) := by decide +kernel
theorem d_Sto_restart_25 : decode prog_8_method_6_code 25 = .ok (.aaload, 1) := by decide +kernel
theorem d_Sto_restart_26 : decode prog_8_method_6_code 26 = .ok (.iconst 0, 1) := by decide +kernel
theorem d_Sto_restart_27 : decode prog_8_method_6_code 27 = .ok (.putfield 50, 3) := by decide +kernel
theorem d_Sto_restart_30 : decode prog_8_method_6_code 30 = .ok (.iinc 1 (1), 3) := by decide +kernel
theorem d_Sto_restart_33 : decode prog_8_method_6_code 33 = .ok (.goto (-21), 3) := by decide +kernel
theorem d_Sto_restart_36 : decode prog_8_method_6_code 36 = .ok (.return_, 1) := by decide +kernel
theorem d_Sto_add_0 : decode prog_8_method_7_code 0 = .ok (.aload_n 0, 1) := by decide +kernel
theorem d_Sto_add_1 : decode prog_8_method_7_code 1 = .ok (.getfield 42, 3) := by decide +kernel
theorem d_Sto_add_4 : decode prog_8_method_7_code 4 = .ok (.ifCond .ne (23), 3) := by decide +kernel
theorem d_Sto_add_7 : decode prog_8_method_7_code 7 = .ok (.aload_n 0, 1) := by decide +kernel
theorem d_Sto_add_8 : decode prog_8_method_7_code 8 = .ok (.getfield 23, 3) := by decide +kernel
theorem d_Sto_add_11 : decode prog_8_method_7_code 11 = .ok (.bipush (24), 2) := by decide +kernel
theorem d_Sto_add_13 : decode prog_8_method_7_code 13 = .ok (.if_icmp .ge (14), 3) := by decide +kernel
theorem d_Sto_add_16 : decode prog_8_method_7_code 16 = .ok (.aload_n 0, 1) := by decide +kernel
theorem d_Sto_add_17 : decode prog_8_method_7_code 17 = .ok (.iload_n 3, 1) := by decide +kernel
theorem d_Sto_add_18 : decode prog_8_method_7_code 18 = .ok (.invokestatic 53, 3) := by decide +kernel
theorem d_Sto_add_21 : decode prog_8_method_7_code 21 = .ok (.invokevirtual 57, 3) := by decide +kernel
theorem d_Sto_add_24 : decode prog_8_method_7_code 24 = .ok (.ifCond .ne (4), 3) := by decide +kernel
theorem d_Sto_add_27 : decode prog_8_method_7_code 27 = .ok (.return_, 1) := by decide +kernel
theorem d_Sto_add_28 : decode prog_8_method_7_code 28 = .ok (.aload_n 0, 1) := by decide +kernel
theorem d_Sto_add_29 : decode prog_8_method_7_code 29 = .ok (.getfield 19, 3) := by decide +kernel
theorem d_Sto_add_32 : decode prog_8_method_7_code 32 = .ok (.aload_n 0, 1) := by decide +kernel
theorem d_Sto_add_33 : decode prog_8_method_7_code 33 = .ok (.getfield 23, 3) := by decide +kernel
theorem d_Sto_add_36 : decode prog_8_method_7_code 36 = .ok (.aaload, 1) := by decide +kernel
theorem d_Sto_add_37 : decode prog_8_method_7_code 37 = .ok (.astore 4, 2) := by decide +kernel
theorem d_Sto_add_39 : decode prog_8_method_7_code 39 = .ok (.aload 4, 2) := by decide +kernel
theorem d_Sto_add_41 : decode prog_8_method_7_code 41 = .ok (.iload_n 3, 1) := by decide +kernel
theorem d_Sto_add_42 : decode prog_8_method_7_code 42 = .ok (.putfield 61, 3) := by decide +kernel
theorem d_Sto_add_45 : decode prog_8_method_7_code 45 = .ok (.aload 4, 2) := by decide +kernel
theorem d_Sto_add_47 : decode prog_8_method_7_code 47 = .ok (.aload_n 1, 1) := by decide +kernel
theorem d_Sto_add_48 : decode prog_8_method_7_code 48 = .ok (.iload_n 2, 1) := by decide +kernel
theorem d_Sto_add_49 : decode prog_8_method_7_code 49 = .ok (.iaload, 1) := by decide +kernel
theorem d_Sto_add_50 : decode prog_8_method_7_code 50 = .ok (.bipush (7), 2) := by decide +kernel
theorem d_Sto_add_52 : decode prog_8_method_7_code 52 = .ok (.iand, 1) := by decide +kernel
theorem d_Sto_add_53 : decode prog_8_method_7_code 53 = .ok (.sipush (256), 3) := by decide +kernel
theorem d_Sto_add_56 : decode prog_8_method_7_code 56 = .ok (.imul, 1) := by decide +kernel
theorem d_Sto_add_57 : decode prog_8_method_7_code 57 = .ok (.aload_n 1, 1) := by decide +kernel
theorem d_Sto_add_58 : decode prog_8_method_7_code 58 = .ok (.iload_n 2, 1) := by decide +kernel
theorem d_Sto_add_59 : decode prog_8_method_7_code 59 = .ok (.iconst 1, 1) := by decide +kernel
theorem d_Sto_add_60 : decode prog_8_method_7_code 60 = .ok (.iadd, 1) := by decide +kernel
theorem d_Sto_add_61 : decode prog_8_method_7_code 61 = .ok (.iaload, 1) := by decide +kernel
theorem d_Sto_add_62 : decode prog_8_method_7_code 62 = .ok (.iadd, 1) := by decide +kernel
theorem d_Sto_add_63 : decode prog_8_method_7_code 63 = .ok (.putfield 64, 3) := by decide +kernel
theorem d_Sto_add_66 : decode prog_8_method_7_code 66 = .ok (.aload 4, 2) := by decide +kernel
theorem d_Sto_add_68 : decode prog_8_method_7_code 68 = .ok (.iconst 0, 1) := by decide +kernel
theorem d_Sto_add_69 : decode prog_8_method_7_code 69 = .ok (.putfield 50, 3) := by decide +kernel
theorem d_Sto_add_72 : decode prog_8_method_7_code 72 = .ok (.aload_n 0, 1) := by decide +kernel
theorem d_Sto_add_73 : decode prog_8_method_7_code 73 = .ok (.aload 4, 2) := by decide +kernel
theorem d_Sto_add_75 : decode prog_8_method_7_code 75 = .ok (.aload_n 1, 1) := by decide +kernel
theorem d_Sto_add_76 : decode prog_8_method_7_code 76 = .ok (.iload_n 2, 1) := by decide +kernel
theorem d_Sto_add_77 : decode prog_8_method_7_code 77 = .ok (.invokevirtual 67, 3) := by decide +kernel
theorem d_Sto_add_80 : decode prog_8_method_7_code 80 = .ok (.aload_n 0, 1) := by decide +kernel
theorem d_Sto_add_81 : decode prog_8_method_7_code 81 = .ok (.invokevirtual 71, 3) := by decide +kernel
theorem d_Sto_add_84 : decode prog_8_method_7_code 84 = .ok (.aload_n 0, 1) := by decide +kernel
theorem d_Sto_add_85 : decode prog_8_method_7_code 85 = .ok (.aload 4, 2) := by decide +kernel
theorem d_Sto_add_87 : decode prog_8_method_7_code 87 = .ok (.invokevirtual 74, 3) := by decide +kernel
theorem d_Sto_add_90 : decode prog_8_method_7_code 90 = .ok (.return_, 1) := by decide +kernel
theorem d_Sto_dropEmitted_0 : decode prog_8_method_8_code 0 = .ok (.iconst 0, 1) := by decide +kernel
theorem d_Sto_dropEmitted_1 : decode prog_8_method_8_code 1 = .ok (.istore_n 1, 1) := by decide +kernel
theorem d_Sto_dropEmitted_2 : decode prog_8_method_8_code 2 = .ok (.aload_n 0, 1) := by decide +kernel
theorem d_Sto_dropEmitted_3 : decode prog_8_method_8_code 3 = .ok (.getfield 23, 3) := by decide +kernel
theorem d_Sto_dropEmitted_6 : decode prog_8_method_8_code 6 = .ok (.istore_n 2, 1) := by decide +kernel
theorem d_Sto_dropEmitted_7 : decode prog_8_method_8_code 7 = .ok (.iload_n 2, 1) := by decide +kernel
theorem d_Sto_dropEmitted_8 : decode prog_8_method_8_code 8 = .ok (.ifCond .le (52), 3) := by decide +kernel
theorem d_Sto_dropEmitted_11 : decode prog_8_method_8_code 11 = .ok (.aload_n 0, 1) := by decide +kernel
theorem d_Sto_dropEmitted_12 : decode prog_8_method_8_code 12 = .ok (.getfield 42, 3) := by decide +kernel
theorem d_Sto_dropEmitted_15 : decode prog_8_method_8_code 15 = .ok (.ifCond .ne (45), 3) := by decide +kernel
theorem d_Sto_dropEmitted_18 : decode prog_8_method_8_code 18 = .ok (.aload_n 0, 1) := by decide +kernel
theorem d_Sto_dropEmitted_19 : decode prog_8_method_8_code 19 = .ok (.getfield 19, 3) := by decide +kernel
theorem d_Sto_dropEmitted_22 : decode prog_8_method_8_code 22 = .ok (.iload_n 1, 1) := by decide +kernel
theorem d_Sto_dropEmitted_23 : decode prog_8_method_8_code 23 = .ok (.aaload, 1) := by decide +kernel
theorem d_Sto_dropEmitted_24 : decode prog_8_method_8_code 24 = .ok (.getfield 50, 3) := by decide +kernel
theorem d_Sto_dropEmitted_27 : decode prog_8_method_8_code 27 = .ok (.aload_n 0, 1) := by decide +kernel
theorem d_Sto_dropEmitted_28 : decode prog_8_method_8_code 28 = .ok (.getfield 19, 3) := by decide +kernel
theorem d_Sto_dropEmitted_31 : decode prog_8_method_8_code 31 = .ok (.iload_n 1, 1) := by decide +kernel
theorem d_Sto_dropEmitted_32 : decode prog_8_method_8_code 32 = .ok (.aaload, 1) := by decide +kernel
theorem d_Sto_dropEmitted_33 : decode prog_8_method_8_code 33 = .ok (.getfield 61, 3) := by decide +kernel
theorem d_Sto_dropEmitted_36 : decode prog_8_method_8_code 36 = .ok (.if_icmp .ne (15), 3) := by decide +kernel
theorem d_Sto_dropEmitted_39 : decode prog_8_method_8_code 39 = .ok (.aload_n 0, 1) := by decide +kernel
theorem d_Sto_dropEmitted_40 : decode prog_8_method_8_code 40 = .ok (.invokevirtual 71, 3) := by decide +kernel
theorem d_Sto_dropEmitted_43 : decode prog_8_method_8_code 43 = .ok (.aload_n 0, 1) := by decide +kernel
theorem d_Sto_dropEmitted_44 : decode prog_8_method_8_code 44 = .ok (.iload_n 1, 1) := by decide +kernel
theorem d_Sto_dropEmitted_45 : decode prog_8_method_8_code 45 = .ok (.invokevirtual 78, 3) := by decide +kernel
theorem d_Sto_dropEmitted_48 : decode prog_8_method_8_code 48 = .ok (.goto (6), 3) := by decide +kernel
theorem d_Sto_dropEmitted_51 : decode prog_8_method_8_code 51 = .ok (.iinc 1 (1), 3) := by decide +kernel
theorem d_Sto_dropEmitted_54 : decode prog_8_method_8_code 54 = .ok (.iinc 2 (-1), 3) := by decide +kernel
theorem d_Sto_dropEmitted_57 : decode prog_8_method_8_code 57 = .ok (.goto (-50), 3) := by decide +kernel
theorem d_Sto_dropEmitted_60 : decode prog_8_method_8_code 60 = .ok (.return_, 1) := by decide +kernel
theorem d_Sto_writeBlocks_0 : decode prog_8_method_9_code 0 = .ok (.iconst 0, 1) := by decide +kernel
theorem d_Sto_writeBlocks_1 : decode prog_8_method_9_code 1 = .ok (.istore 4, 2) := by decide +kernel
theorem d_Sto_writeBlocks_3 : decode prog_8_method_9_code 3 = .ok (.iconst 0, 1) := by decide +kernel
theorem d_Sto_writeBlocks_4 : decode prog_8_method_9_code 4 = .ok (.istore 5, 2) := by decide +kernel
theorem d_Sto_writeBlocks_6 : decode prog_8_method_9_code 6 = .ok (.iload 5, 2) := by decide +kernel
theorem d_Sto_writeBlocks_8 : decode prog_8_method_9_code 8 = .ok (.bipush (24), 2) := by decide +kernel
theorem d_Sto_writeBlocks_10 : decode prog_8_method_9_code 10 = .ok (.if_icmp .ge (87), 3) := by decide +kernel
theorem d_Sto_writeBlocks_13 : decode prog_8_method_9_code 13 = .ok (.iload 4, 2) := by decide +kernel
theorem d_Sto_writeBlocks_15 : decode prog_8_method_9_code 15 = .ok (.aload_n 1, 1) := by decide +kernel
theorem d_Sto_writeBlocks_16 : decode prog_8_method_9_code 16 = .ok (.getfield 61, 3) := by decide +kernel
theorem d_Sto_writeBlocks_19 : decode prog_8_method_9_code 19 = .ok (.if_icmp .ge (78), 3) := by decide +kernel
theorem d_Sto_writeBlocks_22 : decode prog_8_method_9_code 22 = .ok (.aload_n 0, 1) := by decide +kernel
theorem d_Sto_writeBlocks_23 : decode prog_8_method_9_code 23 = .ok (.getfield 42, 3) := by decide +kernel
theorem d_Sto_writeBlocks_26 : decode prog_8_method_9_code 26 = .ok (.ifCond .ne (71), 3) := by decide +kernel
theorem d_Sto_writeBlocks_29 : decode prog_8_method_9_code 29 = .ok (.aload_n 0, 1) := by decide +kernel
theorem d_Sto_writeBlocks_30 : decode prog_8_method_9_code 30 = .ok (.getfield 13, 3) := by decide +kernel
theorem d_Sto_writeBlocks_33 : decode prog_8_method_9_code 33 = .ok (.iload 5, 2) := by decide +kernel
theorem d_Sto_writeBlocks_35 : decode prog_8_method_9_code 35 = .ok (.baload, 1) := by decide +kernel
theorem d_Sto_writeBlocks_36 : decode prog_8_method_9_code 36 = .ok (.ifCond .ne (55), 3) := by decide +kernel
theorem d_Sto_writeBlocks_39 : decode prog_8_method_9_code 39 = .ok (.bipush (20), 2) := by decide +kernel
theorem d_Sto_writeBlocks_41 : decode prog_8_method_9_code 41 = .ok (.aload_n 1, 1) := by decide +kernel
theorem d_Sto_writeBlocks_42 : decode prog_8_method_9_code 42 = .ok (.getfield 61, 3) := by decide +kernel
theorem d_Sto_writeBlocks_45 : decode prog_8_method_9_code 45 = .ok (.iload 4, 2) := by decide +kernel
theorem d_Sto_writeBlocks_47 : decode prog_8_method_9_code 47 = .ok (.isub, 1) := by decide +kernel
theorem d_Sto_writeBlocks_48 : decode prog_8_method_9_code 48 = .ok (.invokestatic 82, 3) := by decide +kernel
theorem d_Sto_writeBlocks_51 : decode prog_8_method_9_code 51 = .ok (.istore 6, 2) := by decide +kernel
theorem d_Sto_writeBlocks_53 : decode prog_8_method_9_code 53 = .ok (.aload_n 2, 1) := by decide +kernel
theorem d_Sto_writeBlocks_54 : decode prog_8_method_9_code 54 = .ok (.iload_n 3, 1) := by decide +kernel
theorem d_Sto_writeBlocks_55 : decode prog_8_method_9_code 55 = .ok (.iload 4, 2) := by decide +kernel
theorem d_Sto_writeBlocks_57 : decode prog_8_method_9_code 57 = .ok (.iadd, 1) := by decide +kernel
theorem d_Sto_writeBlocks_58 : decode prog_8_method_9_code 58 = .ok (.aload_n 0, 1) := by decide +kernel
theorem d_Sto_writeBlocks_59 : decode prog_8_method_9_code 59 = .ok (.getfield 9, 3) := by decide +kernel
theorem d_Sto_writeBlocks_62 : decode prog_8_method_9_code 62 = .ok (.iload 5, 2) := by decide +kernel
theorem d_Sto_writeBlocks_64 : decode prog_8_method_9_code 64 = .ok (.bipush (20), 2) := by decide +kernel
theorem d_Sto_writeBlocks_66 : decode prog_8_method_9_code 66 = .ok (.imul, 1) := by decide +kernel
theorem d_Sto_writeBlocks_67 : decode prog_8_method_9_code 67 = .ok (.iload 6, 2) := by decide +kernel
theorem d_Sto_writeBlocks_69 : decode prog_8_method_9_code 69 = .ok (.invokestatic 88, 3) := by decide +kernel
theorem d_Sto_writeBlocks_72 : decode prog_8_method_9_code 72 = .ok (.aload_n 1, 1) := by decide +kernel
theorem d_Sto_writeBlocks_73 : decode prog_8_method_9_code 73 = .ok (.getfield 47, 3) := by decide +kernel
theorem d_Sto_writeBlocks_76 : decode prog_8_method_9_code 76 = .ok (.iload 4, 2) := by decide +kernel
theorem d_Sto_writeBlocks_78 : decode prog_8_method_9_code 78 = .ok (.bipush (20), 2) := by decide +kernel
theorem d_Sto_writeBlocks_80 : decode prog_8_method_9_code 80 = .ok (.idiv, 1) := by decide +kernel
theorem d_Sto_writeBlocks_81 : decode prog_8_method_9_code 81 = .ok (.iload 5, 2) := by decide +kernel
theorem d_Sto_writeBlocks_83 : decode prog_8_method_9_code 83 = .ok (.iastore, 1) := by decide +kernel
theorem d_Sto_writeBlocks_84 : decode prog_8_method_9_code 84 = .ok (.iinc 4 (20), 3) := by decide +kernel
theorem d_Sto_writeBlocks_87 : decode prog_8_method_9_code 87 = .ok (.aload_n 0, 1) := by decide +kernel
theorem d_Sto_writeBlocks_88 : decode prog_8_method_9_code 88 = .ok (.invokevirtual 94, 3) := by decide +kernel
theorem d_Sto_writeBlocks_91 : decode prog_8_method_9_code 91 = .ok (.iinc 5 (1), 3) := by decide +kernel
theorem d_Sto_writeBlocks_94 : decode prog_8_method_9_code 94 = .ok (.goto (-88), 3) := by decide +kernel
theorem d_Sto_writeBlocks_97 : decode prog_8_method_9_code 97 = .ok (.return_, 1) := by decide +kernel
theorem d_Sto_renewFullJournal_0 : decode prog_8_method_10_code 0 = .ok (.aload_n 0, 1) := by decide +kernel
theorem d_Sto_renewFullJournal_1 : decode prog_8_method_10_code 1 = .ok (.getfield 42, 3) := by decide +kernel
theorem d_Sto_renewFullJournal_4 : decode prog_8_method_10_code 4 = .ok (.ifCond .ne (24), 3) := by decide +kernel
theorem d_Sto_renewFullJournal_7 : decode prog_8_method_10_code 7 = .ok (.aload_n 0, 1) := by decide +kernel
theorem d_Sto_renewFullJournal_8 : decode prog_8_method_10_code 8 = .ok (.getfield 33, 3) := by decide +kernel
theorem d_Sto_renewFullJournal_11 : decode prog_8_method_10_code 11 = .ok (.bipush (40), 2) := by decide +kernel
theorem d_Sto_renewFullJournal_13 : decode prog_8_method_10_code 13 = .ok (.if_icmp .lt (15), 3) := by decide +kernel
theorem d_Sto_renewFullJournal_16 : decode prog_8_method_10_code 16 = .ok (.aload_n 0, 1) := by decide +kernel
theorem d_Sto_renewFullJournal_17 : decode prog_8_method_10_code 17 = .ok (.aload_n 0, 1) := by decide +kernel
theorem d_Sto_renewFullJournal_18 : decode prog_8_method_10_code 18 = .ok (.getfield 23, 3) := by decide +kernel
theorem d_Sto_renewFullJournal_21 : decode prog_8_method_10_code 21 = .ok (.putfield 33, 3) := by decide +kernel
theorem d_Sto_renewFullJournal_24 : decode prog_8_method_10_code 24 = .ok (.aload_n 0, 1) := by decide +kernel
theorem d_Sto_renewFullJournal_25 : decode prog_8_method_10_code 25 = .ok (.invokevirtual 94, 3) := by decide +kernel
theorem d_Sto_renewFullJournal_28 : decode prog_8_method_10_code 28 = .ok (.return_, 1) := by decide +kernel
theorem d_Sto_enterAdded_0 : decode prog_8_method_11_code 0 = .ok (.aload_n 0, 1) := by decide +kernel
theorem d_Sto_enterAdded_1 : decode prog_8_method_11_code 1 = .ok (.getfield 42, 3) := by decide +kernel
theorem d_Sto_enterAdded_4 : decode prog_8_method_11_code 4 = .ok (.ifCond .eq (4), 3) := by decide +kernel
theorem d_Sto_enterAdded_7 : decode prog_8_method_11_code 7 = .ok (.return_, 1) := by decide +kernel
theorem d_Sto_enterAdded_8 : decode prog_8_method_11_code 8 = .ok (.aload_n 0, 1) := by decide +kernel
theorem d_Sto_enterAdded_9 : decode prog_8_method_11_code 9 = .ok (.dup, 1) := by decide +kernel
theorem d_Sto_enterAdded_10 : decode prog_8_method_11_code 10 = .ok (.getfield 33, 3) := by decide +kernel
theorem d_Sto_enterAdded_13 : decode prog_8_method_11_code 13 = .ok (.iconst 1, 1) := by decide +kernel
theorem d_Sto_enterAdded_14 : decode prog_8_method_11_code 14 = .ok (.iadd, 1) := by decide +kernel
theorem d_Sto_enterAdded_15 : decode prog_8_method_11_code 15 = .ok (.putfield 33, 3) := by decide +kernel
theorem d_Sto_enterAdded_18 : decode prog_8_method_11_code 18 = .ok (.aload_n 1, 1) := by decide +kernel
theorem d_Sto_enterAdded_19 : decode prog_8_method_11_code 19 = .ok (.aload_n 0, 1) := by decide +kernel
theorem d_Sto_enterAdded_20 : decode prog_8_method_11_code 20 = .ok (.getfield 30, 3) := by decide +kernel
theorem d_Sto_enterAdded_23 : decode prog_8_method_11_code 23 = .ok (.putfield 97, 3) := by decide +kernel
theorem d_Sto_enterAdded_26 : decode prog_8_method_11_code 26 = .ok (.aload_n 0, 1) := by decide +kernel
theorem d_Sto_enterAdded_27 : decode prog_8_method_11_code 27 = .ok (.dup, 1) := by decide +kernel
theorem d_Sto_enterAdded_28 : decode prog_8_method_11_code 28 = .ok (.getfield 30, 3) := by decide +kernel
theorem d_Sto_enterAdded_31 : decode prog_8_method_11_code 31 = .ok (.iconst 1, 1) := by decide +kernel
theorem d_Sto_enterAdded_32 : decode prog_8_method_11_code 32 = .ok (.iadd, 1) := by decide +kernel
theorem d_Sto_enterAdded_33 : decode prog_8_method_11_code 33 = .ok (.putfield 30, 3) := by decide +kernel
theorem d_Sto_enterAdded_36 : decode prog_8_method_11_code 36 = .ok (.aload_n 0, 1) := by decide +kernel
theorem d_Sto_enterAdded_37 : decode prog_8_method_11_code 37 = .ok (.dup, 1) := by decide +kernel
theorem d_Sto_enterAdded_38 : decode prog_8_method_11_code 38 = .ok (.getfield 23, 3) := by decide +kernel
theorem d_Sto_enterAdded_41 : decode prog_8_method_11_code 41 = .ok (.iconst 1, 1) := by decide +kernel
theorem d_Sto_enterAdded_42 : decode prog_8_method_11_code 42 = .ok (.iadd, 1) := by decide +kernel
theorem d_Sto_enterAdded_43 : decode prog_8_method_11_code 43 = .ok (.putfield 23, 3) := by decide +kernel
theorem d_Sto_enterAdded_46 : decode prog_8_method_11_code 46 = .ok (.aload_n 0, 1) := by decide +kernel
theorem d_Sto_enterAdded_47 : decode prog_8_method_11_code 47 = .ok (.aload_n 1, 1) := by decide +kernel
theorem d_Sto_enterAdded_48 : decode prog_8_method_11_code 48 = .ok (.iconst 1, 1) := by decide +kernel
theorem d_Sto_enterAdded_49 : decode prog_8_method_11_code 49 = .ok (.invokevirtual 100, 3) := by decide +kernel
theorem d_Sto_enterAdded_52 : decode prog_8_method_11_code 52 = .ok (.aload_n 0, 1) := by decide +kernel
theorem d_Sto_enterAdded_53 : decode prog_8_method_11_code 53 = .ok (.invokevirtual 94, 3) := by decide +kernel
theorem d_Sto_enterAdded_56 : decode prog_8_method_11_code 56 = .ok (.return_, 1) := by decide +kernel
theorem d_Sto_enterDropped_0 : decode prog_8_method_12_code 0 = .ok (.aload_n 0, 1) := by decide +kernel
theorem d_Sto_enterDropped_1 : decode prog_8_method_12_code 1 = .ok (.getfield 42, 3) := by decide +kernel
theorem d_Sto_enterDropped_4 : decode prog_8_method_12_code 4 = .ok (.ifCond .eq (4), 3) := by decide +kernel
theorem d_Sto_enterDropped_7 : decode prog_8_method_12_code 7 = .ok (.return_, 1) := by decide +kernel
theorem d_Sto_enterDropped_8 : decode prog_8_method_12_code 8 = .ok (.aload_n 0, 1) := by decide +kernel
theorem d_Sto_enterDropped_9 : decode prog_8_method_12_code 9 = .ok (.dup, 1) := by decide +kernel
theorem d_Sto_enterDropped_10 : decode prog_8_method_12_code 10 = .ok (.getfield 33, 3) := by decide +kernel
theorem d_Sto_enterDropped_13 : decode prog_8_method_12_code 13 = .ok (.iconst 1, 1) := by decide +kernel
theorem d_Sto_enterDropped_14 : decode prog_8_method_12_code 14 = .ok (.iadd, 1) := by decide +kernel
theorem d_Sto_enterDropped_15 : decode prog_8_method_12_code 15 = .ok (.putfield 33, 3) := by decide +kernel
theorem d_Sto_enterDropped_18 : decode prog_8_method_12_code 18 = .ok (.aload_n 0, 1) := by decide +kernel
theorem d_Sto_enterDropped_19 : decode prog_8_method_12_code 19 = .ok (.getfield 19, 3) := by decide +kernel
theorem d_Sto_enterDropped_22 : decode prog_8_method_12_code 22 = .ok (.iload_n 1, 1) := by decide +kernel
theorem d_Sto_enterDropped_23 : decode prog_8_method_12_code 23 = .ok (.aaload, 1) := by decide +kernel
theorem d_Sto_enterDropped_24 : decode prog_8_method_12_code 24 = .ok (.astore_n 2, 1) := by decide +kernel
theorem d_Sto_enterDropped_25 : decode prog_8_method_12_code 25 = .ok (.aload_n 0, 1) := by decide +kernel
theorem d_Sto_enterDropped_26 : decode prog_8_method_12_code 26 = .ok (.aload_n 2, 1) := by decide +kernel
theorem d_Sto_enterDropped_27 : decode prog_8_method_12_code 27 = .ok (.iconst 0, 1) := by decide +kernel
theorem d_Sto_enterDropped_28 : decode prog_8_method_12_code 28 = .ok (.invokevirtual 100, 3) := by decide +kernel
theorem d_Sto_enterDropped_31 : decode prog_8_method_12_code 31 = .ok (.aload_n 0, 1) := by decide +kernel
theorem d_Sto_enterDropped_32 : decode prog_8_method_12_code 32 = .ok (.dup, 1) := by decide +kernel
theorem d_Sto_enterDropped_33 : decode prog_8_method_12_code 33 = .ok (.getfield 23, 3) := by decide +kernel
theorem d_Sto_enterDropped_36 : decode prog_8_method_12_code 36 = .ok (.iconst 1, 1) := by decide +kernel
theorem d_Sto_enterDropped_37 : decode prog_8_method_12_code 37 = .ok (.isub, 1) := by decide +kernel
theorem d_Sto_enterDropped_38 : decode prog_8_method_12_code 38 = .ok (.putfield 23, 3) := by decide +kernel
theorem d_Sto_enterDropped_41 : decode prog_8_method_12_code 41 = .ok (.iload_n 1, 1) := by decide +kernel
theorem d_Sto_enterDropped_42 : decode prog_8_method_12_code 42 = .ok (.istore_n 3, 1) := by decide +kernel
theorem d_Sto_enterDropped_43 : decode prog_8_method_12_code 43 = .ok (.iload_n 3, 1) := by decide +kernel
theorem d_Sto_enterDropped_44 : decode prog_8_method_12_code 44 = .ok (.aload_n 0, 1) := by decide +kernel
theorem d_Sto_enterDropped_45 : decode prog_8_method_12_code 45 = .ok (.getfield 23, 3) := by decide +kernel
theorem d_Sto_enterDropped_48 : decode prog_8_method_12_code 48 = .ok (.if_icmp .ge (23), 3) := by decide +kernel
theorem d_Sto_enterDropped_51 : decode prog_8_method_12_code 51 = .ok (.aload_n 0, 1) := by decide +kernel
theorem d_Sto_enterDropped_52 : decode prog_8_method_12_code 52 = .ok (.getfield 19, 3) := by decide +kernel
theorem d_Sto_enterDropped_55 : decode prog_8_method_12_code 55 = .ok (.iload_n 3, 1) := by decide +kernel
theorem d_Sto_enterDropped_56 : decode prog_8_method_12_code 56 = .ok (.aload_n 0, 1) := by decide +kernel
theorem d_Sto_enterDropped_57 : decode prog_8_method_12_code 57 = .ok (.getfield 19, 3) := by decide +kernel
theorem d_Sto_enterDropped_60 : decode prog_8_method_12_code 60 = .ok (.iload_n 3, 1) := by decide +kernel
theorem d_Sto_enterDropped_61 : decode prog_8_method_12_code 61 = .ok (.iconst 1, 1) := by decide +kernel
theorem d_Sto_enterDropped_62 : decode prog_8_method_12_code 62 = .ok (.iadd, 1) := by decide +kernel
theorem d_Sto_enterDropped_63 : decode prog_8_method_12_code 63 = .ok (.aaload, 1) := by decide +kernel
theorem d_Sto_enterDropped_64 : decode prog_8_method_12_code 64 = .ok (.aastore, 1) := by decide +kernel
theorem d_Sto_enterDropped_65 : decode prog_8_method_12_code 65 = .ok (.iinc 3 (1), 3) := by decide +kernel
theorem d_Sto_enterDropped_68 : decode prog_8_method_12_code 68 = .ok (.goto (-25), 3) := by decide +kernel
theorem d_Sto_enterDropped_71 : decode prog_8_method_12_code 71 = .ok (.aload_n 0, 1) := by decide +kernel
theorem d_Sto_enterDropped_72 : decode prog_8_method_12_code 72 = .ok (.getfield 19, 3) := by decide +kernel
theorem d_Sto_enterDropped_75 : decode prog_8_method_12_code 75 = .ok (.aload_n 0, 1) := by decide +kernel
theorem d_Sto_enterDropped_76 : decode prog_8_method_12_code 76 = .ok (.getfield 23, 3) := by decide +kernel
theorem d_Sto_enterDropped_79 : decode prog_8_method_12_code 79 = .ok (.aload_n 2, 1) := by decide +kernel
theorem d_Sto_enterDropped_80 : decode prog_8_method_12_code 80 = .ok (.aastore, 1) := by decide +kernel
theorem d_Sto_enterDropped_81 : decode prog_8_method_12_code 81 = .ok (.aload_n 0, 1) := by decide +kernel
theorem d_Sto_enterDropped_82 : decode prog_8_method_12_code 82 = .ok (.invokevirtual 94, 3) := by decide +kernel
theorem d_Sto_enterDropped_85 : decode prog_8_method_12_code 85 = .ok (.return_, 1) := by decide +kernel
theorem d_Sto_markBlocks_0 : decode prog_8_method_13_code 0 = .ok (.aload_n 1, 1) := by decide +kernel
theorem d_Sto_markBlocks_1 : decode prog_8_method_13_code 1 = .ok (.getfield 61, 3) := by decide +kernel
theorem d_Sto_markBlocks_4 : decode prog_8_method_13_code 4 = .ok (.invokestatic 53, 3) := by decide +kernel
theorem d_Sto_markBlocks_7 : decode prog_8_method_13_code 7 = .ok (.istore_n 3, 1) := by decide +kernel
theorem d_Sto_markBlocks_8 : decode prog_8_method_13_code 8 = .ok (.iconst 0, 1) := by decide +kernel
theorem d_Sto_markBlocks_9 : decode prog_8_method_13_code 9 = .ok (.istore 4, 2) := by decide +kernel
theorem d_Sto_markBlocks_11 : decode prog_8_method_13_code 11 = .ok (.iload 4, 2) := by decide +kernel
theorem d_Sto_markBlocks_13 : decode prog_8_method_13_code 13 = .ok (.iload_n 3, 1) := by decide +kernel
theorem d_Sto_markBlocks_14 : decode prog_8_method_13_code 14 = .ok (.if_icmp .ge (22), 3) := by decide +kernel
theorem d_Sto_markBlocks_17 : decode prog_8_method_13_code 17 = .ok (.aload_n 0, 1) := by decide +kernel
theorem d_Sto_markBlocks_18 : decode prog_8_method_13_code 18 = .ok (.getfield 13, 3) := by decide +kernel
theorem d_Sto_markBlocks_21 : decode prog_8_method_13_code 21 = .ok (.aload_n 1, 1) := by decide +kernel
theorem d_Sto_markBlocks_22 : decode prog_8_method_13_code 22 = .ok (.getfield 47, 3) := by decide +kernel
theorem d_Sto_markBlocks_25 : decode prog_8_method_13_code 25 = .ok (.iload 4, 2) := by decide +kernel
theorem d_Sto_markBlocks_27 : decode prog_8_method_13_code 27 = .ok (.iaload, 1) := by decide +kernel
theorem d_Sto_markBlocks_28 : decode prog_8_method_13_code 28 = .ok (.iload_n 2, 1) := by decide +kernel
theorem d_Sto_markBlocks_29 : decode prog_8_method_13_code 29 = .ok (.bastore, 1) := by decide +kernel
theorem d_Sto_markBlocks_30 : decode prog_8_method_13_code 30 = .ok (.iinc 4 (1), 3) := by decide +kernel
theorem d_Sto_markBlocks_33 : decode prog_8_method_13_code 33 = .ok (.goto (-22), 3) := by decide +kernel
theorem d_Sto_markBlocks_36 : decode prog_8_method_13_code 36 = .ok (.aload_n 0, 1) := by decide +kernel
theorem d_Sto_markBlocks_37 : decode prog_8_method_13_code 37 = .ok (.dup, 1) := by decide +kernel
theorem d_Sto_markBlocks_38 : decode prog_8_method_13_code 38 = .ok (.getfield 27, 3) := by decide +kernel
theorem d_Sto_markBlocks_41 : decode prog_8_method_13_code 41 = .ok (.iload_n 2, 1) := by decide +kernel
theorem d_Sto_markBlocks_42 : decode prog_8_method_13_code 42 = .ok (.ifCond .eq (8), 3) := by decide +kernel
theorem d_Sto_markBlocks_45 : decode prog_8_method_13_code 45 = .ok (.iload_n 3, 1) := by decide +kernel
theorem d_Sto_markBlocks_46 : decode prog_8_method_13_code 46 = .ok (.ineg, 1) := by decide +kernel
theorem d_Sto_markBlocks_47 : decode prog_8_method_13_code 47 = .ok (.goto (4), 3) := by decide +kernel
theorem d_Sto_markBlocks_50 : decode prog_8_method_13_code 50 = .ok (.iload_n 3, 1) := by decide +kernel
theorem d_Sto_markBlocks_51 : decode prog_8_method_13_code 51 = .ok (.iadd, 1) := by decide +kernel
theorem d_Sto_markBlocks_52 : decode prog_8_method_13_code 52 = .ok (.putfield 27, 3) := by decide +kernel
theorem d_Sto_markBlocks_55 : decode prog_8_method_13_code 55 = .ok (.return_, 1) := by decide +kernel
theorem d_Sto_write_0 : decode prog_8_method_14_code 0 = .ok (.aload_n 0, 1) := by decide +kernel
theorem d_Sto_write_1 : decode prog_8_method_14_code 1 = .ok (.dup, 1) := by decide +kernel
theorem d_Sto_write_2 : decode prog_8_method_14_code 2 = .ok (.getfield 36, 3) := by decide +kernel
theorem d_Sto_write_5 : decode prog_8_method_14_code 5 = .ok (.iconst 1, 1) := by decide +kernel
theorem d_Sto_write_6 : decode prog_8_method_14_code 6 = .ok (.iadd, 1) := by decide +kernel
theorem d_Sto_write_7 : decode prog_8_method_14_code 7 = .ok (.putfield 36, 3) := by decide +kernel
theorem d_Sto_write_10 : decode prog_8_method_14_code 10 = .ok (.aload_n 0, 1) := by decide +kernel
theorem d_Sto_write_11 : decode prog_8_method_14_code 11 = .ok (.getfield 39, 3) := by decide +kernel
theorem d_Sto_write_14 : decode prog_8_method_14_code 14 = .ok (.ifCond .le (29), 3) := by decide +kernel
theorem d_Sto_write_17 : decode prog_8_method_14_code 17 = .ok (.aload_n 0, 1) := by decide +kernel
theorem d_Sto_write_18 : decode prog_8_method_14_code 18 = .ok (.dup, 1) := by decide +kernel
theorem d_Sto_write_19 : decode prog_8_method_14_code 19 = .ok (.getfield 39, 3) := by decide +kernel
theorem d_Sto_write_22 : decode prog_8_method_14_code 22 = .ok (.iconst 1, 1) := by decide +kernel
theorem d_Sto_write_23 : decode prog_8_method_14_code 23 = .ok (.isub, 1) := by decide +kernel
theorem d_Sto_write_24 : decode prog_8_method_14_code 24 = .ok (.putfield 39, 3) := by decide +kernel
theorem d_Sto_write_27 : decode prog_8_method_14_code 27 = .ok (.aload_n 0, 1) := by decide +kernel
theorem d_Sto_write_28 : decode prog_8_method_14_code 28 = .ok (.aload_n 0, 1) := by decide +kernel
theorem d_Sto_write_29 : decode prog_8_method_14_code 29 = .ok (.getfield 39, 3) := by decide +kernel
theorem d_Sto_write_32 : decode prog_8_method_14_code 32 = .ok (.ifCond .ne (7), 3) := by decide +kernel
theorem d_Sto_write_35 : decode prog_8_method_14_code 35 = .ok (.iconst 1, 1) := by decide +kernel
theorem d_Sto_write_36 : decode prog_8_method_14_code 36 = .ok (.goto (4), 3) := by decide +kernel
theorem d_Sto_write_39 : decode prog_8_method_14_code 39 = .ok (.iconst 0, 1) := by decide +kernel
theorem d_Sto_write_40 : decode prog_8_method_14_code 40 = .ok (.putfield 42, 3) := by decide +kernel
theorem d_Sto_write_43 : decode prog_8_method_14_code 43 = .ok (.return_, 1) := by decide +kernel
end
section
theorem d_Str_init_0 : decode prog_9_method_1_code 0 = .ok (.aload_n 0, 1) := by decide +kernel
theorem d_Str_init_1 : decode prog_9_method_1_code 1 = .ok (.invokespecial 1, 3) := by decide +kernel
theorem d_Str_init_4 : decode prog_9_method_1_code 4 = .ok (.aload_n 0, 1) := by decide +kernel
theorem d_Str_init_5 : decode prog_9_method_1_code 5 = .ok (.bipush (60), 2) := by decide +kernel
theorem d_Str_init_7 : decode prog_9_method_1_code 7 = .ok (.newarray .int, 2) := by decide +kernel
theorem d_Str_init_9 : decode prog_9_method_1_code 9 = .ok (.putfield 9, 3) := by decide +kernel
theorem d_Str_init_12 : decode prog_9_method_1_code 12 = .ok (.aload_n 0, 1) := by decide +kernel
theorem d_Str_init_13 : decode prog_9_method_1_code 13 = .ok (.iconst 0, 1) := by decide +kernel
theorem d_Str_init_14 : decode prog_9_method_1_code 14 = .ok (.putfield 15, 3) := by decide +kernel
theorem d_Str_init_17 : decode prog_9_method_1_code 17 = .ok (.aload_n 0, 1) := by decide +kernel
theorem d_Str_init_18 : decode prog_9_method_1_code 18 = .ok (.iconst 0, 1) := by decide +kernel
theorem d_Str_init_19 : decode prog_9_method_1_code 19 = .ok (.putfield 19, 3) := by decide +kernel
theorem d_Str_init_22 : decode prog_9_method_1_code 22 = .ok (.return_, 1) := by decide +kernel
theorem d_Str_forget_0 : decode prog_9_method_2_code 0 = .ok (.aload_n 0, 1) := by decide +kernel
theorem d_Str_forget_1 : decode prog_9_method_2_code 1 = .ok (.iconst 0, 1) := by decide +kernel
theorem d_Str_forget_2 : decode prog_9_method_2_code 2 = .ok (.putfield 19, 3) := by decide +kernel
theorem d_Str_forget_5 : decode prog_9_method_2_code 5 = .ok (.aload_n 0, 1) := by decide +kernel
theorem d_Str_forget_6 : decode prog_9_method_2_code 6 = .ok (.iconst 0, 1) := by decide +kernel
theorem d_Str_forget_7 : decode prog_9_method_2_code 7 = .ok (.putfield 15, 3) := by decide +kernel
theorem d_Str_forget_10 : decode prog_9_method_2_code 10 = .ok (.return_, 1) := by decide +kernel
theorem d_Str_hold_0 : decode prog_9_method_3_code 0 = .ok (.aload_n 0, 1) := by decide +kernel
theorem d_Str_hold_1 : decode prog_9_method_3_code 1 = .ok (.iconst 1, 1) := by decide +kernel
theorem d_Str_hold_2 : decode prog_9_method_3_code 2 = .ok (.putfield 19, 3) := by decide +kernel
theorem d_Str_hold_5 : decode prog_9_method_3_code 5 = .ok (.aload_n 0, 1) := by decide +kernel
theorem d_Str_hold_6 : decode prog_9_method_3_code 6 = .ok (.aload_n 1, 1) := by decide +kernel
theorem d_Str_hold_7 : decode prog_9_method_3_code 7 = .ok (.getfield 23, 3) := by decide +kernel
theorem d_Str_hold_10 : decode prog_9_method_3_code 10 = .ok (.putfield 15, 3) := by decide +kernel
theorem d_Str_hold_13 : decode prog_9_method_3_code 13 = .ok (.aload_n 1, 1) := by decide +kernel
theorem d_Str_hold_14 : decode prog_9_method_3_code 14 = .ok (.getfield 26, 3) := by decide +kernel
theorem d_Str_hold_17 : decode prog_9_method_3_code 17 = .ok (.iconst 0, 1) := by decide +kernel
theorem d_Str_hold_18 : decode prog_9_method_3_code 18 = .ok (.aload_n 0, 1) := by decide +kernel
theorem d_Str_hold_19 : decode prog_9_method_3_code 19 = .ok (.getfield 9, 3) := by decide +kernel
theorem d_Str_hold_22 : decode prog_9_method_3_code 22 = .ok (.iconst 0, 1) := by decide +kernel
theorem d_Str_hold_23 : decode prog_9_method_3_code 23 = .ok (.aload_n 0, 1) := by decide +kernel
theorem d_Str_hold_24 : decode prog_9_method_3_code 24 = .ok (.getfield 15, 3) := by decide +kernel
theorem d_Str_hold_27 : decode prog_9_method_3_code 27 = .ok (.invokestatic 29, 3) := by decide +kernel
theorem d_Str_hold_30 : decode prog_9_method_3_code 30 = .ok (.return_, 1) := by decide +kernel
end
section
theorem d_Win_init_0 : decode prog_10_method_1_code 0 = .ok (.aload_n 0, 1) := by decide +kernel
theorem d_Win_init_1 : decode prog_10_method_1_code 1 = .ok (.invokespecial 1, 3) := by decide +kernel
theorem d_Win_init_4 : decode prog_10_method_1_code 4 = .ok (.aload_n 0, 1) := by decide +kernel
theorem d_Win_init_5 : decode prog_10_method_1_code 5 = .ok (.iconst 0, 1) := by decide +kernel
theorem d_Win_init_6 : decode prog_10_method_1_code 6 = .ok (.putfield 7, 3) := by decide +kernel
theorem d_Win_init_9 : decode prog_10_method_1_code 9 = .ok (.aload_n 0, 1) := by decide +kernel
theorem d_Win_init_10 : decode prog_10_method_1_code 10 = .ok (.iconst 1, 1) := by decide +kernel
theorem d_Win_init_11 : decode prog_10_method_1_code 11 = .ok (.putfield 13, 3) := by decide +kernel
theorem d_Win_init_14 : decode prog_10_method_1_code 14 = .ok (.aload_n 0, 1) := by decide +kernel
theorem d_Win_init_15 : decode prog_10_method_1_code 15 = .ok (.iconst 1, 1) := by decide +kernel
theorem d_Win_init_16 : decode prog_10_method_1_code 16 = .ok (.putfield 16, 3) := by decide +kernel
theorem d_Win_init_19 : decode prog_10_method_1_code 19 = .ok (.return_, 1) := by decide +kernel
theorem d_Win_set_0 : decode prog_10_method_2_code 0 = .ok (.aload_n 0, 1) := by decide +kernel
theorem d_Win_set_1 : decode prog_10_method_2_code 1 = .ok (.iload_n 1, 1) := by decide +kernel
theorem d_Win_set_2 : decode prog_10_method_2_code 2 = .ok (.putfield 7, 3) := by decide +kernel
theorem d_Win_set_5 : decode prog_10_method_2_code 5 = .ok (.aload_n 0, 1) := by decide +kernel
theorem d_Win_set_6 : decode prog_10_method_2_code 6 = .ok (.iload_n 2, 1) := by decide +kernel
theorem d_Win_set_7 : decode prog_10_method_2_code 7 = .ok (.putfield 13, 3) := by decide +kernel
theorem d_Win_set_10 : decode prog_10_method_2_code 10 = .ok (.aload_n 0, 1) := by decide +kernel
theorem d_Win_set_11 : decode prog_10_method_2_code 11 = .ok (.iload_n 3, 1) := by decide +kernel
theorem d_Win_set_12 : decode prog_10_method_2_code 12 = .ok (.putfield 16, 3) := by decide +kernel
theorem d_Win_set_15 : decode prog_10_method_2_code 15 = .ok (.return_, 1) := by decide +kernel
theorem d_Win_isOpen_0 : decode prog_10_method_3_code 0 = .ok (.iload_n 1, 1) := by decide +kernel
theorem d_Win_isOpen_1 : decode prog_10_method_3_code 1 = .ok (.i2l, 1) := by decide +kernel
theorem d_Win_isOpen_2 : decode prog_10_method_3_code 2 = .ok (.aload_n 0, 1) := by decide +kernel
theorem d_Win_isOpen_3 : decode prog_10_method_3_code 3 = .ok (.getfield 7, 3) := by decide +kernel
theorem d_Win_isOpen_6 : decode prog_10_method_3_code 6 = .ok (.i2l, 1) := by decide +kernel
theorem d_Win_isOpen_7 : decode prog_10_method_3_code 7 = .ok (.ladd, 1) := by decide +kernel
theorem d_Win_isOpen_8 : decode prog_10_method_3_code 8 = .ok (.aload_n 0, 1) := by decide +kernel
theorem d_Win_isOpen_9 : decode prog_10_method_3_code 9 = .ok (.getfield 13, 3) := by decide +kernel
theorem d_Win_isOpen_12 : decode prog_10_method_3_code 12 = .ok (.i2l, 1) := by decide +kernel
theorem d_Win_isOpen_13 : decode prog_10_method_3_code 13 = .ok (.lrem, 1) := by decide +kernel
theorem d_Win_isOpen_14 : decode prog_10_method_3_code 14 = .ok (.aload_n 0, 1) := by decide +kernel
theorem d_Win_isOpen_15 : decode prog_10_method_3_code 15 = .ok (.getfield 16, 3) := by decide +kernel
theorem d_Win_isOpen_18 : decode prog_10_method_3_code 18 = .ok (.i2l, 1) := by decide +kernel
theorem d_Win_isOpen_19 : decode prog_10_method_3_code 19 = .ok (.lcmp, 1) := by decide +kernel
theorem d_Win_isOpen_20 : decode prog_10_method_3_code 20 = .ok (.ifCond .ge (7), 3) := by decide +kernel
theorem d_Win_isOpen_23 : decode prog_10_method_3_code 23 = .ok (.iconst 1, 1) := by decide +kernel
theorem d_Win_isOpen_24 : decode prog_10_method_3_code 24 = .ok (.goto (4), 3) := by decide +kernel
theorem d_Win_isOpen_27 : decode prog_10_method_3_code 27 = .ok (.iconst 0, 1) := by decide +kernel
theorem d_Win_isOpen_28 : decode prog_10_method_3_code 28 = .ok (.ireturn, 1) := by decide +kernel
end
section
theorem d_Law_window_0 : decode method_3_code 0 = .ok (.aload_n 0, 1) := by decide +kernel
theorem d_Law_window_1 : decode method_3_code 1 = .ok (.iload_n 1, 1) := by decide +kernel
theorem d_Law_window_2 : decode method_3_code 2 = .ok (.iload_n 2, 1) := by decide +kernel
theorem d_Law_window_3 : decode method_3_code 3 = .ok (.iload_n 3, 1) := by decide +kernel
theorem d_Law_window_4 : decode method_3_code 4 = .ok (.iload 4, 2) := by decide +kernel
theorem d_Law_window_6 : decode method_3_code 6 = .ok (.invokevirtual 7, 3) := by decide +kernel
theorem d_Law_window_9 : decode method_3_code 9 = .ok (.goto (7), 3) := by decide +kernel
theorem d_Law_window_12 : decode method_3_code 12 = .ok (.astore 5, 2) := by decide +kernel
theorem d_Law_window_14 : decode method_3_code 14 = .ok (.iconst 1, 1) := by decide +kernel
theorem d_Law_window_15 : decode method_3_code 15 = .ok (.ireturn, 1) := by decide +kernel
theorem d_Law_window_16 : decode method_3_code 16 = .ok (.iconst 0, 1) := by decide +kernel
theorem d_Law_window_17 : decode method_3_code 17 = .ok (.ireturn, 1) := by decide +kernel
theorem d_Law_minute_0 : decode method_4_code 0 = .ok (.aload_n 2, 1) := by decide +kernel
theorem d_Law_minute_1 : decode method_4_code 1 = .ok (.iconst 0, 1) := by decide +kernel
theorem d_Law_minute_2 : decode method_4_code 2 = .ok (.aload_n 0, 1) := by decide +kernel
theorem d_Law_minute_3 : decode method_4_code 3 = .ok (.iload_n 1, 1) := by decide +kernel
theorem d_Law_minute_4 : decode method_4_code 4 = .ok (.invokevirtual 15, 3) := by decide +kernel
theorem d_Law_minute_7 : decode method_4_code 7 = .ok (.i2l, 1) := by decide +kernel
theorem d_Law_minute_8 : decode method_4_code 8 = .ok (.lastore, 1) := by decide +kernel
theorem d_Law_minute_9 : decode method_4_code 9 = .ok (.goto (6), 3) := by decide +kernel
theorem d_Law_minute_12 : decode method_4_code 12 = .ok (.astore_n 3, 1) := by decide +kernel
theorem d_Law_minute_13 : decode method_4_code 13 = .ok (.iconst 1, 1) := by decide +kernel
theorem d_Law_minute_14 : decode method_4_code 14 = .ok (.ireturn, 1) := by decide +kernel
theorem d_Law_minute_15 : decode method_4_code 15 = .ok (.iconst 0, 1) := by decide +kernel
theorem d_Law_minute_16 : decode method_4_code 16 = .ok (.ireturn, 1) := by decide +kernel
theorem d_Law_seen_0 : decode method_5_code 0 = .ok (.aload_n 2, 1) := by decide +kernel
theorem d_Law_seen_1 : decode method_5_code 1 = .ok (.iconst 0, 1) := by decide +kernel
theorem d_Law_seen_2 : decode method_5_code 2 = .ok (.aload_n 0, 1) := by decide +kernel
theorem d_Law_seen_3 : decode method_5_code 3 = .ok (.iload_n 1, 1) := by decide +kernel
theorem d_Law_seen_4 : decode method_5_code 4 = .ok (.invokevirtual 19, 3) := by decide +kernel
theorem d_Law_seen_7 : decode method_5_code 7 = .ok (.ifCond .eq (7), 3) := by decide +kernel
theorem d_Law_seen_10 : decode method_5_code 10 = .ok (.lconst 1, 1) := by decide +kernel
theorem d_Law_seen_11 : decode method_5_code 11 = .ok (.goto (4), 3) := by decide +kernel
theorem d_Law_seen_14 : decode method_5_code 14 = .ok (.lconst 0, 1) := by decide +kernel
theorem d_Law_seen_15 : decode method_5_code 15 = .ok (.lastore, 1) := by decide +kernel
theorem d_Law_seen_16 : decode method_5_code 16 = .ok (.goto (6), 3) := by decide +kernel
theorem d_Law_seen_19 : decode method_5_code 19 = .ok (.astore_n 3, 1) := by decide +kernel
theorem d_Law_seen_20 : decode method_5_code 20 = .ok (.iconst 1, 1) := by decide +kernel
theorem d_Law_seen_21 : decode method_5_code 21 = .ok (.ireturn, 1) := by decide +kernel
theorem d_Law_seen_22 : decode method_5_code 22 = .ok (.iconst 0, 1) := by decide +kernel
theorem d_Law_seen_23 : decode method_5_code 23 = .ok (.ireturn, 1) := by decide +kernel
theorem d_Law_receive_0 : decode method_6_code 0 = .ok (.aload_n 3, 1) := by decide +kernel
theorem d_Law_receive_1 : decode method_6_code 1 = .ok (.iconst 0, 1) := by decide +kernel
theorem d_Law_receive_2 : decode method_6_code 2 = .ok (.aload_n 0, 1) := by decide +kernel
theorem d_Law_receive_3 : decode method_6_code 3 = .ok (.iload_n 1, 1) := by decide +kernel
theorem d_Law_receive_4 : decode method_6_code 4 = .ok (.iload_n 2, 1) := by decide +kernel
theorem d_Law_receive_5 : decode method_6_code 5 = .ok (.invokevirtual 23, 3) := by decide +kernel
theorem d_Law_receive_8 : decode method_6_code 8 = .ok (.i2l, 1) := by decide +kernel
theorem d_Law_receive_9 : decode method_6_code 9 = .ok (.lastore, 1) := by decide +kernel
theorem d_Law_receive_10 : decode method_6_code 10 = .ok (.goto (11), 3) := by decide +kernel
theorem d_Law_receive_13 : decode method_6_code 13 = .ok (.astore 4, 2) := by decide +kernel
theorem d_Law_receive_15 : decode method_6_code 15 = .ok (.iconst 1, 1) := by decide +kernel
theorem d_Law_receive_16 : decode method_6_code 16 = .ok (.ireturn, 1) := by decide +kernel
theorem d_Law_receive_17 : decode method_6_code 17 = .ok (.astore 4, 2) := by decide +kernel
theorem d_Law_receive_19 : decode method_6_code 19 = .ok (.iconst 2, 1) := by decide +kernel
theorem d_Law_receive_20 : decode method_6_code 20 = .ok (.ireturn, 1) := by decide +kernel
theorem d_Law_receive_21 : decode method_6_code 21 = .ok (.iconst 0, 1) := by decide +kernel
theorem d_Law_receive_22 : decode method_6_code 22 = .ok (.ireturn, 1) := by decide +kernel
theorem d_Law_report_0 : decode method_7_code 0 = .ok (.aload_n 1, 1) := by decide +kernel
theorem d_Law_report_1 : decode method_7_code 1 = .ok (.iconst 0, 1) := by decide +kernel
theorem d_Law_report_2 : decode method_7_code 2 = .ok (.aload_n 0, 1) := by decide +kernel
theorem d_Law_report_3 : decode method_7_code 3 = .ok (.invokevirtual 29, 3) := by decide +kernel
theorem d_Law_report_6 : decode method_7_code 6 = .ok (.i2l, 1) := by decide +kernel
theorem d_Law_report_7 : decode method_7_code 7 = .ok (.lastore, 1) := by decide +kernel
theorem d_Law_report_8 : decode method_7_code 8 = .ok (.goto (6), 3) := by decide +kernel
theorem d_Law_report_11 : decode method_7_code 11 = .ok (.astore_n 2, 1) := by decide +kernel
theorem d_Law_report_12 : decode method_7_code 12 = .ok (.iconst 1, 1) := by decide +kernel
theorem d_Law_report_13 : decode method_7_code 13 = .ok (.ireturn, 1) := by decide +kernel
theorem d_Law_report_14 : decode method_7_code 14 = .ok (.iconst 0, 1) := by decide +kernel
theorem d_Law_report_15 : decode method_7_code 15 = .ok (.ireturn, 1) := by decide +kernel
theorem d_Law_send_0 : decode method_8_code 0 = .ok (.aload_n 2, 1) := by decide +kernel
theorem d_Law_send_1 : decode method_8_code 1 = .ok (.iconst 0, 1) := by decide +kernel
theorem d_Law_send_2 : decode method_8_code 2 = .ok (.aload_n 0, 1) := by decide +kernel
theorem d_Law_send_3 : decode method_8_code 3 = .ok (.iload_n 1, 1) := by decide +kernel
theorem d_Law_send_4 : decode method_8_code 4 = .ok (.invokevirtual 33, 3) := by decide +kernel
theorem d_Law_send_7 : decode method_8_code 7 = .ok (.i2l, 1) := by decide +kernel
theorem d_Law_send_8 : decode method_8_code 8 = .ok (.lastore, 1) := by decide +kernel
theorem d_Law_send_9 : decode method_8_code 9 = .ok (.goto (12), 3) := by decide +kernel
theorem d_Law_send_12 : decode method_8_code 12 = .ok (.astore_n 3, 1) := by decide +kernel
theorem d_Law_send_13 : decode method_8_code 13 = .ok (.iconst 1, 1) := by decide +kernel
theorem d_Law_send_14 : decode method_8_code 14 = .ok (.ireturn, 1) := by decide +kernel
theorem d_Law_send_15 : decode method_8_code 15 = .ok (.astore_n 3, 1) := by decide +kernel
theorem d_Law_send_16 : decode method_8_code 16 = .ok (.iconst 2, 1) := by decide +kernel
theorem d_Law_send_17 : decode method_8_code 17 = .ok (.ireturn, 1) := by decide +kernel
theorem d_Law_send_18 : decode method_8_code 18 = .ok (.astore_n 3, 1) := by decide +kernel
theorem d_Law_send_19 : decode method_8_code 19 = .ok (.iconst 3, 1) := by decide +kernel
theorem d_Law_send_20 : decode method_8_code 20 = .ok (.ireturn, 1) := by decide +kernel
theorem d_Law_send_21 : decode method_8_code 21 = .ok (.iconst 0, 1) := by decide +kernel
theorem d_Law_send_22 : decode method_8_code 22 = .ok (.ireturn, 1) := by decide +kernel
theorem d_Law_sent_0 : decode method_9_code 0 = .ok (.aload_n 2, 1) := by decide +kernel
theorem d_Law_sent_1 : decode method_9_code 1 = .ok (.iconst 0, 1) := by decide +kernel
theorem d_Law_sent_2 : decode method_9_code 2 = .ok (.aload_n 0, 1) := by decide +kernel
theorem d_Law_sent_3 : decode method_9_code 3 = .ok (.iload_n 1, 1) := by decide +kernel
theorem d_Law_sent_4 : decode method_9_code 4 = .ok (.invokevirtual 38, 3) := by decide +kernel
theorem d_Law_sent_7 : decode method_9_code 7 = .ok (.i2l, 1) := by decide +kernel
theorem d_Law_sent_8 : decode method_9_code 8 = .ok (.lastore, 1) := by decide +kernel
theorem d_Law_sent_9 : decode method_9_code 9 = .ok (.goto (6), 3) := by decide +kernel
theorem d_Law_sent_12 : decode method_9_code 12 = .ok (.astore_n 3, 1) := by decide +kernel
theorem d_Law_sent_13 : decode method_9_code 13 = .ok (.iconst 1, 1) := by decide +kernel
theorem d_Law_sent_14 : decode method_9_code 14 = .ok (.ireturn, 1) := by decide +kernel
theorem d_Law_sent_15 : decode method_9_code 15 = .ok (.iconst 0, 1) := by decide +kernel
theorem d_Law_sent_16 : decode method_9_code 16 = .ok (.ireturn, 1) := by decide +kernel
theorem d_Law_fail_0 : decode method_10_code 0 = .ok (.aload_n 0, 1) := by decide +kernel
theorem d_Law_fail_1 : decode method_10_code 1 = .ok (.iload_n 1, 1) := by decide +kernel
theorem d_Law_fail_2 : decode method_10_code 2 = .ok (.invokevirtual 43, 3) := by decide +kernel
theorem d_Law_fail_5 : decode method_10_code 5 = .ok (.goto (9), 3) := by decide +kernel
theorem d_Law_fail_8 : decode method_10_code 8 = .ok (.astore_n 2, 1) := by decide +kernel
theorem d_Law_fail_9 : decode method_10_code 9 = .ok (.iconst 1, 1) := by decide +kernel
theorem d_Law_fail_10 : decode method_10_code 10 = .ok (.ireturn, 1) := by decide +kernel
theorem d_Law_fail_11 : decode method_10_code 11 = .ok (.astore_n 2, 1) := by decide +kernel
theorem d_Law_fail_12 : decode method_10_code 12 = .ok (.iconst 2, 1) := by decide +kernel
theorem d_Law_fail_13 : decode method_10_code 13 = .ok (.ireturn, 1) := by decide +kernel
theorem d_Law_fail_14 : decode method_10_code 14 = .ok (.iconst 0, 1) := by decide +kernel
theorem d_Law_fail_15 : decode method_10_code 15 = .ok (.ireturn, 1) := by decide +kernel
theorem d_Law_store_0 : decode method_11_code 0 = .ok (.aload_n 2, 1) := by decide +kernel
theorem d_Law_store_1 : decode method_11_code 1 = .ok (.iconst 0, 1) := by decide +kernel
theorem d_Law_store_2 : decode method_11_code 2 = .ok (.aload_n 0, 1) := by decide +kernel
theorem d_Law_store_3 : decode method_11_code 3 = .ok (.iload_n 1, 1) := by decide +kernel
theorem d_Law_store_4 : decode method_11_code 4 = .ok (.invokevirtual 47, 3) := by decide +kernel
theorem d_Law_store_7 : decode method_11_code 7 = .ok (.i2l, 1) := by decide +kernel
theorem d_Law_store_8 : decode method_11_code 8 = .ok (.lastore, 1) := by decide +kernel
theorem d_Law_store_9 : decode method_11_code 9 = .ok (.goto (6), 3) := by decide +kernel
theorem d_Law_store_12 : decode method_11_code 12 = .ok (.astore_n 3, 1) := by decide +kernel
theorem d_Law_store_13 : decode method_11_code 13 = .ok (.iconst 1, 1) := by decide +kernel
theorem d_Law_store_14 : decode method_11_code 14 = .ok (.ireturn, 1) := by decide +kernel
theorem d_Law_store_15 : decode method_11_code 15 = .ok (.iconst 0, 1) := by decide +kernel
theorem d_Law_store_16 : decode method_11_code 16 = .ok (.ireturn, 1) := by decide +kernel
theorem d_Law_packet_0 : decode method_12_code 0 = .ok (.aload_n 3, 1) := by decide +kernel
theorem d_Law_packet_1 : decode method_12_code 1 = .ok (.iconst 0, 1) := by decide +kernel
theorem d_Law_packet_2 : decode method_12_code 2 = .ok (.aload_n 0, 1) := by decide +kernel
theorem d_Law_packet_3 : decode method_12_code 3 = .ok (.iload_n 1, 1) := by decide +kernel
theorem d_Law_packet_4 : decode method_12_code 4 = .ok (.iload_n 2, 1) := by decide +kernel
theorem d_Law_packet_5 : decode method_12_code 5 = .ok (.invokevirtual 50, 3) := by decide +kernel
theorem d_Law_packet_8 : decode method_12_code 8 = .ok (.i2l, 1) := by decide +kernel
theorem d_Law_packet_9 : decode method_12_code 9 = .ok (.lastore, 1) := by decide +kernel
theorem d_Law_packet_10 : decode method_12_code 10 = .ok (.goto (11), 3) := by decide +kernel
theorem d_Law_packet_13 : decode method_12_code 13 = .ok (.astore 4, 2) := by decide +kernel
theorem d_Law_packet_15 : decode method_12_code 15 = .ok (.iconst 1, 1) := by decide +kernel
theorem d_Law_packet_16 : decode method_12_code 16 = .ok (.ireturn, 1) := by decide +kernel
theorem d_Law_packet_17 : decode method_12_code 17 = .ok (.astore 4, 2) := by decide +kernel
theorem d_Law_packet_19 : decode method_12_code 19 = .ok (.iconst 2, 1) := by decide +kernel
theorem d_Law_packet_20 : decode method_12_code 20 = .ok (.ireturn, 1) := by decide +kernel
theorem d_Law_packet_21 : decode method_12_code 21 = .ok (.iconst 0, 1) := by decide +kernel
theorem d_Law_packet_22 : decode method_12_code 22 = .ok (.ireturn, 1) := by decide +kernel
theorem d_Law_content_0 : decode method_13_code 0 = .ok (.aload_n 3, 1) := by decide +kernel
theorem d_Law_content_1 : decode method_13_code 1 = .ok (.iconst 0, 1) := by decide +kernel
theorem d_Law_content_2 : decode method_13_code 2 = .ok (.aload_n 0, 1) := by decide +kernel
theorem d_Law_content_3 : decode method_13_code 3 = .ok (.iload_n 1, 1) := by decide +kernel
theorem d_Law_content_4 : decode method_13_code 4 = .ok (.iload_n 2, 1) := by decide +kernel
theorem d_Law_content_5 : decode method_13_code 5 = .ok (.invokevirtual 53, 3) := by decide +kernel
theorem d_Law_content_8 : decode method_13_code 8 = .ok (.i2l, 1) := by decide +kernel
theorem d_Law_content_9 : decode method_13_code 9 = .ok (.lastore, 1) := by decide +kernel
theorem d_Law_content_10 : decode method_13_code 10 = .ok (.goto (7), 3) := by decide +kernel
theorem d_Law_content_13 : decode method_13_code 13 = .ok (.astore 4, 2) := by decide +kernel
theorem d_Law_content_15 : decode method_13_code 15 = .ok (.iconst 1, 1) := by decide +kernel
theorem d_Law_content_16 : decode method_13_code 16 = .ok (.ireturn, 1) := by decide +kernel
theorem d_Law_content_17 : decode method_13_code 17 = .ok (.iconst 0, 1) := by decide +kernel
theorem d_Law_content_18 : decode method_13_code 18 = .ok (.ireturn, 1) := by decide +kernel
theorem d_Law_law_0 : decode code 0 = .ok (.new 8, 3) := by decide +kernel
theorem d_Law_law_3 : decode code 3 = .ok (.dup, 1) := by decide +kernel
theorem d_Law_law_4 : decode code 4 = .ok (.invokespecial 56, 3) := by decide +kernel
theorem d_Law_law_7 : decode code 7 = .ok (.astore_n 1, 1) := by decide +kernel
theorem d_Law_law_8 : decode code 8 = .ok (.new 57, 3) := by decide +kernel
theorem d_Law_law_11 : decode code 11 = .ok (.dup, 1) := by decide +kernel
theorem d_Law_law_12 : decode code 12 = .ok (.invokespecial 59, 3) := by decide +kernel
theorem d_Law_law_15 : decode code 15 = .ok (.astore_n 2, 1) := by decide +kernel
theorem d_Law_law_16 : decode code 16 = .ok (.iconst 1, 1) := by decide +kernel
theorem d_Law_law_17 : decode code 17 = .ok (.newarray .long, 2) := by decide +kernel
theorem d_Law_law_19 : decode code 19 = .ok (.astore_n 3, 1) := by decide +kernel
theorem d_Law_law_20 : decode code 20 = .ok (.iconst 0, 1) := by decide +kernel
theorem d_Law_law_21 : decode code 21 = .ok (.istore 4, 2) := by decide +kernel
theorem d_Law_law_23 : decode code 23 = .ok (.iload 4, 2) := by decide +kernel
theorem d_Law_law_25 : decode code 25 = .ok (.aload_n 0, 1) := by decide +kernel
theorem d_Law_law_26 : decode code 26 = .ok (.arraylength, 1) := by decide +kernel
theorem d_Law_law_27 : decode code 27 = .ok (.iconst 5, 1) := by decide +kernel
theorem d_Law_law_28 : decode code 28 = .ok (.isub, 1) := by decide +kernel
theorem d_Law_law_29 : decode code 29 = .ok (.if_icmp .gt (750), 3) := by decide +kernel
theorem d_Law_law_32 : decode code 32 = .ok (.aload_n 0, 1) := by decide +kernel
theorem d_Law_law_33 : decode code 33 = .ok (.iload 4, 2) := by decide +kernel
theorem d_Law_law_35 : decode code 35 = .ok (.iaload, 1) := by decide +kernel
theorem d_Law_law_36 : decode code 36 = .ok (.bipush (15), 2) := by decide +kernel
theorem d_Law_law_38 : decode code 38 = .ok (.iand, 1) := by decide +kernel
theorem d_Law_law_39 : decode code 39 = .ok (.tableswitch (734) 0 12 #[65, 137, 193, 256, 324, 368, 424, 480, 516, 529, 542, 598, 666], 65) := by decide +kernel
theorem d_Law_law_104 : decode code 104 = .ok (.aload_n 1, 1) := by decide +kernel
theorem d_Law_law_105 : decode code 105 = .ok (.aload_n 0, 1) := by decide +kernel
theorem d_Law_law_106 : decode code 106 = .ok (.iload 4, 2) := by decide +kernel
theorem d_Law_law_108 : decode code 108 = .ok (.iconst 1, 1) := by decide +kernel
theorem d_Law_law_109 : decode code 109 = .ok (.iadd, 1) := by decide +kernel
theorem d_Law_law_110 : decode code 110 = .ok (.iaload, 1) := by decide +kernel
theorem d_Law_law_111 : decode code 111 = .ok (.aload_n 0, 1) := by decide +kernel
theorem d_Law_law_112 : decode code 112 = .ok (.iload 4, 2) := by decide +kernel
theorem d_Law_law_114 : decode code 114 = .ok (.iconst 2, 1) := by decide +kernel
theorem d_Law_law_115 : decode code 115 = .ok (.iadd, 1) := by decide +kernel
theorem d_Law_law_116 : decode code 116 = .ok (.iaload, 1) := by decide +kernel
theorem d_Law_law_117 : decode code 117 = .ok (.aload_n 0, 1) := by decide +kernel
theorem d_Law_law_118 : decode code 118 = .ok (.iload 4, 2) := by decide +kernel
theorem d_Law_law_120 : decode code 120 = .ok (.iconst 3, 1) := by decide +kernel
theorem d_Law_law_121 : decode code 121 = .ok (.iadd, 1) := by decide +kernel
theorem d_Law_law_122 : decode code 122 = .ok (.iaload, 1) := by decide +kernel
theorem d_Law_law_123 : decode code 123 = .ok (.aload_n 0, 1) := by decide +kernel
theorem d_Law_law_124 : decode code 124 = .ok (.iload 4, 2) := by decide +kernel
theorem d_Law_law_126 : decode code 126 = .ok (.iconst 4, 1) := by decide +kernel
theorem d_Law_law_127 : decode code 127 = .ok (.iadd, 1) := by decide +kernel
theorem d_Law_law_128 : decode code 128 = .ok (.iaload, 1) := by decide +kernel
theorem d_Law_law_129 : decode code 129 = .ok (.invokestatic 60, 3) := by decide +kernel
theorem d_Law_law_132 : decode code 132 = .ok (.istore 5, 2) := by decide +kernel
theorem d_Law_law_134 : decode code 134 = .ok (.aload_n 2, 1) := by decide +kernel
theorem d_Law_law_135 : decode code 135 = .ok (.aload_n 0, 1) := by decide +kernel
theorem d_Law_law_136 : decode code 136 = .ok (.iload 4, 2) := by decide +kernel
theorem d_Law_law_138 : decode code 138 = .ok (.iconst 1, 1) := by decide +kernel
theorem d_Law_law_139 : decode code 139 = .ok (.iadd, 1) := by decide +kernel
theorem d_Law_law_140 : decode code 140 = .ok (.iaload, 1) := by decide +kernel
theorem d_Law_law_141 : decode code 141 = .ok (.aload_n 0, 1) := by decide +kernel
theorem d_Law_law_142 : decode code 142 = .ok (.iload 4, 2) := by decide +kernel
theorem d_Law_law_144 : decode code 144 = .ok (.iconst 2, 1) := by decide +kernel
theorem d_Law_law_145 : decode code 145 = .ok (.iadd, 1) := by decide +kernel
theorem d_Law_law_146 : decode code 146 = .ok (.iaload, 1) := by decide +kernel
theorem d_Law_law_147 : decode code 147 = .ok (.aload_n 0, 1) := by decide +kernel
theorem d_Law_law_148 : decode code 148 = .ok (.iload 4, 2) := by decide +kernel
theorem d_Law_law_150 : decode code 150 = .ok (.iconst 3, 1) := by decide +kernel
theorem d_Law_law_151 : decode code 151 = .ok (.iadd, 1) := by decide +kernel
theorem d_Law_law_152 : decode code 152 = .ok (.iaload, 1) := by decide +kernel
theorem d_Law_law_153 : decode code 153 = .ok (.aload_n 0, 1) := by decide +kernel
theorem d_Law_law_154 : decode code 154 = .ok (.iload 4, 2) := by decide +kernel
theorem d_Law_law_156 : decode code 156 = .ok (.iconst 4, 1) := by decide +kernel
theorem d_Law_law_157 : decode code 157 = .ok (.iadd, 1) := by decide +kernel
theorem d_Law_law_158 : decode code 158 = .ok (.iaload, 1) := by decide +kernel
theorem d_Law_law_159 : decode code 159 = .ok (.invokevirtual 65, 3) := by decide +kernel
theorem d_Law_law_162 : decode code 162 = .ok (.aload_n 2, 1) := by decide +kernel
theorem d_Law_law_163 : decode code 163 = .ok (.invokevirtual 66, 3) := by decide +kernel
theorem d_Law_law_166 : decode code 166 = .ok (.iload 5, 2) := by decide +kernel
theorem d_Law_law_168 : decode code 168 = .ok (.if_icmp .eq (5), 3) := by decide +kernel
theorem d_Law_law_171 : decode code 171 = .ok (.iconst 0, 1) := by decide +kernel
theorem d_Law_law_172 : decode code 172 = .ok (.ireturn, 1) := by decide +kernel
theorem d_Law_law_173 : decode code 173 = .ok (.goto (600), 3) := by decide +kernel
theorem d_Law_law_176 : decode code 176 = .ok (.aload_n 1, 1) := by decide +kernel
theorem d_Law_law_177 : decode code 177 = .ok (.aload_n 0, 1) := by decide +kernel
theorem d_Law_law_178 : decode code 178 = .ok (.iload 4, 2) := by decide +kernel
theorem d_Law_law_180 : decode code 180 = .ok (.iconst 1, 1) := by decide +kernel
theorem d_Law_law_181 : decode code 181 = .ok (.iadd, 1) := by decide +kernel
theorem d_Law_law_182 : decode code 182 = .ok (.iaload, 1) := by decide +kernel
theorem d_Law_law_183 : decode code 183 = .ok (.aload_n 3, 1) := by decide +kernel
theorem d_Law_law_184 : decode code 184 = .ok (.invokestatic 69, 3) := by decide +kernel
theorem d_Law_law_187 : decode code 187 = .ok (.istore 5, 2) := by decide +kernel
theorem d_Law_law_189 : decode code 189 = .ok (.aload_n 2, 1) := by decide +kernel
theorem d_Law_law_190 : decode code 190 = .ok (.aload_n 0, 1) := by decide +kernel
theorem d_Law_law_191 : decode code 191 = .ok (.iload 4, 2) := by decide +kernel
theorem d_Law_law_193 : decode code 193 = .ok (.iconst 1, 1) := by decide +kernel
theorem d_Law_law_194 : decode code 194 = .ok (.iadd, 1) := by decide +kernel
theorem d_Law_law_195 : decode code 195 = .ok (.iaload, 1) := by decide +kernel
theorem d_Law_law_196 : decode code 196 = .ok (.invokevirtual 72, 3) := by decide +kernel
theorem d_Law_law_199 : decode code 199 = .ok (.istore 6, 2) := by decide +kernel
theorem d_Law_law_201 : decode code 201 = .ok (.aload_n 2, 1) := by decide +kernel
theorem d_Law_law_202 : decode code 202 = .ok (.invokevirtual 66, 3) := by decide +kernel
theorem d_Law_law_205 : decode code 205 = .ok (.iload 5, 2) := by decide +kernel
theorem d_Law_law_207 : decode code 207 = .ok (.if_icmp .eq (5), 3) := by decide +kernel
theorem d_Law_law_210 : decode code 210 = .ok (.iconst 0, 1) := by decide +kernel
theorem d_Law_law_211 : decode code 211 = .ok (.ireturn, 1) := by decide +kernel
theorem d_Law_law_212 : decode code 212 = .ok (.iload 5, 2) := by decide +kernel
theorem d_Law_law_214 : decode code 214 = .ok (.ifCond .ne (15), 3) := by decide +kernel
theorem d_Law_law_217 : decode code 217 = .ok (.aload_n 3, 1) := by decide +kernel
theorem d_Law_law_218 : decode code 218 = .ok (.iconst 0, 1) := by decide +kernel
theorem d_Law_law_219 : decode code 219 = .ok (.laload, 1) := by decide +kernel
theorem d_Law_law_220 : decode code 220 = .ok (.iload 6, 2) := by decide +kernel
theorem d_Law_law_222 : decode code 222 = .ok (.i2l, 1) := by decide +kernel
theorem d_Law_law_223 : decode code 223 = .ok (.lcmp, 1) := by decide +kernel
theorem d_Law_law_224 : decode code 224 = .ok (.ifCond .eq (5), 3) := by decide +kernel
theorem d_Law_law_227 : decode code 227 = .ok (.iconst 0, 1) := by decide +kernel
theorem d_Law_law_228 : decode code 228 = .ok (.ireturn, 1) := by decide +kernel
theorem d_Law_law_229 : decode code 229 = .ok (.goto (544), 3) := by decide +kernel
theorem d_Law_law_232 : decode code 232 = .ok (.aload_n 1, 1) := by decide +kernel
theorem d_Law_law_233 : decode code 233 = .ok (.aload_n 0, 1) := by decide +kernel
theorem d_Law_law_234 : decode code 234 = .ok (.iload 4, 2) := by decide +kernel
theorem d_Law_law_236 : decode code 236 = .ok (.iconst 1, 1) := by decide +kernel
theorem d_Law_law_237 : decode code 237 = .ok (.iadd, 1) := by decide +kernel
theorem d_Law_law_238 : decode code 238 = .ok (.iaload, 1) := by decide +kernel
theorem d_Law_law_239 : decode code 239 = .ok (.aload_n 3, 1) := by decide +kernel
theorem d_Law_law_240 : decode code 240 = .ok (.invokestatic 73, 3) := by decide +kernel
theorem d_Law_law_243 : decode code 243 = .ok (.istore 5, 2) := by decide +kernel
theorem d_Law_law_245 : decode code 245 = .ok (.aload_n 2, 1) := by decide +kernel
theorem d_Law_law_246 : decode code 246 = .ok (.aload_n 0, 1) := by decide +kernel
theorem d_Law_law_247 : decode code 247 = .ok (.iload 4, 2) := by decide +kernel
theorem d_Law_law_249 : decode code 249 = .ok (.iconst 1, 1) := by decide +kernel
theorem d_Law_law_250 : decode code 250 = .ok (.iadd, 1) := by decide +kernel
theorem d_Law_law_251 : decode code 251 = .ok (.iaload, 1) := by decide +kernel
theorem d_Law_law_252 : decode code 252 = .ok (.invokevirtual 75, 3) := by decide +kernel
theorem d_Law_law_255 : decode code 255 = .ok (.istore 6, 2) := by decide +kernel
theorem d_Law_law_257 : decode code 257 = .ok (.aload_n 2, 1) := by decide +kernel
theorem d_Law_law_258 : decode code 258 = .ok (.invokevirtual 66, 3) := by decide +kernel
theorem d_Law_law_261 : decode code 261 = .ok (.iload 5, 2) := by decide +kernel
theorem d_Law_law_263 : decode code 263 = .ok (.if_icmp .eq (5), 3) := by decide +kernel
theorem d_Law_law_266 : decode code 266 = .ok (.iconst 0, 1) := by decide +kernel
theorem d_Law_law_267 : decode code 267 = .ok (.ireturn, 1) := by decide +kernel
theorem d_Law_law_268 : decode code 268 = .ok (.iload 5, 2) := by decide +kernel
theorem d_Law_law_270 : decode code 270 = .ok (.ifCond .ne (22), 3) := by decide +kernel
theorem d_Law_law_273 : decode code 273 = .ok (.aload_n 3, 1) := by decide +kernel
theorem d_Law_law_274 : decode code 274 = .ok (.iconst 0, 1) := by decide +kernel
theorem d_Law_law_275 : decode code 275 = .ok (.laload, 1) := by decide +kernel
theorem d_Law_law_276 : decode code 276 = .ok (.iload 6, 2) := by decide +kernel
theorem d_Law_law_278 : decode code 278 = .ok (.ifCond .eq (7), 3) := by decide +kernel
theorem d_Law_law_281 : decode code 281 = .ok (.lconst 1, 1) := by decide +kernel
theorem d_Law_law_282 : decode code 282 = .ok (.goto (4), 3) := by decide +kernel
theorem d_Law_law_285 : decode code 285 = .ok (.lconst 0, 1) := by decide +kernel
theorem d_Law_law_286 : decode code 286 = .ok (.lcmp, 1) := by decide +kernel
theorem d_Law_law_287 : decode code 287 = .ok (.ifCond .eq (5), 3) := by decide +kernel
theorem d_Law_law_290 : decode code 290 = .ok (.iconst 0, 1) := by decide +kernel
theorem d_Law_law_291 : decode code 291 = .ok (.ireturn, 1) := by decide +kernel
theorem d_Law_law_292 : decode code 292 = .ok (.goto (481), 3) := by decide +kernel
theorem d_Law_law_295 : decode code 295 = .ok (.aload_n 1, 1) := by decide +kernel
theorem d_Law_law_296 : decode code 296 = .ok (.aload_n 0, 1) := by decide +kernel
theorem d_Law_law_297 : decode code 297 = .ok (.iload 4, 2) := by decide +kernel
theorem d_Law_law_299 : decode code 299 = .ok (.iconst 1, 1) := by decide +kernel
theorem d_Law_law_300 : decode code 300 = .ok (.iadd, 1) := by decide +kernel
theorem d_Law_law_301 : decode code 301 = .ok (.iaload, 1) := by decide +kernel
theorem d_Law_law_302 : decode code 302 = .ok (.aload_n 0, 1) := by decide +kernel
theorem d_Law_law_303 : decode code 303 = .ok (.iload 4, 2) := by decide +kernel
theorem d_Law_law_305 : decode code 305 = .ok (.iconst 2, 1) := by decide +kernel
theorem d_Law_law_306 : decode code 306 = .ok (.iadd, 1) := by decide +kernel
theorem d_Law_law_307 : decode code 307 = .ok (.iaload, 1) := by decide +kernel
theorem d_Law_law_308 : decode code 308 = .ok (.aload_n 3, 1) := by decide +kernel
theorem d_Law_law_309 : decode code 309 = .ok (.invokestatic 76, 3) := by decide +kernel
theorem d_Law_law_312 : decode code 312 = .ok (.istore 5, 2) := by decide +kernel
theorem d_Law_law_314 : decode code 314 = .ok (.aload_n 2, 1) := by decide +kernel
theorem d_Law_law_315 : decode code 315 = .ok (.aload_n 0, 1) := by decide +kernel
theorem d_Law_law_316 : decode code 316 = .ok (.iload 4, 2) := by decide +kernel
theorem d_Law_law_318 : decode code 318 = .ok (.iconst 1, 1) := by decide +kernel
theorem d_Law_law_319 : decode code 319 = .ok (.iadd, 1) := by decide +kernel
theorem d_Law_law_320 : decode code 320 = .ok (.iaload, 1) := by decide +kernel
theorem d_Law_law_321 : decode code 321 = .ok (.aload_n 0, 1) := by decide +kernel
theorem d_Law_law_322 : decode code 322 = .ok (.iload 4, 2) := by decide +kernel
theorem d_Law_law_324 : decode code 324 = .ok (.iconst 2, 1) := by decide +kernel
theorem d_Law_law_325 : decode code 325 = .ok (.iadd, 1) := by decide +kernel
theorem d_Law_law_326 : decode code 326 = .ok (.iaload, 1) := by decide +kernel
theorem d_Law_law_327 : decode code 327 = .ok (.invokevirtual 79, 3) := by decide +kernel
theorem d_Law_law_330 : decode code 330 = .ok (.istore 6, 2) := by decide +kernel
theorem d_Law_law_332 : decode code 332 = .ok (.aload_n 2, 1) := by decide +kernel
theorem d_Law_law_333 : decode code 333 = .ok (.invokevirtual 66, 3) := by decide +kernel
theorem d_Law_law_336 : decode code 336 = .ok (.iload 5, 2) := by decide +kernel
theorem d_Law_law_338 : decode code 338 = .ok (.if_icmp .eq (5), 3) := by decide +kernel
theorem d_Law_law_341 : decode code 341 = .ok (.iconst 0, 1) := by decide +kernel
theorem d_Law_law_342 : decode code 342 = .ok (.ireturn, 1) := by decide +kernel
theorem d_Law_law_343 : decode code 343 = .ok (.iload 5, 2) := by decide +kernel
theorem d_Law_law_345 : decode code 345 = .ok (.ifCond .ne (15), 3) := by decide +kernel
theorem d_Law_law_348 : decode code 348 = .ok (.aload_n 3, 1) := by decide +kernel
theorem d_Law_law_349 : decode code 349 = .ok (.iconst 0, 1) := by decide +kernel
theorem d_Law_law_350 : decode code 350 = .ok (.laload, 1) := by decide +kernel
theorem d_Law_law_351 : decode code 351 = .ok (.iload 6, 2) := by decide +kernel
theorem d_Law_law_353 : decode code 353 = .ok (.i2l, 1) := by decide +kernel
theorem d_Law_law_354 : decode code 354 = .ok (.lcmp, 1) := by decide +kernel
theorem d_Law_law_355 : decode code 355 = .ok (.ifCond .eq (5), 3) := by decide +kernel
theorem d_Law_law_358 : decode code 358 = .ok (.iconst 0, 1) := by decide +kernel
theorem d_Law_law_359 : decode code 359 = .ok (.ireturn, 1) := by decide +kernel
theorem d_Law_law_360 : decode code 360 = .ok (.goto (413), 3) := by decide +kernel
theorem d_Law_law_363 : decode code 363 = .ok (.aload_n 1, 1) := by decide +kernel
theorem d_Law_law_364 : decode code 364 = .ok (.aload_n 3, 1) := by decide +kernel
theorem d_Law_law_365 : decode code 365 = .ok (.invokestatic 80, 3) := by decide +kernel
theorem d_Law_law_368 : decode code 368 = .ok (.istore 5, 2) := by decide +kernel
theorem d_Law_law_370 : decode code 370 = .ok (.aload_n 2, 1) := by decide +kernel
theorem d_Law_law_371 : decode code 371 = .ok (.invokevirtual 83, 3) := by decide +kernel
theorem d_Law_law_374 : decode code 374 = .ok (.istore 6, 2) := by decide +kernel
theorem d_Law_law_376 : decode code 376 = .ok (.aload_n 2, 1) := by decide +kernel
theorem d_Law_law_377 : decode code 377 = .ok (.invokevirtual 66, 3) := by decide +kernel
theorem d_Law_law_380 : decode code 380 = .ok (.iload 5, 2) := by decide +kernel
theorem d_Law_law_382 : decode code 382 = .ok (.if_icmp .eq (5), 3) := by decide +kernel
theorem d_Law_law_385 : decode code 385 = .ok (.iconst 0, 1) := by decide +kernel
theorem d_Law_law_386 : decode code 386 = .ok (.ireturn, 1) := by decide +kernel
theorem d_Law_law_387 : decode code 387 = .ok (.iload 5, 2) := by decide +kernel
theorem d_Law_law_389 : decode code 389 = .ok (.ifCond .ne (15), 3) := by decide +kernel
theorem d_Law_law_392 : decode code 392 = .ok (.aload_n 3, 1) := by decide +kernel
theorem d_Law_law_393 : decode code 393 = .ok (.iconst 0, 1) := by decide +kernel
theorem d_Law_law_394 : decode code 394 = .ok (.laload, 1) := by decide +kernel
theorem d_Law_law_395 : decode code 395 = .ok (.iload 6, 2) := by decide +kernel
theorem d_Law_law_397 : decode code 397 = .ok (.i2l, 1) := by decide +kernel
theorem d_Law_law_398 : decode code 398 = .ok (.lcmp, 1) := by decide +kernel
theorem d_Law_law_399 : decode code 399 = .ok (.ifCond .eq (5), 3) := by decide +kernel
theorem d_Law_law_402 : decode code 402 = .ok (.iconst 0, 1) := by decide +kernel
theorem d_Law_law_403 : decode code 403 = .ok (.ireturn, 1) := by decide +kernel
theorem d_Law_law_404 : decode code 404 = .ok (.goto (369), 3) := by decide +kernel
theorem d_Law_law_407 : decode code 407 = .ok (.aload_n 1, 1) := by decide +kernel
theorem d_Law_law_408 : decode code 408 = .ok (.aload_n 0, 1) := by decide +kernel
theorem d_Law_law_409 : decode code 409 = .ok (.iload 4, 2) := by decide +kernel
theorem d_Law_law_411 : decode code 411 = .ok (.iconst 1, 1) := by decide +kernel
theorem d_Law_law_412 : decode code 412 = .ok (.iadd, 1) := by decide +kernel
theorem d_Law_law_413 : decode code 413 = .ok (.iaload, 1) := by decide +kernel
theorem d_Law_law_414 : decode code 414 = .ok (.aload_n 3, 1) := by decide +kernel
theorem d_Law_law_415 : decode code 415 = .ok (.invokestatic 84, 3) := by decide +kernel
theorem d_Law_law_418 : decode code 418 = .ok (.istore 5, 2) := by decide +kernel
theorem d_Law_law_420 : decode code 420 = .ok (.aload_n 2, 1) := by decide +kernel
theorem d_Law_law_421 : decode code 421 = .ok (.aload_n 0, 1) := by decide +kernel
theorem d_Law_law_422 : decode code 422 = .ok (.iload 4, 2) := by decide +kernel
theorem d_Law_law_424 : decode code 424 = .ok (.iconst 1, 1) := by decide +kernel
theorem d_Law_law_425 : decode code 425 = .ok (.iadd, 1) := by decide +kernel
theorem d_Law_law_426 : decode code 426 = .ok (.iaload, 1) := by decide +kernel
theorem d_Law_law_427 : decode code 427 = .ok (.invokevirtual 86, 3) := by decide +kernel
theorem d_Law_law_430 : decode code 430 = .ok (.istore 6, 2) := by decide +kernel
theorem d_Law_law_432 : decode code 432 = .ok (.aload_n 2, 1) := by decide +kernel
theorem d_Law_law_433 : decode code 433 = .ok (.invokevirtual 66, 3) := by decide +kernel
theorem d_Law_law_436 : decode code 436 = .ok (.iload 5, 2) := by decide +kernel
theorem d_Law_law_438 : decode code 438 = .ok (.if_icmp .eq (5), 3) := by decide +kernel
theorem d_Law_law_441 : decode code 441 = .ok (.iconst 0, 1) := by decide +kernel
theorem d_Law_law_442 : decode code 442 = .ok (.ireturn, 1) := by decide +kernel
theorem d_Law_law_443 : decode code 443 = .ok (.iload 5, 2) := by decide +kernel
theorem d_Law_law_445 : decode code 445 = .ok (.ifCond .ne (15), 3) := by decide +kernel
theorem d_Law_law_448 : decode code 448 = .ok (.aload_n 3, 1) := by decide +kernel
theorem d_Law_law_449 : decode code 449 = .ok (.iconst 0, 1) := by decide +kernel
theorem d_Law_law_450 : decode code 450 = .ok (.laload, 1) := by decide +kernel
theorem d_Law_law_451 : decode code 451 = .ok (.iload 6, 2) := by decide +kernel
theorem d_Law_law_453 : decode code 453 = .ok (.i2l, 1) := by decide +kernel
theorem d_Law_law_454 : decode code 454 = .ok (.lcmp, 1) := by decide +kernel
theorem d_Law_law_455 : decode code 455 = .ok (.ifCond .eq (5), 3) := by decide +kernel
theorem d_Law_law_458 : decode code 458 = .ok (.iconst 0, 1) := by decide +kernel
theorem d_Law_law_459 : decode code 459 = .ok (.ireturn, 1) := by decide +kernel
theorem d_Law_law_460 : decode code 460 = .ok (.goto (313), 3) := by decide +kernel
theorem d_Law_law_463 : decode code 463 = .ok (.aload_n 1, 1) := by decide +kernel
theorem d_Law_law_464 : decode code 464 = .ok (.aload_n 0, 1) := by decide +kernel
theorem d_Law_law_465 : decode code 465 = .ok (.iload 4, 2) := by decide +kernel
theorem d_Law_law_467 : decode code 467 = .ok (.iconst 1, 1) := by decide +kernel
theorem d_Law_law_468 : decode code 468 = .ok (.iadd, 1) := by decide +kernel
theorem d_Law_law_469 : decode code 469 = .ok (.iaload, 1) := by decide +kernel
theorem d_Law_law_470 : decode code 470 = .ok (.aload_n 3, 1) := by decide +kernel
theorem d_Law_law_471 : decode code 471 = .ok (.invokestatic 87, 3) := by decide +kernel
theorem d_Law_law_474 : decode code 474 = .ok (.istore 5, 2) := by decide +kernel
theorem d_Law_law_476 : decode code 476 = .ok (.aload_n 2, 1) := by decide +kernel
theorem d_Law_law_477 : decode code 477 = .ok (.aload_n 0, 1) := by decide +kernel
theorem d_Law_law_478 : decode code 478 = .ok (.iload 4, 2) := by decide +kernel
theorem d_Law_law_480 : decode code 480 = .ok (.iconst 1, 1) := by decide +kernel
theorem d_Law_law_481 : decode code 481 = .ok (.iadd, 1) := by decide +kernel
theorem d_Law_law_482 : decode code 482 = .ok (.iaload, 1) := by decide +kernel
theorem d_Law_law_483 : decode code 483 = .ok (.invokevirtual 89, 3) := by decide +kernel
theorem d_Law_law_486 : decode code 486 = .ok (.istore 6, 2) := by decide +kernel
theorem d_Law_law_488 : decode code 488 = .ok (.aload_n 2, 1) := by decide +kernel
theorem d_Law_law_489 : decode code 489 = .ok (.invokevirtual 66, 3) := by decide +kernel
theorem d_Law_law_492 : decode code 492 = .ok (.iload 5, 2) := by decide +kernel
theorem d_Law_law_494 : decode code 494 = .ok (.if_icmp .eq (5), 3) := by decide +kernel
theorem d_Law_law_497 : decode code 497 = .ok (.iconst 0, 1) := by decide +kernel
theorem d_Law_law_498 : decode code 498 = .ok (.ireturn, 1) := by decide +kernel
theorem d_Law_law_499 : decode code 499 = .ok (.iload 5, 2) := by decide +kernel
theorem d_Law_law_501 : decode code 501 = .ok (.ifCond .ne (15), 3) := by decide +kernel
theorem d_Law_law_504 : decode code 504 = .ok (.aload_n 3, 1) := by decide +kernel
theorem d_Law_law_505 : decode code 505 = .ok (.iconst 0, 1) := by decide +kernel
theorem d_Law_law_506 : decode code 506 = .ok (.laload, 1) := by decide +kernel
theorem d_Law_law_507 : decode code 507 = .ok (.iload 6, 2) := by decide +kernel
theorem d_Law_law_509 : decode code 509 = .ok (.i2l, 1) := by decide +kernel
theorem d_Law_law_510 : decode code 510 = .ok (.lcmp, 1) := by decide +kernel
theorem d_Law_law_511 : decode code 511 = .ok (.ifCond .eq (5), 3) := by decide +kernel
theorem d_Law_law_514 : decode code 514 = .ok (.iconst 0, 1) := by decide +kernel
theorem d_Law_law_515 : decode code 515 = .ok (.ireturn, 1) := by decide +kernel
theorem d_Law_law_516 : decode code 516 = .ok (.goto (257), 3) := by decide +kernel
theorem d_Law_law_519 : decode code 519 = .ok (.aload_n 1, 1) := by decide +kernel
theorem d_Law_law_520 : decode code 520 = .ok (.aload_n 0, 1) := by decide +kernel
theorem d_Law_law_521 : decode code 521 = .ok (.iload 4, 2) := by decide +kernel
theorem d_Law_law_523 : decode code 523 = .ok (.iconst 1, 1) := by decide +kernel
theorem d_Law_law_524 : decode code 524 = .ok (.iadd, 1) := by decide +kernel
theorem d_Law_law_525 : decode code 525 = .ok (.iaload, 1) := by decide +kernel
theorem d_Law_law_526 : decode code 526 = .ok (.invokestatic 90, 3) := by decide +kernel
theorem d_Law_law_529 : decode code 529 = .ok (.istore 5, 2) := by decide +kernel
theorem d_Law_law_531 : decode code 531 = .ok (.aload_n 2, 1) := by decide +kernel
theorem d_Law_law_532 : decode code 532 = .ok (.aload_n 0, 1) := by decide +kernel
theorem d_Law_law_533 : decode code 533 = .ok (.iload 4, 2) := by decide +kernel
theorem d_Law_law_535 : decode code 535 = .ok (.iconst 1, 1) := by decide +kernel
theorem d_Law_law_536 : decode code 536 = .ok (.iadd, 1) := by decide +kernel
theorem d_Law_law_537 : decode code 537 = .ok (.iaload, 1) := by decide +kernel
theorem d_Law_law_538 : decode code 538 = .ok (.invokevirtual 93, 3) := by decide +kernel
theorem d_Law_law_541 : decode code 541 = .ok (.aload_n 2, 1) := by decide +kernel
theorem d_Law_law_542 : decode code 542 = .ok (.invokevirtual 66, 3) := by decide +kernel
theorem d_Law_law_545 : decode code 545 = .ok (.iload 5, 2) := by decide +kernel
theorem d_Law_law_547 : decode code 547 = .ok (.if_icmp .eq (5), 3) := by decide +kernel
theorem d_Law_law_550 : decode code 550 = .ok (.iconst 0, 1) := by decide +kernel
theorem d_Law_law_551 : decode code 551 = .ok (.ireturn, 1) := by decide +kernel
theorem d_Law_law_552 : decode code 552 = .ok (.goto (221), 3) := by decide +kernel
theorem d_Law_law_555 : decode code 555 = .ok (.aload_n 1, 1) := by decide +kernel
theorem d_Law_law_556 : decode code 556 = .ok (.invokevirtual 94, 3) := by decide +kernel
theorem d_Law_law_559 : decode code 559 = .ok (.aload_n 2, 1) := by decide +kernel
theorem d_Law_law_560 : decode code 560 = .ok (.invokevirtual 97, 3) := by decide +kernel
theorem d_Law_law_563 : decode code 563 = .ok (.if_icmp .eq (210), 3) := by decide +kernel
theorem d_Law_law_566 : decode code 566 = .ok (.iconst 0, 1) := by decide +kernel
theorem d_Law_law_567 : decode code 567 = .ok (.ireturn, 1) := by decide +kernel
theorem d_Law_law_568 : decode code 568 = .ok (.aload_n 1, 1) := by decide +kernel
theorem d_Law_law_569 : decode code 569 = .ok (.invokevirtual 98, 3) := by decide +kernel
theorem d_Law_law_572 : decode code 572 = .ok (.aload_n 2, 1) := by decide +kernel
theorem d_Law_law_573 : decode code 573 = .ok (.invokevirtual 102, 3) := by decide +kernel
theorem d_Law_law_576 : decode code 576 = .ok (.if_icmp .eq (197), 3) := by decide +kernel
theorem d_Law_law_579 : decode code 579 = .ok (.iconst 0, 1) := by decide +kernel
theorem d_Law_law_580 : decode code 580 = .ok (.ireturn, 1) := by decide +kernel
theorem d_Law_law_581 : decode code 581 = .ok (.aload_n 1, 1) := by decide +kernel
theorem d_Law_law_582 : decode code 582 = .ok (.aload_n 0, 1) := by decide +kernel
theorem d_Law_law_583 : decode code 583 = .ok (.iload 4, 2) := by decide +kernel
theorem d_Law_law_585 : decode code 585 = .ok (.iconst 1, 1) := by decide +kernel
theorem d_Law_law_586 : decode code 586 = .ok (.iadd, 1) := by decide +kernel
theorem d_Law_law_587 : decode code 587 = .ok (.iaload, 1) := by decide +kernel
theorem d_Law_law_588 : decode code 588 = .ok (.aload_n 3, 1) := by decide +kernel
theorem d_Law_law_589 : decode code 589 = .ok (.invokestatic 103, 3) := by decide +kernel
theorem d_Law_law_592 : decode code 592 = .ok (.istore 5, 2) := by decide +kernel
theorem d_Law_law_594 : decode code 594 = .ok (.aload_n 2, 1) := by decide +kernel
theorem d_Law_law_595 : decode code 595 = .ok (.aload_n 0, 1) := by decide +kernel
theorem d_Law_law_596 : decode code 596 = .ok (.iload 4, 2) := by decide +kernel
theorem d_Law_law_598 : decode code 598 = .ok (.iconst 1, 1) := by decide +kernel
theorem d_Law_law_599 : decode code 599 = .ok (.iadd, 1) := by decide +kernel
theorem d_Law_law_600 : decode code 600 = .ok (.iaload, 1) := by decide +kernel
theorem d_Law_law_601 : decode code 601 = .ok (.invokevirtual 105, 3) := by decide +kernel
theorem d_Law_law_604 : decode code 604 = .ok (.istore 6, 2) := by decide +kernel
theorem d_Law_law_606 : decode code 606 = .ok (.aload_n 2, 1) := by decide +kernel
theorem d_Law_law_607 : decode code 607 = .ok (.invokevirtual 66, 3) := by decide +kernel
theorem d_Law_law_610 : decode code 610 = .ok (.iload 5, 2) := by decide +kernel
theorem d_Law_law_612 : decode code 612 = .ok (.if_icmp .eq (5), 3) := by decide +kernel
theorem d_Law_law_615 : decode code 615 = .ok (.iconst 0, 1) := by decide +kernel
theorem d_Law_law_616 : decode code 616 = .ok (.ireturn, 1) := by decide +kernel
theorem d_Law_law_617 : decode code 617 = .ok (.iload 5, 2) := by decide +kernel
theorem d_Law_law_619 : decode code 619 = .ok (.ifCond .ne (15), 3) := by decide +kernel
theorem d_Law_law_622 : decode code 622 = .ok (.aload_n 3, 1) := by decide +kernel
theorem d_Law_law_623 : decode code 623 = .ok (.iconst 0, 1) := by decide +kernel
theorem d_Law_law_624 : decode code 624 = .ok (.laload, 1) := by decide +kernel
theorem d_Law_law_625 : decode code 625 = .ok (.iload 6, 2) := by decide +kernel
theorem d_Law_law_627 : decode code 627 = .ok (.i2l, 1) := by decide +kernel
theorem d_Law_law_628 : decode code 628 = .ok (.lcmp, 1) := by decide +kernel
theorem d_Law_law_629 : decode code 629 = .ok (.ifCond .eq (5), 3) := by decide +kernel
theorem d_Law_law_632 : decode code 632 = .ok (.iconst 0, 1) := by decide +kernel
theorem d_Law_law_633 : decode code 633 = .ok (.ireturn, 1) := by decide +kernel
theorem d_Law_law_634 : decode code 634 = .ok (.goto (139), 3) := by decide +kernel
theorem d_Law_law_637 : decode code 637 = .ok (.aload_n 1, 1) := by decide +kernel
theorem d_Law_law_638 : decode code 638 = .ok (.aload_n 0, 1) := by decide +kernel
theorem d_Law_law_639 : decode code 639 = .ok (.iload 4, 2) := by decide +kernel
theorem d_Law_law_641 : decode code 641 = .ok (.iconst 1, 1) := by decide +kernel
theorem d_Law_law_642 : decode code 642 = .ok (.iadd, 1) := by decide +kernel
theorem d_Law_law_643 : decode code 643 = .ok (.iaload, 1) := by decide +kernel
theorem d_Law_law_644 : decode code 644 = .ok (.aload_n 0, 1) := by decide +kernel
theorem d_Law_law_645 : decode code 645 = .ok (.iload 4, 2) := by decide +kernel
theorem d_Law_law_647 : decode code 647 = .ok (.iconst 2, 1) := by decide +kernel
theorem d_Law_law_648 : decode code 648 = .ok (.iadd, 1) := by decide +kernel
theorem d_Law_law_649 : decode code 649 = .ok (.iaload, 1) := by decide +kernel
theorem d_Law_law_650 : decode code 650 = .ok (.aload_n 3, 1) := by decide +kernel
theorem d_Law_law_651 : decode code 651 = .ok (.invokestatic 106, 3) := by decide +kernel
theorem d_Law_law_654 : decode code 654 = .ok (.istore 5, 2) := by decide +kernel
theorem d_Law_law_656 : decode code 656 = .ok (.aload_n 2, 1) := by decide +kernel
theorem d_Law_law_657 : decode code 657 = .ok (.aload_n 0, 1) := by decide +kernel
theorem d_Law_law_658 : decode code 658 = .ok (.iload 4, 2) := by decide +kernel
theorem d_Law_law_660 : decode code 660 = .ok (.iconst 1, 1) := by decide +kernel
theorem d_Law_law_661 : decode code 661 = .ok (.iadd, 1) := by decide +kernel
theorem d_Law_law_662 : decode code 662 = .ok (.iaload, 1) := by decide +kernel
theorem d_Law_law_663 : decode code 663 = .ok (.aload_n 0, 1) := by decide +kernel
theorem d_Law_law_664 : decode code 664 = .ok (.iload 4, 2) := by decide +kernel
theorem d_Law_law_666 : decode code 666 = .ok (.iconst 2, 1) := by decide +kernel
theorem d_Law_law_667 : decode code 667 = .ok (.iadd, 1) := by decide +kernel
theorem d_Law_law_668 : decode code 668 = .ok (.iaload, 1) := by decide +kernel
theorem d_Law_law_669 : decode code 669 = .ok (.invokevirtual 108, 3) := by decide +kernel
theorem d_Law_law_672 : decode code 672 = .ok (.istore 6, 2) := by decide +kernel
theorem d_Law_law_674 : decode code 674 = .ok (.aload_n 2, 1) := by decide +kernel
theorem d_Law_law_675 : decode code 675 = .ok (.invokevirtual 66, 3) := by decide +kernel
theorem d_Law_law_678 : decode code 678 = .ok (.iload 5, 2) := by decide +kernel
theorem d_Law_law_680 : decode code 680 = .ok (.if_icmp .eq (5), 3) := by decide +kernel
theorem d_Law_law_683 : decode code 683 = .ok (.iconst 0, 1) := by decide +kernel
theorem d_Law_law_684 : decode code 684 = .ok (.ireturn, 1) := by decide +kernel
theorem d_Law_law_685 : decode code 685 = .ok (.iload 5, 2) := by decide +kernel
theorem d_Law_law_687 : decode code 687 = .ok (.ifCond .ne (15), 3) := by decide +kernel
theorem d_Law_law_690 : decode code 690 = .ok (.aload_n 3, 1) := by decide +kernel
theorem d_Law_law_691 : decode code 691 = .ok (.iconst 0, 1) := by decide +kernel
theorem d_Law_law_692 : decode code 692 = .ok (.laload, 1) := by decide +kernel
theorem d_Law_law_693 : decode code 693 = .ok (.iload 6, 2) := by decide +kernel
theorem d_Law_law_695 : decode code 695 = .ok (.i2l, 1) := by decide +kernel
theorem d_Law_law_696 : decode code 696 = .ok (.lcmp, 1) := by decide +kernel
theorem d_Law_law_697 : decode code 697 = .ok (.ifCond .eq (5), 3) := by decide +kernel
theorem d_Law_law_700 : decode code 700 = .ok (.iconst 0, 1) := by decide +kernel
theorem d_Law_law_701 : decode code 701 = .ok (.ireturn, 1) := by decide +kernel
theorem d_Law_law_702 : decode code 702 = .ok (.goto (71), 3) := by decide +kernel
theorem d_Law_law_705 : decode code 705 = .ok (.aload_n 1, 1) := by decide +kernel
theorem d_Law_law_706 : decode code 706 = .ok (.aload_n 0, 1) := by decide +kernel
theorem d_Law_law_707 : decode code 707 = .ok (.iload 4, 2) := by decide +kernel
theorem d_Law_law_709 : decode code 709 = .ok (.iconst 1, 1) := by decide +kernel
theorem d_Law_law_710 : decode code 710 = .ok (.iadd, 1) := by decide +kernel
theorem d_Law_law_711 : decode code 711 = .ok (.iaload, 1) := by decide +kernel
theorem d_Law_law_712 : decode code 712 = .ok (.aload_n 0, 1) := by decide +kernel
theorem d_Law_law_713 : decode code 713 = .ok (.iload 4, 2) := by decide +kernel
theorem d_Law_law_715 : decode code 715 = .ok (.iconst 2, 1) := by decide +kernel
theorem d_Law_law_716 : decode code 716 = .ok (.iadd, 1) := by decide +kernel
theorem d_Law_law_717 : decode code 717 = .ok (.iaload, 1) := by decide +kernel
theorem d_Law_law_718 : decode code 718 = .ok (.aload_n 3, 1) := by decide +kernel
theorem d_Law_law_719 : decode code 719 = .ok (.invokestatic 109, 3) := by decide +kernel
theorem d_Law_law_722 : decode code 722 = .ok (.istore 5, 2) := by decide +kernel
theorem d_Law_law_724 : decode code 724 = .ok (.aload_n 2, 1) := by decide +kernel
theorem d_Law_law_725 : decode code 725 = .ok (.aload_n 0, 1) := by decide +kernel
theorem d_Law_law_726 : decode code 726 = .ok (.iload 4, 2) := by decide +kernel
theorem d_Law_law_728 : decode code 728 = .ok (.iconst 1, 1) := by decide +kernel
theorem d_Law_law_729 : decode code 729 = .ok (.iadd, 1) := by decide +kernel
theorem d_Law_law_730 : decode code 730 = .ok (.iaload, 1) := by decide +kernel
theorem d_Law_law_731 : decode code 731 = .ok (.aload_n 0, 1) := by decide +kernel
theorem d_Law_law_732 : decode code 732 = .ok (.iload 4, 2) := by decide +kernel
theorem d_Law_law_734 : decode code 734 = .ok (.iconst 2, 1) := by decide +kernel
theorem d_Law_law_735 : decode code 735 = .ok (.iadd, 1) := by decide +kernel
theorem d_Law_law_736 : decode code 736 = .ok (.iaload, 1) := by decide +kernel
theorem d_Law_law_737 : decode code 737 = .ok (.invokevirtual 111, 3) := by decide +kernel
theorem d_Law_law_740 : decode code 740 = .ok (.istore 6, 2) := by decide +kernel
theorem d_Law_law_742 : decode code 742 = .ok (.aload_n 2, 1) := by decide +kernel
theorem d_Law_law_743 : decode code 743 = .ok (.invokevirtual 66, 3) := by decide +kernel
theorem d_Law_law_746 : decode code 746 = .ok (.iload 5, 2) := by decide +kernel
theorem d_Law_law_748 : decode code 748 = .ok (.if_icmp .eq (5), 3) := by decide +kernel
theorem d_Law_law_751 : decode code 751 = .ok (.iconst 0, 1) := by decide +kernel
theorem d_Law_law_752 : decode code 752 = .ok (.ireturn, 1) := by decide +kernel
theorem d_Law_law_753 : decode code 753 = .ok (.iload 5, 2) := by decide +kernel
theorem d_Law_law_755 : decode code 755 = .ok (.ifCond .ne (15), 3) := by decide +kernel
theorem d_Law_law_758 : decode code 758 = .ok (.aload_n 3, 1) := by decide +kernel
theorem d_Law_law_759 : decode code 759 = .ok (.iconst 0, 1) := by decide +kernel
theorem d_Law_law_760 : decode code 760 = .ok (.laload, 1) := by decide +kernel
theorem d_Law_law_761 : decode code 761 = .ok (.iload 6, 2) := by decide +kernel
theorem d_Law_law_763 : decode code 763 = .ok (.i2l, 1) := by decide +kernel
theorem d_Law_law_764 : decode code 764 = .ok (.lcmp, 1) := by decide +kernel
theorem d_Law_law_765 : decode code 765 = .ok (.ifCond .eq (5), 3) := by decide +kernel
theorem d_Law_law_768 : decode code 768 = .ok (.iconst 0, 1) := by decide +kernel
theorem d_Law_law_769 : decode code 769 = .ok (.ireturn, 1) := by decide +kernel
theorem d_Law_law_770 : decode code 770 = .ok (.goto (3), 3) := by decide +kernel
theorem d_Law_law_773 : decode code 773 = .ok (.iinc 4 (5), 3) := by decide +kernel
theorem d_Law_law_776 : decode code 776 = .ok (.goto (-753), 3) := by decide +kernel
theorem d_Law_law_779 : decode code 779 = .ok (.iconst 1, 1) := by decide +kernel
theorem d_Law_law_780 : decode code 780 = .ok (.ireturn, 1) := by decide +kernel
end
section
def R_Orb : String := "RelayOrbiter"
def T_Orb : u_T := fun k => match k with
  | 0 => ("RelayOrbiter", "landerWindow", "LRelayOrbiter$Window;", true)
  | 1 => ("RelayOrbiter", "earthWindow", "LRelayOrbiter$Window;", true)
  | 2 => ("RelayOrbiter", "memory", "LRelayOrbiter$Store;", true)
  | 3 => ("RelayOrbiter", "session", "LRelayOrbiter$Session;", true)
  | 4 => ("RelayOrbiter", "landerLink", "LRelayOrbiter$LanderLink;", true)
  | 5 => ("RelayOrbiter", "earthLink", "LRelayOrbiter$EarthLink;", true)
  | _ => ("RelayOrbiter", "now", "I", false)
def ty_Orb : Nat → FieldType := fun k => match k with
  | 0 => .object "RelayOrbiter$Window"
  | 1 => .object "RelayOrbiter$Window"
  | 2 => .object "RelayOrbiter$Store"
  | 3 => .object "RelayOrbiter$Session"
  | 4 => .object "RelayOrbiter$LanderLink"
  | 5 => .object "RelayOrbiter$EarthLink"
  | _ => .int
theorem nm_Orb : ∀ a, a < 7 → ∀ b, b < 7 → a ≠ b → (T_Orb a).2.1 ≠ (T_Orb b).2.1 := by decide +kernel
theorem tk_Orb : ∀ k, k < 7 → parseFieldDescriptor (T_Orb k).2.2.1 = some (ty_Orb k) := by decide +kernel
def R_Win : String := "RelayOrbiter$Window"
def T_Win : u_T := fun k => match k with
  | 0 => ("RelayOrbiter$Window", "shift", "I", false)
  | 1 => ("RelayOrbiter$Window", "period", "I", false)
  | _ => ("RelayOrbiter$Window", "length", "I", false)
def ty_Win : Nat → FieldType := fun k => match k with
  | 0 => .int
  | 1 => .int
  | _ => .int
theorem nm_Win : ∀ a, a < 3 → ∀ b, b < 3 → a ≠ b → (T_Win a).2.1 ≠ (T_Win b).2.1 := by decide +kernel
theorem tk_Win : ∀ k, k < 3 → parseFieldDescriptor (T_Win k).2.2.1 = some (ty_Win k) := by decide +kernel
def R_Sto : String := "RelayOrbiter$Store"
def T_Sto : u_T := fun k => match k with
  | 0 => ("RelayOrbiter$Store", "bytes", "[I", true)
  | 1 => ("RelayOrbiter$Store", "used", "[Z", true)
  | 2 => ("RelayOrbiter$Store", "packets", "[LRelayOrbiter$Packet;", true)
  | 3 => ("RelayOrbiter$Store", "count", "I", false)
  | 4 => ("RelayOrbiter$Store", "freeBlocks", "I", false)
  | 5 => ("RelayOrbiter$Store", "nextNumber", "I", false)
  | 6 => ("RelayOrbiter$Store", "entries", "I", false)
  | 7 => ("RelayOrbiter$Store", "writes", "I", false)
  | 8 => ("RelayOrbiter$Store", "writesLeft", "I", false)
  | _ => ("RelayOrbiter$Store", "out", "Z", false)
def ty_Sto : Nat → FieldType := fun k => match k with
  | 0 => .array (.int)
  | 1 => .array (.boolean)
  | 2 => .array (.object "RelayOrbiter$Packet")
  | 3 => .int
  | 4 => .int
  | 5 => .int
  | 6 => .int
  | 7 => .int
  | 8 => .int
  | _ => .boolean
theorem nm_Sto : ∀ a, a < 10 → ∀ b, b < 10 → a ≠ b → (T_Sto a).2.1 ≠ (T_Sto b).2.1 := by decide +kernel
theorem tk_Sto : ∀ k, k < 10 → parseFieldDescriptor (T_Sto k).2.2.1 = some (ty_Sto k) := by decide +kernel
def R_Pkt : String := "RelayOrbiter$Packet"
def T_Pkt : u_T := fun k => match k with
  | 0 => ("RelayOrbiter$Packet", "blocks", "[I", true)
  | 1 => ("RelayOrbiter$Packet", "number", "I", false)
  | 2 => ("RelayOrbiter$Packet", "length", "I", false)
  | 3 => ("RelayOrbiter$Packet", "apid", "I", false)
  | _ => ("RelayOrbiter$Packet", "emitted", "I", false)
def ty_Pkt : Nat → FieldType := fun k => match k with
  | 0 => .array (.int)
  | 1 => .int
  | 2 => .int
  | 3 => .int
  | _ => .int
theorem nm_Pkt : ∀ a, a < 5 → ∀ b, b < 5 → a ≠ b → (T_Pkt a).2.1 ≠ (T_Pkt b).2.1 := by decide +kernel
theorem tk_Pkt : ∀ k, k < 5 → parseFieldDescriptor (T_Pkt k).2.2.1 = some (ty_Pkt k) := by decide +kernel
def R_Ses : String := "RelayOrbiter$Session"
def T_Ses : u_T := fun k => match k with
  | 0 => ("RelayOrbiter$Session", "memory", "LRelayOrbiter$Store;", true)
  | 1 => ("RelayOrbiter$Session", "harvest", "LRelayOrbiter$Harvest;", true)
  | 2 => ("RelayOrbiter$Session", "streams", "[LRelayOrbiter$Stream;", true)
  | 3 => ("RelayOrbiter$Session", "on", "Z", false)
  | 4 => ("RelayOrbiter$Session", "channel", "I", false)
  | 5 => ("RelayOrbiter$Session", "expected", "I", false)
  | 6 => ("RelayOrbiter$Session", "retransmit", "Z", false)
  | 7 => ("RelayOrbiter$Session", "expeditedCount", "I", false)
  | 8 => ("RelayOrbiter$Session", "touched", "LRelayOrbiter$Stream;", false)
  | _ => ("RelayOrbiter$Session", "touchedGoesOn", "Z", false)
def ty_Ses : Nat → FieldType := fun k => match k with
  | 0 => .object "RelayOrbiter$Store"
  | 1 => .object "RelayOrbiter$Harvest"
  | 2 => .array (.object "RelayOrbiter$Stream")
  | 3 => .boolean
  | 4 => .int
  | 5 => .int
  | 6 => .boolean
  | 7 => .int
  | 8 => .object "RelayOrbiter$Stream"
  | _ => .boolean
theorem nm_Ses : ∀ a, a < 10 → ∀ b, b < 10 → a ≠ b → (T_Ses a).2.1 ≠ (T_Ses b).2.1 := by decide +kernel
theorem tk_Ses : ∀ k, k < 10 → parseFieldDescriptor (T_Ses k).2.2.1 = some (ty_Ses k) := by decide +kernel
def R_Har : String := "RelayOrbiter$Harvest"
def T_Har : u_T := fun k => match k with
  | 0 => ("RelayOrbiter$Harvest", "row", "[I", true)
  | 1 => ("RelayOrbiter$Harvest", "starts", "[I", true)
  | 2 => ("RelayOrbiter$Harvest", "lengths", "[I", true)
  | 3 => ("RelayOrbiter$Harvest", "length", "I", false)
  | _ => ("RelayOrbiter$Harvest", "count", "I", false)
def ty_Har : Nat → FieldType := fun k => match k with
  | 0 => .array (.int)
  | 1 => .array (.int)
  | 2 => .array (.int)
  | 3 => .int
  | _ => .int
theorem nm_Har : ∀ a, a < 5 → ∀ b, b < 5 → a ≠ b → (T_Har a).2.1 ≠ (T_Har b).2.1 := by decide +kernel
theorem tk_Har : ∀ k, k < 5 → parseFieldDescriptor (T_Har k).2.2.1 = some (ty_Har k) := by decide +kernel
def R_Str : String := "RelayOrbiter$Stream"
def T_Str : u_T := fun k => match k with
  | 0 => ("RelayOrbiter$Stream", "part", "[I", true)
  | 1 => ("RelayOrbiter$Stream", "length", "I", false)
  | _ => ("RelayOrbiter$Stream", "begun", "Z", false)
def ty_Str : Nat → FieldType := fun k => match k with
  | 0 => .array (.int)
  | 1 => .int
  | _ => .boolean
theorem nm_Str : ∀ a, a < 3 → ∀ b, b < 3 → a ≠ b → (T_Str a).2.1 ≠ (T_Str b).2.1 := by decide +kernel
theorem tk_Str : ∀ k, k < 3 → parseFieldDescriptor (T_Str k).2.2.1 = some (ty_Str k) := by decide +kernel
def R_Lan : String := "RelayOrbiter$LanderLink"
def T_Lan : u_T := fun k => match k with
  | 0 => ("RelayOrbiter$LanderLink", "row", "[I", true)
  | 1 => ("RelayOrbiter$LanderLink", "frame", "LRelayOrbiter$Frame;", true)
  | _ => ("RelayOrbiter$LanderLink", "length", "I", false)
def ty_Lan : Nat → FieldType := fun k => match k with
  | 0 => .array (.int)
  | 1 => .object "RelayOrbiter$Frame"
  | _ => .int
theorem nm_Lan : ∀ a, a < 3 → ∀ b, b < 3 → a ≠ b → (T_Lan a).2.1 ≠ (T_Lan b).2.1 := by decide +kernel
theorem tk_Lan : ∀ k, k < 3 → parseFieldDescriptor (T_Lan k).2.2.1 = some (ty_Lan k) := by decide +kernel
def R_Frm : String := "RelayOrbiter$Frame"
def T_Frm : u_T := fun k => match k with
  | 0 => ("RelayOrbiter$Frame", "bytes", "[I", true)
  | _ => ("RelayOrbiter$Frame", "length", "I", false)
def ty_Frm : Nat → FieldType := fun k => match k with
  | 0 => .array (.int)
  | _ => .int
theorem nm_Frm : ∀ a, a < 2 → ∀ b, b < 2 → a ≠ b → (T_Frm a).2.1 ≠ (T_Frm b).2.1 := by decide +kernel
theorem tk_Frm : ∀ k, k < 2 → parseFieldDescriptor (T_Frm k).2.2.1 = some (ty_Frm k) := by decide +kernel
def R_Ear : String := "RelayOrbiter$EarthLink"
def T_Ear : u_T := fun k => match k with
  | 0 => ("RelayOrbiter$EarthLink", "frame", "[I", true)
  | 1 => ("RelayOrbiter$EarthLink", "counts", "[I", true)
  | _ => ("RelayOrbiter$EarthLink", "any", "Z", false)
def ty_Ear : Nat → FieldType := fun k => match k with
  | 0 => .array (.int)
  | 1 => .array (.int)
  | _ => .boolean
theorem nm_Ear : ∀ a, a < 3 → ∀ b, b < 3 → a ≠ b → (T_Ear a).2.1 ≠ (T_Ear b).2.1 := by decide +kernel
theorem tk_Ear : ∀ k, k < 3 → parseFieldDescriptor (T_Ear k).2.2.1 = some (ty_Ear k) := by decide +kernel
def R_Mod : String := "RelayOrbiterModel"
def T_Mod : u_T := fun k => match k with
  | 0 => ("RelayOrbiterModel", "thrownCode", "I", false)
  | 1 => ("RelayOrbiterModel", "now", "I", false)
  | 2 => ("RelayOrbiterModel", "windows", "[I", true)
  | 3 => ("RelayOrbiterModel", "isOut", "Z", false)
  | 4 => ("RelayOrbiterModel", "failIn", "I", false)
  | 5 => ("RelayOrbiterModel", "wait", "[I", true)
  | 6 => ("RelayOrbiterModel", "waiting", "I", false)
  | 7 => ("RelayOrbiterModel", "on", "Z", false)
  | 8 => ("RelayOrbiterModel", "channel", "I", false)
  | 9 => ("RelayOrbiterModel", "v", "I", false)
  | 10 => ("RelayOrbiterModel", "flag", "I", false)
  | 11 => ("RelayOrbiterModel", "count", "I", false)
  | 12 => ("RelayOrbiterModel", "begun", "[Z", true)
  | 13 => ("RelayOrbiterModel", "parts", "[I", true)
  | 14 => ("RelayOrbiterModel", "part", "[I", true)
  | 15 => ("RelayOrbiterModel", "packets", "I", false)
  | 16 => ("RelayOrbiterModel", "number", "[I", true)
  | 17 => ("RelayOrbiterModel", "length", "[I", true)
  | 18 => ("RelayOrbiterModel", "bytes", "[I", true)
  | 19 => ("RelayOrbiterModel", "blocks", "[I", true)
  | 20 => ("RelayOrbiterModel", "emitted", "[I", true)
  | 21 => ("RelayOrbiterModel", "nextNumber", "I", false)
  | 22 => ("RelayOrbiterModel", "entries", "I", false)
  | 23 => ("RelayOrbiterModel", "writes", "I", false)
  | 24 => ("RelayOrbiterModel", "frame", "[I", true)
  | 25 => ("RelayOrbiterModel", "framed", "Z", false)
  | _ => ("RelayOrbiterModel", "frames", "[I", true)
def ty_Mod : Nat → FieldType := fun k => match k with
  | 0 => .int
  | 1 => .int
  | 2 => .array (.int)
  | 3 => .boolean
  | 4 => .int
  | 5 => .array (.int)
  | 6 => .int
  | 7 => .boolean
  | 8 => .int
  | 9 => .int
  | 10 => .int
  | 11 => .int
  | 12 => .array (.boolean)
  | 13 => .array (.int)
  | 14 => .array (.int)
  | 15 => .int
  | 16 => .array (.int)
  | 17 => .array (.int)
  | 18 => .array (.int)
  | 19 => .array (.int)
  | 20 => .array (.int)
  | 21 => .int
  | 22 => .int
  | 23 => .int
  | 24 => .array (.int)
  | 25 => .boolean
  | _ => .array (.int)
theorem nm_Mod : ∀ a, a < 27 → ∀ b, b < 27 → a ≠ b → (T_Mod a).2.1 ≠ (T_Mod b).2.1 := by decide +kernel
theorem tk_Mod : ∀ k, k < 27 → parseFieldDescriptor (T_Mod k).2.2.1 = some (ty_Mod k) := by decide +kernel
def R_Law : String := "RelayOrbiterLaw"
def cls : List vw_C := [(R_Orb, T_Orb, 7), (R_Win, T_Win, 3), (R_Sto, T_Sto, 10), (R_Pkt, T_Pkt, 5), (R_Ses, T_Ses, 10), (R_Har, T_Har, 5), (R_Str, T_Str, 3), (R_Lan, T_Lan, 3), (R_Frm, T_Frm, 2), (R_Ear, T_Ear, 3), (R_Mod, T_Mod, 27)]
def zNest : Cond → Bool
  | .fieldLinkNest .. => true
  | .methodLinkNest .. => true
  | _ => false
def zCast : Cond → Bool
  | .castable .. => true
  | .declares _ => true
  | .not (.castable ..) => true
  | .arrayOver (.object _) => true
  | _ => false
def zOk (w : Cond) : Bool := goodWord w || zNest w || zCast w
def zNC : List Cond := [.not (.castable "java/lang/IllegalArgumentException" "java/lang/UnsupportedOperationException"), .not (.castable "java/lang/IllegalStateException" "java/lang/UnsupportedOperationException"), .not (.castable "java/lang/IllegalStateException" "java/lang/IllegalArgumentException"), .not (.castable "java/lang/IllegalArgumentException" "java/lang/IndexOutOfBoundsException")]
def tb : List Cond := (lw_tbl ++ zNC).filter zOk
theorem tb_ok {w : Cond} (h : w ∈ tb) : zOk w = true := (List.mem_filter.mp h).2
theorem tb_in {w : Cond} (i : Nat) (h : (lw_tbl ++ zNC)[i]? = some w) (hk : zOk w = true) : w ∈ tb := List.mem_filter.mpr ⟨List.mem_of_getElem? h, hk⟩
end
section

theorem zw_move {w : Cond} (hw : zOk w = true) {s U : State} (hW : s.WarmedH U.vm) {a a' : Array Value} (h : w.before a s = true) : w.before a' U = true := by
  unfold zOk at hw
  rcases Bool.or_eq_true _ _ ▸ hw with hw | hw
  · rcases Bool.or_eq_true _ _ ▸ hw with hg | hn
    · exact word_at hW (good_of_word hg) h
    · cases w <;> simp only [zNest] at hn <;> first | exact va_Nw.use rfl (va_Nw.warmF hW (va_Nw.of rfl h)) | exact va_Nw.use rfl (va_Nw.warmM hW (va_Nw.of rfl h)) | cases hn
  · match w, hw, h with
    | .castable x y, _, h =>
      have h1 : (Cond.castable x y).before a (s.setVm U.vm) = true := Cond.before_shiftedFace (State.Shifted.of_warmed hW) _ rfl h
      exact va_tabs rfl (rfl : (s.setVm U.vm).vm = U.vm) h1
    | .declares x, _, h =>
      have h1 : (Cond.declares x).before a (s.setVm U.vm) = true := Cond.before_shiftedFace (State.Shifted.of_warmed hW) _ rfl h
      exact va_tabs rfl (rfl : (s.setVm U.vm).vm = U.vm) h1
    | .not (.castable x y), _, h =>
      have h1 : (Cond.not (.castable x y)).before a (s.setVm U.vm) = true := Cond.castAtom_setVm hW.alike _ rfl h
      exact h1
    | .arrayOver (.object C), _, h => exact va_AO.use (va_AO.moved hW.alike (va_AO.of h))
def TB (U : State) : Prop := ∀ w ∈ tb, w.before #[] U = true
theorem TB.move {s U : State} (h : TB s) (hW : s.WarmedH U.vm) : TB U := fun w hw => zw_move (tb_ok hw) hW (h w hw)
theorem TB.use {s : State} (h : TB s) (a : Array Value) : ∀ w ∈ tb, w.before a s = true := fun w hw => zw_move (tb_ok hw) (State.WarmedH.refl s) (h w hw)
/-- a value by its position -/
def zV (ad : Nat → Nat) : Value → Value
  | .ref k => .ref (ad k)
  | v => v
def zO (ad : Nat → Nat) (f : Nat → Option Nat) : Nat → Option Nat := fun j => (f j).map ad
def zE (dA : Nat → ClassId) (ad : Nat → Nat) : va_E → va_E
  | .inl (t, n, .inl f) => .inl (dA t, n, .inl f)
  | .inl (t, n, .inr (.inl f)) => .inl (dA t, n, .inr (.inl f))
  | .inl (t, n, .inr (.inr (.inl f))) => .inl (dA t, n, .inr (.inr (.inl f)))
  | .inl (t, n, .inr (.inr (.inr (.inl f)))) => .inl (dA t, n, .inr (.inr (.inr (.inl f))))
  | .inl (t, n, .inr (.inr (.inr (.inr f)))) => .inl (dA t, n, .inr (.inr (.inr (.inr (zO ad f)))))
  | .inr (ci, fs) => .inr (ci, fs.map (zV ad))
def wl (dA : Nat → ClassId) (ad : Nat → Nat) (h : Nat → va_E) (n : Nat) : va_W := (List.range n).map fun k => (ad k, zE dA ad (h k))
theorem wl_get {dA : Nat → ClassId} {ad : Nat → Nat} {h : Nat → va_E} {n k : Nat} (hk : k < n) : (wl dA ad h n)[k]? = some (ad k, zE dA ad (h k)) := by
  simp [wl, hk]
theorem wl_lt {dA : Nat → ClassId} {ad : Nat → Nat} {h : Nat → va_E} {n k : Nat} {q : Nat × va_E} (hq : (wl dA ad h n)[k]? = some q) : k < n ∧ q = (ad k, zE dA ad (h k)) := by
  have hk : k < n := by
    have := (List.getElem?_eq_some_iff.mp hq).1
    simpa [wl] using this
  rw [wl_get hk] at hq
  exact ⟨hk, (Option.some.inj hq).symm⟩
theorem wl_set {dA : Nat → ClassId} {ad : Nat → Nat} {h : Nat → va_E} {n k : Nat} (e : va_E) (hk : k < n) : (wl dA ad h n).set k (ad k, zE dA ad e) = wl dA ad (va_up h k e) n := by
  apply List.ext_getElem?
  intro i
  by_cases hi : i = k
  · subst hi
    rw [List.getElem?_set_self (by simpa [wl] using hk), wl_get hk, va_up_self]
  · rw [List.getElem?_set_ne (Ne.symm hi)]
    by_cases hin : i < n
    · rw [wl_get hin, wl_get hin, va_up_ne h e hi]
    · have h1 : (wl dA ad h n)[i]? = none := by simp [wl, hin]
      have h2 : (wl dA ad (va_up h k e) n)[i]? = none := by simp [wl, hin]
      rw [h1, h2]
/-- which cells a method may change -/
def zA (ad : Nat → Nat) (n sz : Nat) : Nat → Prop := fun q => (∃ k, k < n ∧ q = ad k) ∨ sz ≤ q
def tyL (dA : Nat → ClassId) : List (ClassId × FieldType) := [(dA 0, .int), (dA 1, .boolean), (dA 2, .long), (dA 3, .object "RelayOrbiter$Packet"), (dA 4, .object "RelayOrbiter$Stream")]
def zMark : Nat → Value := fun j => match j with
  | 0 => .int 250
  | 1 => .int 243
  | _ => .int 32
def zRf (v : Value) : Prop := v = .null ∨ ∃ a, v = .ref a
/-- a static of Throwable's that is laid and holds a reference or null, and that nobody writes -/
def zSC (A : Nat → Prop) (nm ds : String) (U : State) (H : Heap) : Prop := ∃ (c : ClassId) (k : Class) (i : Nat) (f : Field) (a : Nat) (cell : Cell) (v : Value), U.vm.findClass "java/lang/Throwable" = some c ∧ U.fieldFound? "java/lang/Throwable" nm ds = some (c, k, i, f) ∧ f.isStatic = true ∧ k.statics = some a ∧ H[a]? = some cell ∧ cell.vm.isStatics = true ∧ cell.cls = c ∧ f.slot < cell.slots.size ∧ k.staticTypes[f.slot]? = some f.type ∧ cell.slots[f.slot]? = some v ∧ zRf v ∧ ¬ A a
theorem zSC.moved {A : Nat → Prop} {nm ds : String} {u U : State} {H : Heap} (hvm : u.vm.Alike U.vm) (h : zSC A nm ds u H) : zSC A nm ds U H := by
  obtain ⟨c, k, i, f, a, cell, v, h1, h2, h3, h4, h5, h6, h7, h8, h9, h10, h11, h12⟩ := h
  obtain ⟨k', hi', he⟩ := State.fieldFound?_setVm hvm h2
  exact ⟨c, k', i, f, a, cell, v, by rw [hvm.findClass]; exact h1, hi', h3, by rw [he]; exact h4, h5, h6, h7, h8, by rw [he]; exact h9, h10, h11, h12⟩
theorem zSC.kept {A : Nat → Prop} {nm ds : String} {U : State} {H H1 : Heap} (h : zSC A nm ds U H) (hq : ∀ a : Nat, a < H.size → ¬ A a → H1[a]? = H[a]?) : zSC A nm ds U H1 := by
  obtain ⟨c, k, i, f, a, cell, v, h1, h2, h3, h4, h5, h6, h7, h8, h9, h10, h11, h12⟩ := h
  exact ⟨c, k, i, f, a, cell, v, h1, h2, h3, h4, by rw [hq a (Array.getElem?_eq_some_iff.mp h5).1 h12]; exact h5, h6, h7, h8, h9, h10, h11, h12⟩
theorem zSC.narrow {A B : Nat → Prop} {nm ds : String} {U : State} {H : Heap} (h : zSC A nm ds U H) (hAB : ∀ q, B q → A q) : zSC B nm ds U H := by
  obtain ⟨c, k, i, f, a, cell, v, h1, h2, h3, h4, h5, h6, h7, h8, h9, h10, h11, h12⟩ := h
  exact ⟨c, k, i, f, a, cell, v, h1, h2, h3, h4, h5, h6, h7, h8, h9, h10, h11, fun z => h12 (hAB a z)⟩
theorem zSC.lays {A : Nat → Prop} {nm ds : String} {U : State} {args : Array Value} (h : zSC A nm ds U U.heap) : (Cond.laysStatic "java/lang/Throwable" nm ds).before args U = true := by
  obtain ⟨c, k, i, f, a, cell, v, h1, h2, h3, h4, h5, h6, h7, h8, h9, h10, h11, h12⟩ := h
  simp [Cond.before, Cond.holds, Cond.value, h1, h2, h3, h4, h5, h6, h7, h8, h9]
theorem zSC.isRef {A : Nat → Prop} {nm ds : String} {U : State} {args : Array Value} (h : zSC A nm ds U U.heap) : (Cond.isRef (.static "java/lang/Throwable" nm ds)).before args U = true := by
  obtain ⟨c, k, i, f, a, cell, v, h1, h2, h3, h4, h5, h6, h7, h8, h9, h10, h11, h12⟩ := h
  have hv : (Term.static "java/lang/Throwable" nm ds).eval args U none [] U = some v := by
    simp [Term.eval, State.fieldNamed?, h2, h3, h4, h5, h6, h10]
  rcases h11 with rfl | ⟨b, rfl⟩ <;> simp [Cond.before, Cond.holds, Cond.value, hv]
theorem zSC.of {A : Nat → Prop} {nm ds : String} {s : State} {args : Array Value} (hl : (Cond.laysStatic "java/lang/Throwable" nm ds).before args s = true) (hr : (Cond.isRef (.static "java/lang/Throwable" nm ds)).before args s = true) (hA : ∀ a : Nat, a < s.heap.size → ¬ A a) : zSC A nm ds s s.heap := by
  obtain ⟨c, k, i, f, a, cell, h1, h2, h3, h4, h5, h6, h7, h8, h9⟩ := Cond.laysStatic_spec hl
  obtain ⟨v, hv⟩ : ∃ v, cell.slots[f.slot]? = some v := ⟨_, Array.getElem?_eq_getElem h8⟩
  have he : (Term.static "java/lang/Throwable" nm ds).eval args s none [] s = some v := by
    simp [Term.eval, State.fieldNamed?, h2, h3, h4, h5, h6, hv]
  refine ⟨c, k, i, f, a, cell, v, h1, h2, h3, h4, h5, h6, h7, h8, h9, hv, ?_, hA a (Array.getElem?_eq_some_iff.mp h5).1⟩
  cases v with
  | null => exact Or.inl rfl
  | ref b => exact Or.inr ⟨b, rfl⟩
  | _ => simp [Cond.before, Cond.holds, Cond.value, he] at hr
/-- what nobody writes: the array MARK, and what Throwable's constructor reads -/
def zRO (A : Nat → Prop) (aM : Nat) (U : State) (H : Heap) : Prop :=
  va_Z "RelayOrbiter$LanderLink" "MARK" "[I" (.ref aM) A U H ∧ va_T .int aM 3 zMark A U H ∧
  zSC A "UNASSIGNED_STACK" "[Ljava/lang/StackTraceElement;" U H ∧ zSC A "SUPPRESSED_SENTINEL" "Ljava/util/List;" U H
theorem zRO.moved {A : Nat → Prop} {aM : Nat} {u U : State} {H : Heap} (hvm : u.vm.Alike U.vm) (h : zRO A aM u H) : zRO A aM U H := ⟨h.1.moved hvm, h.2.1.moved hvm, h.2.2.1.moved hvm, h.2.2.2.moved hvm⟩
theorem zRO.kept {A : Nat → Prop} {aM : Nat} {U : State} {H H1 : Heap} (h : zRO A aM U H) (hq : ∀ a : Nat, a < H.size → ¬ A a → H1[a]? = H[a]?) : zRO A aM U H1 := ⟨h.1.kept hq, h.2.1.kept hq, h.2.2.1.kept hq, h.2.2.2.kept hq⟩
theorem zRO.narrow {A B : Nat → Prop} {aM : Nat} {U : State} {H : Heap} (h : zRO A aM U H) (hAB : ∀ q, B q → A q) : zRO B aM U H := ⟨h.1.narrow hAB, h.2.1.narrow hAB, h.2.2.1.narrow hAB, h.2.2.2.narrow hAB⟩
def LV (nL : Nat) (ad : Nat → Nat) (lv : List (Option Value)) (ls : Array Slot) : Prop := ls.size = nL ∧ lv_wf ls ∧ ∀ (i : Nat) (v : Value), lv[i]? = some (some v) → ls[i]? = some (.val (zV ad v))
/-- what is known in an invocation -/
def Cx (D : va_G) (dA : Nat → ClassId) (A : Nat → Prop) (ad0 : Nat → Nat) (own : String) (cc : ByteArray) (nL : Nat) (p : Program) (R : Room) (s : State) (m : MethodId) (args : Array Value) (meth : Method) (c : Code) : Prop :=
  p.tables.exec = Jvm.exec ∧ c.code = cc ∧ c.maxLocals = nL ∧ s.vm.findClass own = some m.cls ∧ (∀ w ∈ tb, w.before args s = true) ∧ va_K D cls (tyL dA) s ∧ (∀ q, s.heap.size ≤ q → A q) ∧ meth.locks = false ∧ zRO A (ad0 1000) s s.heap ∧ TB s ∧ 8 ≤ R.frames ∧ 200 ≤ R.locals
def J (D : va_G) (dA : Nat → ClassId) (A : Nat → Prop) (Φ : Heap → List Loc → Prop) (ad0 : Nat → Nat) (n0 : Nat) (nL : Nat) (p : Program) (l : Launch) (e : Env) (R : Room) (s : State) (m : MethodId) (args : Array Value) (below : List Frame) (meth : Method) (c : Code) (Q : State → Prop) (pc : Nat) (lv : List (Option Value)) (st : List Value) (h : Nat → va_E) (n kc ks : Nat) : Prop :=
  ∀ (ad : Nat → Nat) (H : Heap) (locs : List Loc) (ls : Array Slot), (∀ k, k < n0 ∨ n ≤ k → ad k = ad0 k) → va_P D cls (wl dA ad h n) H → va_D A (wl dA ad h n) → va_S A s.heap H locs → Φ H locs → LV nL ad lv ls →
    W p l e R s m args below meth c H locs kc ks Q (F0 m pc ls (st.map (zV ad)))
theorem LV.get {nL : Nat} {ad : Nat → Nat} {lv : List (Option Value)} {ls : Array Slot} (h : LV nL ad lv ls) {i : Nat} {v : Value} (hi : lv[i]? = some (some v)) : ls[i]? = some (.val (zV ad v)) := h.2.2 i v hi
/-- the locals as the kit lists them -/
def zAl (ad : Nat → Nat) (lv : List (Option Value)) : List (Nat × Value) := (List.range lv.length).filterMap fun i => (lv[i]?.bind id).map fun v => (i, zV ad v)
theorem zAl_mem {ad : Nat → Nat} {lv : List (Option Value)} {q : Nat × Value} : q ∈ zAl ad lv ↔ ∃ v, lv[q.1]? = some (some v) ∧ q.2 = zV ad v := by
  constructor
  · intro h
    obtain ⟨i, -, hi⟩ := List.mem_filterMap.mp h
    cases hv : lv[i]? with
    | none => simp [hv] at hi
    | some o =>
      cases o with
      | none => simp [hv] at hi
      | some v =>
        simp [hv] at hi
        subst hi
        exact ⟨v, hv, rfl⟩
  · rintro ⟨v, h1, h2⟩
    refine List.mem_filterMap.mpr ⟨q.1, List.mem_range.mpr ?_, ?_⟩
    · exact (List.getElem?_eq_some_iff.mp h1).1
    · simp [h1, ← h2]
theorem LV.has {nL : Nat} {ad : Nat → Nat} {lv : List (Option Value)} {ls : Array Slot} (h : LV nL ad lv ls) : lv_has ls nL (zAl ad lv) := ⟨h.1, h.2.1, fun q hq => by
  obtain ⟨v, h1, h2⟩ := zAl_mem.mp hq
  rw [h2]; exact h.2.2 q.1 v h1⟩
def zNL (lv : List (Option Value)) (i : Nat) : Bool := match i with
  | 0 => true
  | j + 1 => match lv[j]? with
    | some (some (.long _)) => false
    | some (some (.double _)) => false
    | _ => true
theorem zV_cat (ad : Nat → Nat) (v : Value) : (zV ad v).category = v.category := by cases v <;> rfl
theorem LV.set {nL : Nat} {ad : Nat → Nat} {lv : List (Option Value)} {ls : Array Slot} {i : Nat} {x : Value} (hn : zNL lv i = true) (h : lv_has ls nL ((i, zV ad x) :: (zAl ad lv).filter (fun q => !(q.1 == i) && !(q.1 + 1 == i && q.2.category == 2)))) : LV nL ad (lv.set i (some x)) ls := by
  refine ⟨h.1, h.2.1, fun j v hj => ?_⟩
  by_cases hji : j = i
  · subst hji
    have hl : j < lv.length := by
      have := (List.getElem?_eq_some_iff.mp hj).1
      simpa using this
    rw [List.getElem?_set_self hl] at hj
    cases hj
    exact h.2.2 (j, zV ad x) List.mem_cons_self
  · rw [List.getElem?_set_ne (Ne.symm hji)] at hj
    refine h.2.2 (j, zV ad v) (List.mem_cons_of_mem _ (List.mem_filter.mpr ⟨zAl_mem.mpr ⟨v, hj, rfl⟩, ?_⟩))
    have h1 : (j == i) = false := by simpa using hji
    simp only [h1, Bool.not_false, Bool.true_and, Bool.not_eq_true', Bool.and_eq_false_iff]
    by_cases h2 : j + 1 = i
    · right
      subst h2
      simp only [zNL, hj] at hn
      rw [zV_cat]
      cases v <;> simp_all [Value.category]
    · left; simpa using h2
theorem LV.weak {nL : Nat} {ad : Nat → Nat} {lv lv' : List (Option Value)} {ls : Array Slot} (h : LV nL ad lv ls) (hw : ∀ (i : Nat) (v : Value), lv'[i]? = some (some v) → lv[i]? = some (some v)) : LV nL ad lv' ls := ⟨h.1, h.2.1, fun i v hv => h.2.2 i v (hw i v hv)⟩
end
section
section ZR
variable {D : va_G} {dA : Nat → ClassId} {A : Nat → Prop} {Φ : Heap → List Loc → Prop} {ad0 : Nat → Nat} {n0 nL : Nat} {p : Program} {l : Launch} {e : Env} {R : Room} {s : State} {m : MethodId} {args : Array Value} {below : List Frame} {meth : Method} {c : Code} {Q : State → Prop} {pc : Nat} {lv : List (Option Value)} {st : List Value} {h : Nat → va_E} {n kc ks : Nat} {own : String} {cc : ByteArray}
theorem J_iconst (C : Cx D dA A ad0 own cc nL p R s m args meth c) {i : Int} {v : Int32} (hd : decode cc pc = .ok (.iconst i, 1)) (hv : Int32.ofInt i = v) (k : J D dA A Φ ad0 n0 nL p l e R s m args below meth c Q (pc + 1) (lv) (.int v :: st) (h) n kc ks) : J D dA A Φ ad0 n0 nL p l e R s m args below meth c Q (pc) (lv) (st) (h) n kc ks := fun ad H locs ls h0 hP hD hS hF hL => lv_iconst C.1 C.2.1 hd hv (k ad H locs ls h0 hP hD hS hF hL)
theorem J_bipush (C : Cx D dA A ad0 own cc nL p R s m args meth c) {i : Int} {v : Int32} (hd : decode cc pc = .ok (.bipush i, 2)) (hv : (Int8.ofInt i).toInt32 = v) (k : J D dA A Φ ad0 n0 nL p l e R s m args below meth c Q (pc + 2) (lv) (.int v :: st) (h) n kc ks) : J D dA A Φ ad0 n0 nL p l e R s m args below meth c Q (pc) (lv) (st) (h) n kc ks := fun ad H locs ls h0 hP hD hS hF hL => lv_bipush C.1 C.2.1 hd hv (k ad H locs ls h0 hP hD hS hF hL)
theorem J_sipush (C : Cx D dA A ad0 own cc nL p R s m args meth c) {i : Int} {v : Int32} (hd : decode cc pc = .ok (.sipush i, 3)) (hv : (Int16.ofInt i).toInt32 = v) (k : J D dA A Φ ad0 n0 nL p l e R s m args below meth c Q (pc + 3) (lv) (.int v :: st) (h) n kc ks) : J D dA A Φ ad0 n0 nL p l e R s m args below meth c Q (pc) (lv) (st) (h) n kc ks := fun ad H locs ls h0 hP hD hS hF hL => lv_sipush C.1 C.2.1 hd hv (k ad H locs ls h0 hP hD hS hF hL)
theorem J_lconst (C : Cx D dA A ad0 own cc nL p R s m args meth c) {i : Fin 2} {v : Int64} (hd : decode cc pc = .ok (.lconst i, 1)) (hv : Int64.ofNat (i : Nat) = v) (k : J D dA A Φ ad0 n0 nL p l e R s m args below meth c Q (pc + 1) (lv) (.long v :: st) (h) n kc ks) : J D dA A Φ ad0 n0 nL p l e R s m args below meth c Q (pc) (lv) (st) (h) n kc ks := fun ad H locs ls h0 hP hD hS hF hL => lv_lconst C.1 C.2.1 hd hv (k ad H locs ls h0 hP hD hS hF hL)
theorem J_ldc (C : Cx D dA A ad0 own cc nL p R s m args meth c) {i : Nat} {v : Int32} (hd : decode cc pc = .ok (.ldc i, 2)) (hc : Cond.constant own i v ∈ tb) (k : J D dA A Φ ad0 n0 nL p l e R s m args below meth c Q (pc + 2) (lv) (.int v :: st) (h) n kc ks) : J D dA A Φ ad0 n0 nL p l e R s m args below meth c Q (pc) (lv) (st) (h) n kc ks := fun ad H locs ls h0 hP hD hS hF hL => lv_ldc C.1 C.2.1 C.2.2.2.1 (C.2.2.2.2.1 _ hc) hd (k ad H locs ls h0 hP hD hS hF hL)
theorem J_null (C : Cx D dA A ad0 own cc nL p R s m args meth c) (hd : decode cc pc = .ok (.aconst_null, 1)) (k : J D dA A Φ ad0 n0 nL p l e R s m args below meth c Q (pc + 1) (lv) (.null :: st) (h) n kc ks) : J D dA A Φ ad0 n0 nL p l e R s m args below meth c Q (pc) (lv) (st) (h) n kc ks := fun ad H locs ls h0 hP hD hS hF hL => lv_null C.1 C.2.1 hd (k ad H locs ls h0 hP hD hS hF hL)
theorem J_iload_n (C : Cx D dA A ad0 own cc nL p R s m args meth c) {k : Fin 4} (i : Nat) {x : Int32} (hd : decode cc pc = .ok (.iload_n k, 1)) (hi : (k : Nat) = i) (hl : lv[i]? = some (some (.int x))) (kk : J D dA A Φ ad0 n0 nL p l e R s m args below meth c Q (pc + 1) (lv) (.int x :: st) (h) n kc ks) : J D dA A Φ ad0 n0 nL p l e R s m args below meth c Q (pc) (lv) (st) (h) n kc ks := fun ad H locs ls h0 hP hD hS hF hL => lv_iload_n C.1 C.2.1 hd hi (hL.get hl) (kk ad H locs ls h0 hP hD hS hF hL)
theorem J_iload (C : Cx D dA A ad0 own cc nL p R s m args meth c) {i : Nat} {x : Int32} (hd : decode cc pc = .ok (.iload i, 2)) (hl : lv[i]? = some (some (.int x))) (kk : J D dA A Φ ad0 n0 nL p l e R s m args below meth c Q (pc + 2) (lv) (.int x :: st) (h) n kc ks) : J D dA A Φ ad0 n0 nL p l e R s m args below meth c Q (pc) (lv) (st) (h) n kc ks := fun ad H locs ls h0 hP hD hS hF hL => lv_iload C.1 C.2.1 hd (hL.get hl) (kk ad H locs ls h0 hP hD hS hF hL)
theorem J_aload_n (C : Cx D dA A ad0 own cc nL p R s m args meth c) {k : Fin 4} (i : Nat) {x : Nat} (hd : decode cc pc = .ok (.aload_n k, 1)) (hi : (k : Nat) = i) (hl : lv[i]? = some (some (.ref x))) (kk : J D dA A Φ ad0 n0 nL p l e R s m args below meth c Q (pc + 1) (lv) (.ref x :: st) (h) n kc ks) : J D dA A Φ ad0 n0 nL p l e R s m args below meth c Q (pc) (lv) (st) (h) n kc ks := fun ad H locs ls h0 hP hD hS hF hL => lv_aload_n C.1 C.2.1 hd hi (hL.get hl) (kk ad H locs ls h0 hP hD hS hF hL)
theorem J_aload (C : Cx D dA A ad0 own cc nL p R s m args meth c) {i : Nat} {x : Nat} (hd : decode cc pc = .ok (.aload i, 2)) (hl : lv[i]? = some (some (.ref x))) (kk : J D dA A Φ ad0 n0 nL p l e R s m args below meth c Q (pc + 2) (lv) (.ref x :: st) (h) n kc ks) : J D dA A Φ ad0 n0 nL p l e R s m args below meth c Q (pc) (lv) (st) (h) n kc ks := fun ad H locs ls h0 hP hD hS hF hL => lv_aload C.1 C.2.1 hd (hL.get hl) (kk ad H locs ls h0 hP hD hS hF hL)
theorem J_lload_n (C : Cx D dA A ad0 own cc nL p R s m args meth c) {k : Fin 4} (i : Nat) {x : Int64} (hd : decode cc pc = .ok (.lload_n k, 1)) (hi : (k : Nat) = i) (hl : lv[i]? = some (some (.long x))) (kk : J D dA A Φ ad0 n0 nL p l e R s m args below meth c Q (pc + 1) (lv) (.long x :: st) (h) n kc ks) : J D dA A Φ ad0 n0 nL p l e R s m args below meth c Q (pc) (lv) (st) (h) n kc ks := fun ad H locs ls h0 hP hD hS hF hL => lv_lload_n C.1 C.2.1 hd hi (hL.get hl) (kk ad H locs ls h0 hP hD hS hF hL)
theorem J_lload (C : Cx D dA A ad0 own cc nL p R s m args meth c) {i : Nat} {x : Int64} (hd : decode cc pc = .ok (.lload i, 2)) (hl : lv[i]? = some (some (.long x))) (kk : J D dA A Φ ad0 n0 nL p l e R s m args below meth c Q (pc + 2) (lv) (.long x :: st) (h) n kc ks) : J D dA A Φ ad0 n0 nL p l e R s m args below meth c Q (pc) (lv) (st) (h) n kc ks := fun ad H locs ls h0 hP hD hS hF hL => lv_lload C.1 C.2.1 hd (hL.get hl) (kk ad H locs ls h0 hP hD hS hF hL)
theorem J_aload_nN (C : Cx D dA A ad0 own cc nL p R s m args meth c) {k : Fin 4} (i : Nat) (hd : decode cc pc = .ok (.aload_n k, 1)) (hi : (k : Nat) = i) (hl : lv[i]? = some (some .null)) (kk : J D dA A Φ ad0 n0 nL p l e R s m args below meth c Q (pc + 1) (lv) (.null :: st) (h) n kc ks) : J D dA A Φ ad0 n0 nL p l e R s m args below meth c Q (pc) (lv) (st) (h) n kc ks := fun ad H locs ls h0 hP hD hS hF hL => lv_aload_nN C.1 C.2.1 hd hi (hL.get hl) (kk ad H locs ls h0 hP hD hS hF hL)
theorem J_istore_n (C : Cx D dA A ad0 own cc nL p R s m args meth c) {k : Fin 4} (i : Nat) {x : Int32} (hd : decode cc pc = .ok (.istore_n k, 1)) (hi : (k : Nat) = i) (hn : i < nL) (hz : zNL lv i = true) (kk : J D dA A Φ ad0 n0 nL p l e R s m args below meth c Q (pc + 1) (lv.set i (some (.int x))) (st) (h) n kc ks) : J D dA A Φ ad0 n0 nL p l e R s m args below meth c Q (pc) (lv) (.int x :: st) (h) n kc ks := fun ad H locs ls h0 hP hD hS hF hL => lv_istore_n C.1 C.2.1 hd hi hL.has hn rfl (fun ls' h' => kk ad H locs ls' h0 hP hD hS hF (LV.set hz h'))
theorem J_istore (C : Cx D dA A ad0 own cc nL p R s m args meth c) {i : Nat} {x : Int32} (hd : decode cc pc = .ok (.istore i, 2)) (hn : i < nL) (hz : zNL lv i = true) (kk : J D dA A Φ ad0 n0 nL p l e R s m args below meth c Q (pc + 2) (lv.set i (some (.int x))) (st) (h) n kc ks) : J D dA A Φ ad0 n0 nL p l e R s m args below meth c Q (pc) (lv) (.int x :: st) (h) n kc ks := fun ad H locs ls h0 hP hD hS hF hL => lv_istore C.1 C.2.1 hd hL.has hn rfl (fun ls' h' => kk ad H locs ls' h0 hP hD hS hF (LV.set hz h'))
theorem J_astore_n (C : Cx D dA A ad0 own cc nL p R s m args meth c) {k : Fin 4} (i : Nat) {x : Nat} (hd : decode cc pc = .ok (.astore_n k, 1)) (hi : (k : Nat) = i) (hn : i < nL) (hz : zNL lv i = true) (kk : J D dA A Φ ad0 n0 nL p l e R s m args below meth c Q (pc + 1) (lv.set i (some (.ref x))) (st) (h) n kc ks) : J D dA A Φ ad0 n0 nL p l e R s m args below meth c Q (pc) (lv) (.ref x :: st) (h) n kc ks := fun ad H locs ls h0 hP hD hS hF hL => lv_astore_n C.1 C.2.1 hd hi hL.has hn rfl (fun ls' h' => kk ad H locs ls' h0 hP hD hS hF (LV.set hz h'))
theorem J_astore (C : Cx D dA A ad0 own cc nL p R s m args meth c) {i : Nat} {x : Nat} (hd : decode cc pc = .ok (.astore i, 2)) (hn : i < nL) (hz : zNL lv i = true) (kk : J D dA A Φ ad0 n0 nL p l e R s m args below meth c Q (pc + 2) (lv.set i (some (.ref x))) (st) (h) n kc ks) : J D dA A Φ ad0 n0 nL p l e R s m args below meth c Q (pc) (lv) (.ref x :: st) (h) n kc ks := fun ad H locs ls h0 hP hD hS hF hL => lv_astore C.1 C.2.1 hd hL.has hn rfl (fun ls' h' => kk ad H locs ls' h0 hP hD hS hF (LV.set hz h'))
theorem LV.set2 {ad : Nat → Nat} {ls : Array Slot} {i : Nat} {x : Int64} (hn : zNL lv i = true) (h : lv_has ls nL ((i, Value.long x) :: (zAl ad lv).filter (fun q => !(q.1 == i) && (!(q.1 == i + 1) && !(q.1 + 1 == i && q.2.category == 2))))) : LV nL ad ((lv.set i (some (.long x))).set (i + 1) none) ls := by
  refine ⟨h.1, h.2.1, fun j v hj => ?_⟩
  by_cases h3 : j = i + 1
  · subst h3
    rw [List.getElem?_set, if_pos rfl] at hj
    split at hj <;> simp at hj
  rw [List.getElem?_set_ne (Ne.symm h3)] at hj
  by_cases hji : j = i
  · subst hji
    have hl : j < lv.length := by
      have := (List.getElem?_eq_some_iff.mp hj).1
      simpa using this
    rw [List.getElem?_set_self hl] at hj
    cases hj
    exact h.2.2 (j, .long x) List.mem_cons_self
  · rw [List.getElem?_set_ne (Ne.symm hji)] at hj
    refine h.2.2 (j, zV ad v) (List.mem_cons_of_mem _ (List.mem_filter.mpr ⟨zAl_mem.mpr ⟨v, hj, rfl⟩, ?_⟩))
    have h1 : (j == i) = false := by simpa using hji
    have h4 : (j == i + 1) = false := by simpa using h3
    simp only [h1, h4, Bool.not_false, Bool.true_and, Bool.not_eq_true', Bool.and_eq_false_iff]
    by_cases h2 : j + 1 = i
    · right
      subst h2
      simp only [zNL, hj] at hn
      rw [zV_cat]
      cases v <;> simp_all [Value.category]
    · left; simpa using h2
theorem J_lstore_n (C : Cx D dA A ad0 own cc nL p R s m args meth c) {k : Fin 4} (i : Nat) {x : Int64} (hd : decode cc pc = .ok (.lstore_n k, 1)) (hi : (k : Nat) = i) (hn : i + 1 < nL) (hz : zNL lv i = true) (kk : J D dA A Φ ad0 n0 nL p l e R s m args below meth c Q (pc + 1) ((lv.set i (some (.long x))).set (i + 1) none) (st) (h) n kc ks) : J D dA A Φ ad0 n0 nL p l e R s m args below meth c Q (pc) (lv) (.long x :: st) (h) n kc ks := fun ad H locs ls h0 hP hD hS hF hL => lv_lstore_n C.1 C.2.1 hd hi hL.has hn rfl (fun ls' h' => kk ad H locs ls' h0 hP hD hS hF (LV.set2 hz h'))
theorem J_iinc (C : Cx D dA A ad0 own cc nL p R s m args meth c) {i : Nat} {d : Int} {x v : Int32} (hd : decode cc pc = .ok (.iinc i d, 3)) (hl : lv[i]? = some (some (.int x))) (hv : x + Int32.ofInt d = v) (hn : i < nL) (hz : zNL lv i = true) (kk : J D dA A Φ ad0 n0 nL p l e R s m args below meth c Q (pc + 3) (lv.set i (some (.int v))) (st) (h) n kc ks) : J D dA A Φ ad0 n0 nL p l e R s m args below meth c Q (pc) (lv) (st) (h) n kc ks := by
  intro ad H locs ls h0 hP hD hS hF hL
  obtain ⟨k, hk⟩ := List.getElem?_of_mem (zAl_mem (ad := ad) (q := (i, Value.int x)).mpr ⟨_, hl, rfl⟩)
  exact lv_iinc C.1 C.2.1 hd hL.has hk hv hn rfl (fun ls' h' => kk ad H locs ls' h0 hP hD hS hF (LV.set hz h'))
theorem J_iadd (C : Cx D dA A ad0 own cc nL p R s m args meth c) {x y : Int32} (hd : decode cc pc = .ok (.iadd, 1)) (k : J D dA A Φ ad0 n0 nL p l e R s m args below meth c Q (pc + 1) (lv) (.int (x + y) :: st) (h) n kc ks) : J D dA A Φ ad0 n0 nL p l e R s m args below meth c Q (pc) (lv) (.int y :: .int x :: st) (h) n kc ks := fun ad H locs ls h0 hP hD hS hF hL => lv_iadd C.1 C.2.1 hd (k ad H locs ls h0 hP hD hS hF hL)
theorem J_isub (C : Cx D dA A ad0 own cc nL p R s m args meth c) {x y : Int32} (hd : decode cc pc = .ok (.isub, 1)) (k : J D dA A Φ ad0 n0 nL p l e R s m args below meth c Q (pc + 1) (lv) (.int (x - y) :: st) (h) n kc ks) : J D dA A Φ ad0 n0 nL p l e R s m args below meth c Q (pc) (lv) (.int y :: .int x :: st) (h) n kc ks := fun ad H locs ls h0 hP hD hS hF hL => lv_isub C.1 C.2.1 hd (k ad H locs ls h0 hP hD hS hF hL)
theorem J_imul (C : Cx D dA A ad0 own cc nL p R s m args meth c) {x y : Int32} (hd : decode cc pc = .ok (.imul, 1)) (k : J D dA A Φ ad0 n0 nL p l e R s m args below meth c Q (pc + 1) (lv) (.int (x * y) :: st) (h) n kc ks) : J D dA A Φ ad0 n0 nL p l e R s m args below meth c Q (pc) (lv) (.int y :: .int x :: st) (h) n kc ks := fun ad H locs ls h0 hP hD hS hF hL => lv_imul C.1 C.2.1 hd (k ad H locs ls h0 hP hD hS hF hL)
theorem J_iand (C : Cx D dA A ad0 own cc nL p R s m args meth c) {x y : Int32} (hd : decode cc pc = .ok (.iand, 1)) (k : J D dA A Φ ad0 n0 nL p l e R s m args below meth c Q (pc + 1) (lv) (.int (x &&& y) :: st) (h) n kc ks) : J D dA A Φ ad0 n0 nL p l e R s m args below meth c Q (pc) (lv) (.int y :: .int x :: st) (h) n kc ks := fun ad H locs ls h0 hP hD hS hF hL => lv_iand C.1 C.2.1 hd (k ad H locs ls h0 hP hD hS hF hL)
theorem J_ior (C : Cx D dA A ad0 own cc nL p R s m args meth c) {x y : Int32} (hd : decode cc pc = .ok (.ior, 1)) (k : J D dA A Φ ad0 n0 nL p l e R s m args below meth c Q (pc + 1) (lv) (.int (x ||| y) :: st) (h) n kc ks) : J D dA A Φ ad0 n0 nL p l e R s m args below meth c Q (pc) (lv) (.int y :: .int x :: st) (h) n kc ks := fun ad H locs ls h0 hP hD hS hF hL => lv_ior C.1 C.2.1 hd (k ad H locs ls h0 hP hD hS hF hL)
theorem J_ixor (C : Cx D dA A ad0 own cc nL p R s m args meth c) {x y : Int32} (hd : decode cc pc = .ok (.ixor, 1)) (k : J D dA A Φ ad0 n0 nL p l e R s m args below meth c Q (pc + 1) (lv) (.int (x ^^^ y) :: st) (h) n kc ks) : J D dA A Φ ad0 n0 nL p l e R s m args below meth c Q (pc) (lv) (.int y :: .int x :: st) (h) n kc ks := fun ad H locs ls h0 hP hD hS hF hL => lv_ixor C.1 C.2.1 hd (k ad H locs ls h0 hP hD hS hF hL)
theorem J_ishl (C : Cx D dA A ad0 own cc nL p R s m args meth c) {x y : Int32} (hd : decode cc pc = .ok (.ishl, 1)) (k : J D dA A Φ ad0 n0 nL p l e R s m args below meth c Q (pc + 1) (lv) (.int (x <<< (y &&& 31)) :: st) (h) n kc ks) : J D dA A Φ ad0 n0 nL p l e R s m args below meth c Q (pc) (lv) (.int y :: .int x :: st) (h) n kc ks := fun ad H locs ls h0 hP hD hS hF hL => lv_ishl C.1 C.2.1 hd (k ad H locs ls h0 hP hD hS hF hL)
theorem J_ishr (C : Cx D dA A ad0 own cc nL p R s m args meth c) {x y : Int32} (hd : decode cc pc = .ok (.ishr, 1)) (k : J D dA A Φ ad0 n0 nL p l e R s m args below meth c Q (pc + 1) (lv) (.int (x >>> (y &&& 31)) :: st) (h) n kc ks) : J D dA A Φ ad0 n0 nL p l e R s m args below meth c Q (pc) (lv) (.int y :: .int x :: st) (h) n kc ks := fun ad H locs ls h0 hP hD hS hF hL => lv_ishr C.1 C.2.1 hd (k ad H locs ls h0 hP hD hS hF hL)
theorem J_idiv (C : Cx D dA A ad0 own cc nL p R s m args meth c) {x y : Int32} (hd : decode cc pc = .ok (.idiv, 1)) (hne : ¬ y = 0) (k : J D dA A Φ ad0 n0 nL p l e R s m args below meth c Q (pc + 1) (lv) (.int (x / y) :: st) (h) n kc ks) : J D dA A Φ ad0 n0 nL p l e R s m args below meth c Q (pc) (lv) (.int y :: .int x :: st) (h) n kc ks := fun ad H locs ls h0 hP hD hS hF hL => lv_idiv C.1 C.2.1 hd hne (k ad H locs ls h0 hP hD hS hF hL)
theorem J_irem (C : Cx D dA A ad0 own cc nL p R s m args meth c) {x y : Int32} (hd : decode cc pc = .ok (.irem, 1)) (hne : ¬ y = 0) (k : J D dA A Φ ad0 n0 nL p l e R s m args below meth c Q (pc + 1) (lv) (.int (x - x / y * y) :: st) (h) n kc ks) : J D dA A Φ ad0 n0 nL p l e R s m args below meth c Q (pc) (lv) (.int y :: .int x :: st) (h) n kc ks := fun ad H locs ls h0 hP hD hS hF hL => lv_irem C.1 C.2.1 hd hne (k ad H locs ls h0 hP hD hS hF hL)
theorem J_iushr (C : Cx D dA A ad0 own cc nL p R s m args meth c) {x y v : Int32} (hd : decode cc pc = .ok (.iushr, 1)) (hv : (x.toUInt32 >>> (y.toUInt32 &&& Int32.toUInt32 31)).toInt32 = v) (k : J D dA A Φ ad0 n0 nL p l e R s m args below meth c Q (pc + 1) (lv) (.int v :: st) (h) n kc ks) : J D dA A Φ ad0 n0 nL p l e R s m args below meth c Q (pc) (lv) (.int y :: .int x :: st) (h) n kc ks := fun ad H locs ls h0 hP hD hS hF hL => lv_iushr C.1 C.2.1 hd hv (k ad H locs ls h0 hP hD hS hF hL)
theorem J_ineg (C : Cx D dA A ad0 own cc nL p R s m args meth c) {x : Int32} (hd : decode cc pc = .ok (.ineg, 1)) (k : J D dA A Φ ad0 n0 nL p l e R s m args below meth c Q (pc + 1) (lv) (.int (-x) :: st) (h) n kc ks) : J D dA A Φ ad0 n0 nL p l e R s m args below meth c Q (pc) (lv) (.int x :: st) (h) n kc ks := fun ad H locs ls h0 hP hD hS hF hL => lv_ineg C.1 C.2.1 hd (k ad H locs ls h0 hP hD hS hF hL)
theorem J_i2l (C : Cx D dA A ad0 own cc nL p R s m args meth c) {x : Int32} (hd : decode cc pc = .ok (.i2l, 1)) (k : J D dA A Φ ad0 n0 nL p l e R s m args below meth c Q (pc + 1) (lv) (.long x.toInt64 :: st) (h) n kc ks) : J D dA A Φ ad0 n0 nL p l e R s m args below meth c Q (pc) (lv) (.int x :: st) (h) n kc ks := fun ad H locs ls h0 hP hD hS hF hL => lv_i2l C.1 C.2.1 hd rfl (k ad H locs ls h0 hP hD hS hF hL)
theorem J_ladd (C : Cx D dA A ad0 own cc nL p R s m args meth c) {x y : Int64} (hd : decode cc pc = .ok (.ladd, 1)) (k : J D dA A Φ ad0 n0 nL p l e R s m args below meth c Q (pc + 1) (lv) (.long (x + y) :: st) (h) n kc ks) : J D dA A Φ ad0 n0 nL p l e R s m args below meth c Q (pc) (lv) (.long y :: .long x :: st) (h) n kc ks := fun ad H locs ls h0 hP hD hS hF hL => lv_ladd C.1 C.2.1 hd (k ad H locs ls h0 hP hD hS hF hL)
theorem J_lrem (C : Cx D dA A ad0 own cc nL p R s m args meth c) {x y : Int64} (hd : decode cc pc = .ok (.lrem, 1)) (hne : ¬ y = 0) (k : J D dA A Φ ad0 n0 nL p l e R s m args below meth c Q (pc + 1) (lv) (.long (x - x / y * y) :: st) (h) n kc ks) : J D dA A Φ ad0 n0 nL p l e R s m args below meth c Q (pc) (lv) (.long y :: .long x :: st) (h) n kc ks := fun ad H locs ls h0 hP hD hS hF hL => lv_lrem C.1 C.2.1 hd hne (k ad H locs ls h0 hP hD hS hF hL)
theorem J_lcmp (C : Cx D dA A ad0 own cc nL p R s m args meth c) {x y : Int64} (hd : decode cc pc = .ok (.lcmp, 1)) (k : J D dA A Φ ad0 n0 nL p l e R s m args below meth c Q (pc + 1) (lv) (.int (lg_cmp x y) :: st) (h) n kc ks) : J D dA A Φ ad0 n0 nL p l e R s m args below meth c Q (pc) (lv) (.long y :: .long x :: st) (h) n kc ks := fun ad H locs ls h0 hP hD hS hF hL => W.lcmp C.1 C.2.1 hd (k ad H locs ls h0 hP hD hS hF hL)
theorem J_iaddN (C : Cx D dA A ad0 own cc nL p R s m args meth c) {a b : Nat} (hd : decode cc pc = .ok (.iadd, 1)) (k : J D dA A Φ ad0 n0 nL p l e R s m args below meth c Q (pc + 1) (lv) (.int (nI (a + b)) :: st) (h) n kc ks) : J D dA A Φ ad0 n0 nL p l e R s m args below meth c Q (pc) (lv) (.int (nI b) :: .int (nI a) :: st) (h) n kc ks := J_iadd C hd (by rw [nI_add]; exact k)
theorem J_isubN (C : Cx D dA A ad0 own cc nL p R s m args meth c) {a b : Nat} (hd : decode cc pc = .ok (.isub, 1)) (hab : b ≤ a) (k : J D dA A Φ ad0 n0 nL p l e R s m args below meth c Q (pc + 1) (lv) (.int (nI (a - b)) :: st) (h) n kc ks) : J D dA A Φ ad0 n0 nL p l e R s m args below meth c Q (pc) (lv) (.int (nI b) :: .int (nI a) :: st) (h) n kc ks := J_isub C hd (by rw [pk_sub hab]; exact k)
theorem J_imulN (C : Cx D dA A ad0 own cc nL p R s m args meth c) {a b : Nat} (hd : decode cc pc = .ok (.imul, 1)) (k : J D dA A Φ ad0 n0 nL p l e R s m args below meth c Q (pc + 1) (lv) (.int (nI (a * b)) :: st) (h) n kc ks) : J D dA A Φ ad0 n0 nL p l e R s m args below meth c Q (pc) (lv) (.int (nI b) :: .int (nI a) :: st) (h) n kc ks := J_imul C hd (by rw [pk_mul]; exact k)
theorem J_idivN (C : Cx D dA A ad0 own cc nL p R s m args meth c) {a b : Nat} (hd : decode cc pc = .ok (.idiv, 1)) (ha : a < 2 ^ 31) (hb : b < 2 ^ 31) (h0 : 0 < b) (k : J D dA A Φ ad0 n0 nL p l e R s m args below meth c Q (pc + 1) (lv) (.int (nI (a / b)) :: st) (h) n kc ks) : J D dA A Φ ad0 n0 nL p l e R s m args below meth c Q (pc) (lv) (.int (nI b) :: .int (nI a) :: st) (h) n kc ks := J_idiv C hd (nI_ne0 h0 hb) (by rw [pk_div ha h0 hb]; exact k)
theorem J_iremN (C : Cx D dA A ad0 own cc nL p R s m args meth c) {a b : Nat} (hd : decode cc pc = .ok (.irem, 1)) (ha : a < 2 ^ 31) (hb : b < 2 ^ 31) (h0 : 0 < b) (k : J D dA A Φ ad0 n0 nL p l e R s m args below meth c Q (pc + 1) (lv) (.int (nI (a % b)) :: st) (h) n kc ks) : J D dA A Φ ad0 n0 nL p l e R s m args below meth c Q (pc) (lv) (.int (nI b) :: .int (nI a) :: st) (h) n kc ks := J_irem C hd (nI_ne0 h0 hb) (by rw [pk_rem ha h0 hb]; exact k)
theorem J_dup (C : Cx D dA A ad0 own cc nL p R s m args meth c) {v : Value} (hd : decode cc pc = .ok (.dup, 1)) (hv : v.category = 1) (k : J D dA A Φ ad0 n0 nL p l e R s m args below meth c Q (pc + 1) (lv) (v :: v :: st) (h) n kc ks) : J D dA A Φ ad0 n0 nL p l e R s m args below meth c Q (pc) (lv) (v :: st) (h) n kc ks := fun ad H locs ls h0 hP hD hS hF hL => lv_dup C.1 C.2.1 hd (by rw [zV_cat]; exact hv) (k ad H locs ls h0 hP hD hS hF hL)
theorem J_pop (C : Cx D dA A ad0 own cc nL p R s m args meth c) {v : Value} (hd : decode cc pc = .ok (.pop, 1)) (hv : v.category = 1) (k : J D dA A Φ ad0 n0 nL p l e R s m args below meth c Q (pc + 1) (lv) (st) (h) n kc ks) : J D dA A Φ ad0 n0 nL p l e R s m args below meth c Q (pc) (lv) (v :: st) (h) n kc ks := fun ad H locs ls h0 hP hD hS hF hL => lv_pop C.1 C.2.1 hd (by rw [zV_cat]; exact hv) (k ad H locs ls h0 hP hD hS hF hL)
theorem J_dup2 (C : Cx D dA A ad0 own cc nL p R s m args meth c) {v w : Value} (hd : decode cc pc = .ok (.dup2, 1)) (hv : v.category = 1) (hw : w.category = 1) (k : J D dA A Φ ad0 n0 nL p l e R s m args below meth c Q (pc + 1) (lv) (v :: w :: v :: w :: st) (h) n kc ks) : J D dA A Φ ad0 n0 nL p l e R s m args below meth c Q (pc) (lv) (v :: w :: st) (h) n kc ks := fun ad H locs ls h0 hP hD hS hF hL => lv_dup2_11 C.1 C.2.1 hd (by rw [zV_cat]; exact hv) (by rw [zV_cat]; exact hw) (k ad H locs ls h0 hP hD hS hF hL)
theorem J_if_eq (C : Cx D dA A ad0 own cc nL p R s m args meth c) {x : Int32} {off : Int} (tgt : Nat) (hd : decode cc pc = .ok (.ifCond .eq off, 3)) (ht : (pc : Int) + off = (tgt : Int)) (kt : x = 0 → J D dA A Φ ad0 n0 nL p l e R s m args below meth c Q (tgt) (lv) (st) (h) n kc ks) (kf : ¬ x = 0 → J D dA A Φ ad0 n0 nL p l e R s m args below meth c Q (pc + 3) (lv) (st) (h) n kc ks) : J D dA A Φ ad0 n0 nL p l e R s m args below meth c Q (pc) (lv) (.int x :: st) (h) n kc ks := fun ad H locs ls h0 hP hD hS hF hL => lv_if_eq C.1 C.2.1 hd ht (fun q => kt q ad H locs ls h0 hP hD hS hF hL) (fun q => kf q ad H locs ls h0 hP hD hS hF hL)
theorem J_if_ne (C : Cx D dA A ad0 own cc nL p R s m args meth c) {x : Int32} {off : Int} (tgt : Nat) (hd : decode cc pc = .ok (.ifCond .ne off, 3)) (ht : (pc : Int) + off = (tgt : Int)) (kt : ¬ x = 0 → J D dA A Φ ad0 n0 nL p l e R s m args below meth c Q (tgt) (lv) (st) (h) n kc ks) (kf : x = 0 → J D dA A Φ ad0 n0 nL p l e R s m args below meth c Q (pc + 3) (lv) (st) (h) n kc ks) : J D dA A Φ ad0 n0 nL p l e R s m args below meth c Q (pc) (lv) (.int x :: st) (h) n kc ks := fun ad H locs ls h0 hP hD hS hF hL => lv_if_ne C.1 C.2.1 hd ht (fun q => kt q ad H locs ls h0 hP hD hS hF hL) (fun q => kf q ad H locs ls h0 hP hD hS hF hL)
theorem J_if_lt (C : Cx D dA A ad0 own cc nL p R s m args meth c) {x : Int32} {off : Int} (tgt : Nat) (hd : decode cc pc = .ok (.ifCond .lt off, 3)) (ht : (pc : Int) + off = (tgt : Int)) (kt : x < 0 → J D dA A Φ ad0 n0 nL p l e R s m args below meth c Q (tgt) (lv) (st) (h) n kc ks) (kf : ¬ x < 0 → J D dA A Φ ad0 n0 nL p l e R s m args below meth c Q (pc + 3) (lv) (st) (h) n kc ks) : J D dA A Φ ad0 n0 nL p l e R s m args below meth c Q (pc) (lv) (.int x :: st) (h) n kc ks := fun ad H locs ls h0 hP hD hS hF hL => lv_if_lt C.1 C.2.1 hd ht (fun q => kt q ad H locs ls h0 hP hD hS hF hL) (fun q => kf q ad H locs ls h0 hP hD hS hF hL)
theorem J_if_ge (C : Cx D dA A ad0 own cc nL p R s m args meth c) {x : Int32} {off : Int} (tgt : Nat) (hd : decode cc pc = .ok (.ifCond .ge off, 3)) (ht : (pc : Int) + off = (tgt : Int)) (kt : 0 ≤ x → J D dA A Φ ad0 n0 nL p l e R s m args below meth c Q (tgt) (lv) (st) (h) n kc ks) (kf : ¬ 0 ≤ x → J D dA A Φ ad0 n0 nL p l e R s m args below meth c Q (pc + 3) (lv) (st) (h) n kc ks) : J D dA A Φ ad0 n0 nL p l e R s m args below meth c Q (pc) (lv) (.int x :: st) (h) n kc ks := fun ad H locs ls h0 hP hD hS hF hL => lv_if_ge C.1 C.2.1 hd ht (fun q => kt q ad H locs ls h0 hP hD hS hF hL) (fun q => kf q ad H locs ls h0 hP hD hS hF hL)
theorem J_if_gt (C : Cx D dA A ad0 own cc nL p R s m args meth c) {x : Int32} {off : Int} (tgt : Nat) (hd : decode cc pc = .ok (.ifCond .gt off, 3)) (ht : (pc : Int) + off = (tgt : Int)) (kt : 0 < x → J D dA A Φ ad0 n0 nL p l e R s m args below meth c Q (tgt) (lv) (st) (h) n kc ks) (kf : ¬ 0 < x → J D dA A Φ ad0 n0 nL p l e R s m args below meth c Q (pc + 3) (lv) (st) (h) n kc ks) : J D dA A Φ ad0 n0 nL p l e R s m args below meth c Q (pc) (lv) (.int x :: st) (h) n kc ks := fun ad H locs ls h0 hP hD hS hF hL => lv_if_gt C.1 C.2.1 hd ht (fun q => kt q ad H locs ls h0 hP hD hS hF hL) (fun q => kf q ad H locs ls h0 hP hD hS hF hL)
theorem J_if_le (C : Cx D dA A ad0 own cc nL p R s m args meth c) {x : Int32} {off : Int} (tgt : Nat) (hd : decode cc pc = .ok (.ifCond .le off, 3)) (ht : (pc : Int) + off = (tgt : Int)) (kt : x ≤ 0 → J D dA A Φ ad0 n0 nL p l e R s m args below meth c Q (tgt) (lv) (st) (h) n kc ks) (kf : ¬ x ≤ 0 → J D dA A Φ ad0 n0 nL p l e R s m args below meth c Q (pc + 3) (lv) (st) (h) n kc ks) : J D dA A Φ ad0 n0 nL p l e R s m args below meth c Q (pc) (lv) (.int x :: st) (h) n kc ks := fun ad H locs ls h0 hP hD hS hF hL => lv_if_le C.1 C.2.1 hd ht (fun q => kt q ad H locs ls h0 hP hD hS hF hL) (fun q => kf q ad H locs ls h0 hP hD hS hF hL)
theorem J_icmp_eq (C : Cx D dA A ad0 own cc nL p R s m args meth c) {x y : Int32} {off : Int} (tgt : Nat) (hd : decode cc pc = .ok (.if_icmp .eq off, 3)) (ht : (pc : Int) + off = (tgt : Int)) (kt : x = y → J D dA A Φ ad0 n0 nL p l e R s m args below meth c Q (tgt) (lv) (st) (h) n kc ks) (kf : ¬ x = y → J D dA A Φ ad0 n0 nL p l e R s m args below meth c Q (pc + 3) (lv) (st) (h) n kc ks) : J D dA A Φ ad0 n0 nL p l e R s m args below meth c Q (pc) (lv) (.int y :: .int x :: st) (h) n kc ks := fun ad H locs ls h0 hP hD hS hF hL => lv_icmp_eq C.1 C.2.1 hd ht (fun q => kt q ad H locs ls h0 hP hD hS hF hL) (fun q => kf q ad H locs ls h0 hP hD hS hF hL)
theorem J_icmp_ne (C : Cx D dA A ad0 own cc nL p R s m args meth c) {x y : Int32} {off : Int} (tgt : Nat) (hd : decode cc pc = .ok (.if_icmp .ne off, 3)) (ht : (pc : Int) + off = (tgt : Int)) (kt : ¬ x = y → J D dA A Φ ad0 n0 nL p l e R s m args below meth c Q (tgt) (lv) (st) (h) n kc ks) (kf : x = y → J D dA A Φ ad0 n0 nL p l e R s m args below meth c Q (pc + 3) (lv) (st) (h) n kc ks) : J D dA A Φ ad0 n0 nL p l e R s m args below meth c Q (pc) (lv) (.int y :: .int x :: st) (h) n kc ks := fun ad H locs ls h0 hP hD hS hF hL => lv_icmp_ne C.1 C.2.1 hd ht (fun q => kt q ad H locs ls h0 hP hD hS hF hL) (fun q => kf q ad H locs ls h0 hP hD hS hF hL)
theorem J_icmp_lt (C : Cx D dA A ad0 own cc nL p R s m args meth c) {x y : Int32} {off : Int} (tgt : Nat) (hd : decode cc pc = .ok (.if_icmp .lt off, 3)) (ht : (pc : Int) + off = (tgt : Int)) (kt : x < y → J D dA A Φ ad0 n0 nL p l e R s m args below meth c Q (tgt) (lv) (st) (h) n kc ks) (kf : ¬ x < y → J D dA A Φ ad0 n0 nL p l e R s m args below meth c Q (pc + 3) (lv) (st) (h) n kc ks) : J D dA A Φ ad0 n0 nL p l e R s m args below meth c Q (pc) (lv) (.int y :: .int x :: st) (h) n kc ks := fun ad H locs ls h0 hP hD hS hF hL => lv_icmp_lt C.1 C.2.1 hd ht (fun q => kt q ad H locs ls h0 hP hD hS hF hL) (fun q => kf q ad H locs ls h0 hP hD hS hF hL)
theorem J_icmp_ge (C : Cx D dA A ad0 own cc nL p R s m args meth c) {x y : Int32} {off : Int} (tgt : Nat) (hd : decode cc pc = .ok (.if_icmp .ge off, 3)) (ht : (pc : Int) + off = (tgt : Int)) (kt : y ≤ x → J D dA A Φ ad0 n0 nL p l e R s m args below meth c Q (tgt) (lv) (st) (h) n kc ks) (kf : ¬ y ≤ x → J D dA A Φ ad0 n0 nL p l e R s m args below meth c Q (pc + 3) (lv) (st) (h) n kc ks) : J D dA A Φ ad0 n0 nL p l e R s m args below meth c Q (pc) (lv) (.int y :: .int x :: st) (h) n kc ks := fun ad H locs ls h0 hP hD hS hF hL => lv_icmp_ge C.1 C.2.1 hd ht (fun q => kt q ad H locs ls h0 hP hD hS hF hL) (fun q => kf q ad H locs ls h0 hP hD hS hF hL)
theorem J_icmp_gt (C : Cx D dA A ad0 own cc nL p R s m args meth c) {x y : Int32} {off : Int} (tgt : Nat) (hd : decode cc pc = .ok (.if_icmp .gt off, 3)) (ht : (pc : Int) + off = (tgt : Int)) (kt : y < x → J D dA A Φ ad0 n0 nL p l e R s m args below meth c Q (tgt) (lv) (st) (h) n kc ks) (kf : ¬ y < x → J D dA A Φ ad0 n0 nL p l e R s m args below meth c Q (pc + 3) (lv) (st) (h) n kc ks) : J D dA A Φ ad0 n0 nL p l e R s m args below meth c Q (pc) (lv) (.int y :: .int x :: st) (h) n kc ks := fun ad H locs ls h0 hP hD hS hF hL => lv_icmp_gt C.1 C.2.1 hd ht (fun q => kt q ad H locs ls h0 hP hD hS hF hL) (fun q => kf q ad H locs ls h0 hP hD hS hF hL)
theorem J_icmp_le (C : Cx D dA A ad0 own cc nL p R s m args meth c) {x y : Int32} {off : Int} (tgt : Nat) (hd : decode cc pc = .ok (.if_icmp .le off, 3)) (ht : (pc : Int) + off = (tgt : Int)) (kt : x ≤ y → J D dA A Φ ad0 n0 nL p l e R s m args below meth c Q (tgt) (lv) (st) (h) n kc ks) (kf : ¬ x ≤ y → J D dA A Φ ad0 n0 nL p l e R s m args below meth c Q (pc + 3) (lv) (st) (h) n kc ks) : J D dA A Φ ad0 n0 nL p l e R s m args below meth c Q (pc) (lv) (.int y :: .int x :: st) (h) n kc ks := fun ad H locs ls h0 hP hD hS hF hL => lv_icmp_le C.1 C.2.1 hd ht (fun q => kt q ad H locs ls h0 hP hD hS hF hL) (fun q => kf q ad H locs ls h0 hP hD hS hF hL)
theorem J_icmpN_eq (C : Cx D dA A ad0 own cc nL p R s m args meth c) {a b : Nat} {off : Int} (tgt : Nat) (hd : decode cc pc = .ok (.if_icmp .eq off, 3)) (ht : (pc : Int) + off = (tgt : Int)) (ha : a < 2 ^ 31) (hb : b < 2 ^ 31) (kt : a = b → J D dA A Φ ad0 n0 nL p l e R s m args below meth c Q (tgt) (lv) (st) (h) n kc ks) (kf : ¬ a = b → J D dA A Φ ad0 n0 nL p l e R s m args below meth c Q (pc + 3) (lv) (st) (h) n kc ks) : J D dA A Φ ad0 n0 nL p l e R s m args below meth c Q (pc) (lv) (.int (nI b) :: .int (nI a) :: st) (h) n kc ks := J_icmp_eq C tgt hd ht (fun q => kt ((nI_eq ha hb).mp q)) (fun q => kf (fun z => q ((nI_eq ha hb).mpr z)))
theorem J_icmpN_ne (C : Cx D dA A ad0 own cc nL p R s m args meth c) {a b : Nat} {off : Int} (tgt : Nat) (hd : decode cc pc = .ok (.if_icmp .ne off, 3)) (ht : (pc : Int) + off = (tgt : Int)) (ha : a < 2 ^ 31) (hb : b < 2 ^ 31) (kt : ¬ a = b → J D dA A Φ ad0 n0 nL p l e R s m args below meth c Q (tgt) (lv) (st) (h) n kc ks) (kf : a = b → J D dA A Φ ad0 n0 nL p l e R s m args below meth c Q (pc + 3) (lv) (st) (h) n kc ks) : J D dA A Φ ad0 n0 nL p l e R s m args below meth c Q (pc) (lv) (.int (nI b) :: .int (nI a) :: st) (h) n kc ks := J_icmp_ne C tgt hd ht (fun q => kt (fun z => q ((nI_eq ha hb).mpr z))) (fun q => kf ((nI_eq ha hb).mp q))
theorem J_icmpN_lt (C : Cx D dA A ad0 own cc nL p R s m args meth c) {a b : Nat} {off : Int} (tgt : Nat) (hd : decode cc pc = .ok (.if_icmp .lt off, 3)) (ht : (pc : Int) + off = (tgt : Int)) (ha : a < 2 ^ 31) (hb : b < 2 ^ 31) (kt : a < b → J D dA A Φ ad0 n0 nL p l e R s m args below meth c Q (tgt) (lv) (st) (h) n kc ks) (kf : b ≤ a → J D dA A Φ ad0 n0 nL p l e R s m args below meth c Q (pc + 3) (lv) (st) (h) n kc ks) : J D dA A Φ ad0 n0 nL p l e R s m args below meth c Q (pc) (lv) (.int (nI b) :: .int (nI a) :: st) (h) n kc ks := J_icmp_lt C tgt hd ht (fun q => kt ((nI_ltI ha hb).mp q)) (fun q => kf (Nat.not_lt.mp fun z => q ((nI_ltI ha hb).mpr z)))
theorem J_icmpN_ge (C : Cx D dA A ad0 own cc nL p R s m args meth c) {a b : Nat} {off : Int} (tgt : Nat) (hd : decode cc pc = .ok (.if_icmp .ge off, 3)) (ht : (pc : Int) + off = (tgt : Int)) (ha : a < 2 ^ 31) (hb : b < 2 ^ 31) (kt : b ≤ a → J D dA A Φ ad0 n0 nL p l e R s m args below meth c Q (tgt) (lv) (st) (h) n kc ks) (kf : a < b → J D dA A Φ ad0 n0 nL p l e R s m args below meth c Q (pc + 3) (lv) (st) (h) n kc ks) : J D dA A Φ ad0 n0 nL p l e R s m args below meth c Q (pc) (lv) (.int (nI b) :: .int (nI a) :: st) (h) n kc ks := J_icmp_ge C tgt hd ht (fun q => kt ((nI_leI hb ha).mp q)) (fun q => kf (Nat.not_le.mp fun z => q ((nI_leI hb ha).mpr z)))
theorem J_icmpN_gt (C : Cx D dA A ad0 own cc nL p R s m args meth c) {a b : Nat} {off : Int} (tgt : Nat) (hd : decode cc pc = .ok (.if_icmp .gt off, 3)) (ht : (pc : Int) + off = (tgt : Int)) (ha : a < 2 ^ 31) (hb : b < 2 ^ 31) (kt : b < a → J D dA A Φ ad0 n0 nL p l e R s m args below meth c Q (tgt) (lv) (st) (h) n kc ks) (kf : a ≤ b → J D dA A Φ ad0 n0 nL p l e R s m args below meth c Q (pc + 3) (lv) (st) (h) n kc ks) : J D dA A Φ ad0 n0 nL p l e R s m args below meth c Q (pc) (lv) (.int (nI b) :: .int (nI a) :: st) (h) n kc ks := J_icmp_gt C tgt hd ht (fun q => kt ((nI_ltI hb ha).mp q)) (fun q => kf (Nat.not_lt.mp fun z => q ((nI_ltI hb ha).mpr z)))
theorem J_icmpN_le (C : Cx D dA A ad0 own cc nL p R s m args meth c) {a b : Nat} {off : Int} (tgt : Nat) (hd : decode cc pc = .ok (.if_icmp .le off, 3)) (ht : (pc : Int) + off = (tgt : Int)) (ha : a < 2 ^ 31) (hb : b < 2 ^ 31) (kt : a ≤ b → J D dA A Φ ad0 n0 nL p l e R s m args below meth c Q (tgt) (lv) (st) (h) n kc ks) (kf : b < a → J D dA A Φ ad0 n0 nL p l e R s m args below meth c Q (pc + 3) (lv) (st) (h) n kc ks) : J D dA A Φ ad0 n0 nL p l e R s m args below meth c Q (pc) (lv) (.int (nI b) :: .int (nI a) :: st) (h) n kc ks := J_icmp_le C tgt hd ht (fun q => kt ((nI_leI ha hb).mp q)) (fun q => kf (Nat.not_le.mp fun z => q ((nI_leI ha hb).mpr z)))
theorem J_goto (C : Cx D dA A ad0 own cc nL p R s m args meth c) {off : Int} (tgt : Nat) (hd : decode cc pc = .ok (.goto off, 3)) (ht : (pc : Int) + off = (tgt : Int)) (k : J D dA A Φ ad0 n0 nL p l e R s m args below meth c Q (tgt) (lv) (st) (h) n kc ks) : J D dA A Φ ad0 n0 nL p l e R s m args below meth c Q (pc) (lv) (st) (h) n kc ks := fun ad H locs ls h0 hP hD hS hF hL => lv_goto C.1 C.2.1 hd ht (k ad H locs ls h0 hP hD hS hF hL)
theorem J_ifnonnull (C : Cx D dA A ad0 own cc nL p R s m args meth c) {x : Nat} {off : Int} (tgt : Nat) (hd : decode cc pc = .ok (.ifnonnull off, 3)) (ht : (pc : Int) + off = (tgt : Int)) (k : J D dA A Φ ad0 n0 nL p l e R s m args below meth c Q (tgt) (lv) (st) (h) n kc ks) : J D dA A Φ ad0 n0 nL p l e R s m args below meth c Q (pc) (lv) (.ref x :: st) (h) n kc ks := fun ad H locs ls h0 hP hD hS hF hL => lv_ifnonnull C.1 C.2.1 hd ht (k ad H locs ls h0 hP hD hS hF hL)
theorem J_ifnonnullN (C : Cx D dA A ad0 own cc nL p R s m args meth c) {off : Int} (hd : decode cc pc = .ok (.ifnonnull off, 3)) (k : J D dA A Φ ad0 n0 nL p l e R s m args below meth c Q (pc + 3) (lv) (st) (h) n kc ks) : J D dA A Φ ad0 n0 nL p l e R s m args below meth c Q (pc) (lv) (.null :: st) (h) n kc ks := fun ad H locs ls h0 hP hD hS hF hL => lv_ifnonnullN C.1 C.2.1 hd (k ad H locs ls h0 hP hD hS hF hL)
theorem J_tableIn (C : Cx D dA A ad0 own cc nL p R s m args meth c) {dflt lo hi : Int} {offs : Array Int} {len : Nat} {x : Int32} {off : Int} (tgt : Nat) (hd : decode cc pc = .ok (.tableswitch dflt lo hi offs, len)) (h1 : ¬ x.toInt < lo) (h2 : ¬ hi < x.toInt) (ho : offs[(x.toInt - lo).toNat]? = some off) (ht : (pc : Int) + off = (tgt : Int)) (k : J D dA A Φ ad0 n0 nL p l e R s m args below meth c Q (tgt) (lv) (st) (h) n kc ks) : J D dA A Φ ad0 n0 nL p l e R s m args below meth c Q (pc) (lv) (.int x :: st) (h) n kc ks := fun ad H locs ls h0 hP hD hS hF hL => lv_tableIn C.1 C.2.1 hd h1 h2 ho ht (k ad H locs ls h0 hP hD hS hF hL)
theorem J_tableOut (C : Cx D dA A ad0 own cc nL p R s m args meth c) {dflt lo hi : Int} {offs : Array Int} {len : Nat} {x : Int32} (tgt : Nat) (hd : decode cc pc = .ok (.tableswitch dflt lo hi offs, len)) (h1 : x.toInt < lo ∨ hi < x.toInt) (ht : (pc : Int) + dflt = (tgt : Int)) (k : J D dA A Φ ad0 n0 nL p l e R s m args below meth c Q (tgt) (lv) (st) (h) n kc ks) : J D dA A Φ ad0 n0 nL p l e R s m args below meth c Q (pc) (lv) (.int x :: st) (h) n kc ks := fun ad H locs ls h0 hP hD hS hF hL => lv_tableOut C.1 C.2.1 hd h1 ht (k ad H locs ls h0 hP hD hS hF hL)
theorem J_lv {lv' : List (Option Value)} (hw : ∀ (i : Nat) (v : Value), lv'[i]? = some (some v) → lv[i]? = some (some v)) (k : J D dA A Φ ad0 n0 nL p l e R s m args below meth c Q (pc) (lv') (st) (h) n kc ks) : J D dA A Φ ad0 n0 nL p l e R s m args below meth c Q (pc) (lv) (st) (h) n kc ks := fun ad H locs ls h0 hP hD hS hF hL => k ad H locs ls h0 hP hD hS hF (hL.weak hw)
theorem J_widen {kc' ks' : Nat} (h1 : kc ≤ kc') (h2 : ks ≤ ks') (k : J D dA A Φ ad0 n0 nL p l e R s m args below meth c Q (pc) (lv) (st) (h) n kc' ks') : J D dA A Φ ad0 n0 nL p l e R s m args below meth c Q (pc) (lv) (st) (h) n kc ks := fun ad H locs ls h0 hP hD hS hF hL => W.widen h1 h2 (k ad H locs ls h0 hP hD hS hF hL)
def CI (ci : Nat) (C : String) (T : u_T) (N : Nat) (ty : Nat → FieldType) : Prop := cls[ci]? = some (C, T, N) ∧ (∀ w ∈ u_ws C T N, w ∈ tb) ∧ (∀ k, k < N → parseFieldDescriptor (T k).2.2.1 = some (ty k)) ∧ (∀ a, a < N → ∀ b, b < N → a ≠ b → (T a).2.1 ≠ (T b).2.1)
/-- a field's entry in a pool: of the class ci the place k -/
def FG (own : String) (idx ci k : Nat) (fin : Bool) (fty : FieldType) : Prop := ∃ (C : String) (T : u_T) (N : Nat) (ty : Nat → FieldType), CI ci C T N ty ∧ k < N ∧ (T k).1 = C ∧ (T k).2.2.2 = fin ∧ ty k = fty ∧ (Cond.fieldLink own idx C (T k).2.1 (T k).2.2.1 ∈ tb ∨ ∃ host, Cond.fieldLinkNest own idx C (T k).2.1 (T k).2.2.1 host ∈ tb)
theorem J_get (C : Cx D dA A ad0 own cc nL p R s m args meth c) {idx ci k pos : Nat} {fin : Bool} {fty : FieldType} {fs : List Value} {v : Value} (F : FG own idx ci k fin fty) (hpos : pos < n) (he : h pos = .inr (ci, fs)) (hv : fs[k]? = some v) (hd : decode cc pc = .ok (.getfield idx, 3)) (kk : J D dA A Φ ad0 n0 nL p l e R s m args below meth c Q (pc + 3) (lv) (v :: st) (h) n kc ks) : J D dA A Φ ad0 n0 nL p l e R s m args below meth c Q (pc) (lv) (.ref pos :: st) (h) n kc ks := by
  intro ad H locs ls h0 hP hD hS hF hL
  obtain ⟨CC, T, N, ty, ⟨hcl, hin, hty, hnm⟩, hk, hT, hfin, hft, hlink⟩ := F
  have hw := wl_get (dA := dA) (ad := ad) (h := h) hpos
  rw [he] at hw
  have hv' : (fs.map (zV ad))[k]? = some (zV ad v) := by rw [List.getElem?_map, hv]; rfl
  rcases hlink with hlink | ⟨host, hlink⟩
  · exact va_get (D := D) (own := own) (ref := CC) C.1 C.2.1 C.2.2.2.2.1 hin C.2.2.2.1 C.2.2.2.2.2.1 hP pos hw hcl k hk (C.2.2.2.2.1 _ hlink) (fun x hx => by rw [hT] at hx; exact hx) hv' hd (kk ad H locs ls h0 hP hD hS hF hL)
  · exact va_getN (D := D) (own := own) (ref := CC) (host := host) C.1 C.2.1 C.2.2.2.2.1 hin C.2.2.2.1 C.2.2.2.2.2.1 hP pos hw hcl k hk (C.2.2.2.2.1 _ hlink) (fun x hx => by rw [hT] at hx; exact hx) hv' hd (kk ad H locs ls h0 hP hD hS hF hL)
theorem J_put (C : Cx D dA A ad0 own cc nL p R s m args meth c) {idx ci k pos : Nat} {fty : FieldType} {fs : List Value} {v : Value} (F : FG own idx ci k false fty) (hpos : pos < n) (he : h pos = .inr (ci, fs)) (hl : k < fs.length) (hn : ∀ ad, narrow fty (zV ad v) = zV ad v) (hf : ∀ ad, fits fty (zV ad v) = true) (hd : decode cc pc = .ok (.putfield idx, 3)) (hΦ : ∀ H locs, Φ H locs := by intros; trivial) (kk : J D dA A Φ ad0 n0 nL p l e R s m args below meth c Q (pc + 3) (lv) (st) (va_up h pos (.inr (ci, fs.set k v))) n kc ks) : J D dA A Φ ad0 n0 nL p l e R s m args below meth c Q (pc) (lv) (v :: .ref pos :: st) (h) n kc ks := by
  intro ad H locs ls h0 hP hD hS hF hL
  obtain ⟨CC, T, N, ty, ⟨hcl, hin, hty, hnm⟩, hk, hT, hfin, hft, hlink⟩ := F
  have hw := wl_get (dA := dA) (ad := ad) (h := h) hpos
  rw [he] at hw
  have hd' : parseFieldDescriptor (T k).2.2.1 = some fty := by rw [← hft]; exact hty k hk
  have key : ∀ (H1 : Heap) (locs1 : List Loc), va_P D cls ((wl dA ad h n).set pos (ad pos, .inr (ci, (fs.map (zV ad)).set k (zV ad v)))) H1 → va_D A ((wl dA ad h n).set pos (ad pos, .inr (ci, (fs.map (zV ad)).set k (zV ad v)))) → va_S A s.heap H1 locs1 → W p l e R s m args below meth c H1 locs1 kc ks Q (F0 m (pc + 3) ls (st.map (zV ad))) := by
    intro H1 locs1 hP1 hD1 hS1
    have e1 : (wl dA ad h n).set pos (ad pos, .inr (ci, (fs.map (zV ad)).set k (zV ad v))) = wl dA ad (va_up h pos (.inr (ci, fs.set k v))) n := by
      rw [← List.map_set]
      exact wl_set (.inr (ci, fs.set k v)) hpos
    rw [e1] at hP1 hD1
    exact kk ad H1 locs1 ls h0 hP1 hD1 hS1 (hΦ H1 locs1) hL
  rcases hlink with hlink | ⟨host, hlink⟩
  · exact va_put (D := D) (own := own) (ref := CC) C.1 C.2.1 C.2.2.2.2.1 hin ty hty hnm C.2.2.2.1 C.2.2.2.2.2.1 hP hD hS pos hw hcl k hk (C.2.2.2.2.1 _ hlink) (fun x hx => by rw [hT] at hx; exact hx) hfin hd' (hn ad) (hf ad) (by rw [List.length_map]; exact hl) hd key
  · exact va_putN (D := D) (own := own) (ref := CC) (host := host) C.1 C.2.1 C.2.2.2.2.1 hin ty hty hnm C.2.2.2.1 C.2.2.2.2.2.1 hP hD hS pos hw hcl k hk (C.2.2.2.2.1 _ hlink) (fun x hx => by rw [hT] at hx; exact hx) hfin hd' (hn ad) (hf ad) (by rw [List.length_map]; exact hl) hd key
theorem J_putF (C : Cx D dA A ad0 own cc nL p R s m args meth c) {idx ci k pos : Nat} {fty : FieldType} {fs : List Value} {v : Value} (F : FG own idx ci k true fty) (hin2 : meth.name = "<init>") (hown : ∃ T N, cls[ci]? = some (own, T, N)) (hpos : pos < n) (he : h pos = .inr (ci, fs)) (hl : k < fs.length) (hn : ∀ ad, narrow fty (zV ad v) = zV ad v) (hf : ∀ ad, fits fty (zV ad v) = true) (hno : ∀ T : u_T, ∀ N, cls[ci]? = some (own, T, N) → Cond.fieldLink own idx own (T k).2.1 (T k).2.2.1 ∈ tb) (hd : decode cc pc = .ok (.putfield idx, 3)) (hΦ : ∀ H locs, Φ H locs := by intros; trivial) (kk : J D dA A Φ ad0 n0 nL p l e R s m args below meth c Q (pc + 3) (lv) (st) (va_up h pos (.inr (ci, fs.set k v))) n kc ks) : J D dA A Φ ad0 n0 nL p l e R s m args below meth c Q (pc) (lv) (v :: .ref pos :: st) (h) n kc ks := by
  intro ad H locs ls h0 hP hD hS hF hL
  obtain ⟨CC, T, N, ty, ⟨hcl, hin, hty, hnm⟩, hk, hT, hfin, hft, -⟩ := F
  obtain ⟨T2, N2, ho⟩ := hown
  have h3 := hcl.symm.trans ho
  simp only [Option.some.injEq, Prod.mk.injEq] at h3
  obtain ⟨rfl, rfl, rfl⟩ := h3
  have hw := wl_get (dA := dA) (ad := ad) (h := h) hpos
  rw [he] at hw
  have hd' : parseFieldDescriptor (T k).2.2.1 = some fty := by rw [← hft]; exact hty k hk
  refine va_putF (D := D) (own := CC) (ref := CC) C.1 C.2.1 C.2.2.2.2.1 hin ty hty hnm C.2.2.2.1 C.2.2.2.2.2.1 hP hD hS pos hw hcl k hk (C.2.2.2.2.1 _ (hno T N hcl)) (fun x hx => by rw [hT] at hx; exact hx) hfin hin2 hT hd' (hn ad) (hf ad) (by rw [List.length_map]; exact hl) hd ?_
  intro H1 locs1 hP1 hD1 hS1
  have e1 : (wl dA ad h n).set pos (ad pos, .inr (ci, (fs.map (zV ad)).set k (zV ad v))) = wl dA ad (va_up h pos (.inr (ci, fs.set k v))) n := by
    rw [← List.map_set]
    exact wl_set (.inr (ci, fs.set k v)) hpos
  rw [e1] at hP1 hD1
  exact kk ad H1 locs1 ls h0 hP1 hD1 hS1 (hΦ H1 locs1) hL
theorem J_iaload (C : Cx D dA A ad0 own cc nL p R s m args meth c) {pos len : Nat} {f : Nat → Int32} {i : Int32} (hpos : pos < n) (he : h pos = .inl (0, len, .inl f)) (hi : vp_in i len) (hd : decode cc pc = .ok (.iaload, 1)) (kk : J D dA A Φ ad0 n0 nL p l e R s m args below meth c Q (pc + 1) (lv) (.int (f i.toNatClampNeg) :: st) (h) n kc ks) : J D dA A Φ ad0 n0 nL p l e R s m args below meth c Q (pc) (lv) (.int i :: .ref pos :: st) (h) n kc ks := by
  intro ad H locs ls h0 hP hD hS hF hL
  have hw := wl_get (dA := dA) (ad := ad) (h := h) hpos
  rw [he] at hw
  exact va_iald C.1 C.2.1 C.2.2.2.2.2.1 hP pos 0 hw rfl hi hd (kk ad H locs ls h0 hP hD hS hF hL)
theorem J_baload (C : Cx D dA A ad0 own cc nL p R s m args meth c) {pos len : Nat} {f : Nat → Int32} {i : Int32} (hpos : pos < n) (he : h pos = .inl (1, len, .inl f)) (hi : vp_in i len) (hd : decode cc pc = .ok (.baload, 1)) (kk : J D dA A Φ ad0 n0 nL p l e R s m args below meth c Q (pc + 1) (lv) (.int (f i.toNatClampNeg) :: st) (h) n kc ks) : J D dA A Φ ad0 n0 nL p l e R s m args below meth c Q (pc) (lv) (.int i :: .ref pos :: st) (h) n kc ks := by
  intro ad H locs ls h0 hP hD hS hF hL
  have hw := wl_get (dA := dA) (ad := ad) (h := h) hpos
  rw [he] at hw
  exact va_zald C.1 C.2.1 C.2.2.2.2.2.1 hP pos 1 hw rfl hi hd (kk ad H locs ls h0 hP hD hS hF hL)
theorem J_laload (C : Cx D dA A ad0 own cc nL p R s m args meth c) {pos len : Nat} {f : Nat → Int64} {i : Int32} (hpos : pos < n) (he : h pos = .inl (2, len, .inr (.inl f))) (hi : vp_in i len) (hd : decode cc pc = .ok (.laload, 1)) (kk : J D dA A Φ ad0 n0 nL p l e R s m args below meth c Q (pc + 1) (lv) (.long (f i.toNatClampNeg) :: st) (h) n kc ks) : J D dA A Φ ad0 n0 nL p l e R s m args below meth c Q (pc) (lv) (.int i :: .ref pos :: st) (h) n kc ks := by
  intro ad H locs ls h0 hP hD hS hF hL
  have hw := wl_get (dA := dA) (ad := ad) (h := h) hpos
  rw [he] at hw
  exact va_lald C.1 C.2.1 C.2.2.2.2.2.1 hP pos 2 hw rfl hi hd (kk ad H locs ls h0 hP hD hS hF hL)
theorem J_iastore (C : Cx D dA A ad0 own cc nL p R s m args meth c) {pos len : Nat} {f : Nat → Int32} {i x : Int32} (hpos : pos < n) (he : h pos = .inl (0, len, .inl f)) (hi : vp_in i len) (hd : decode cc pc = .ok (.iastore, 1)) (hΦ : ∀ H locs, Φ H locs := by intros; trivial) (kk : J D dA A Φ ad0 n0 nL p l e R s m args below meth c Q (pc + 1) (lv) (st) (va_up h pos (.inl (0, len, .inl (upd f i.toNatClampNeg (x))))) n kc ks) : J D dA A Φ ad0 n0 nL p l e R s m args below meth c Q (pc) (lv) (.int x :: .int i :: .ref pos :: st) (h) n kc ks := by
  intro ad H locs ls h0 hP hD hS hF hL
  have hw := wl_get (dA := dA) (ad := ad) (h := h) hpos
  rw [he] at hw
  refine va_iast C.1 C.2.1 C.2.2.2.2.2.1 hP hD hS pos 0 hw rfl hi hd ?_
  intro H1 locs1 hP1 hD1 hS1
  have e1 := wl_set (dA := dA) (ad := ad) (h := h) (.inl (0, len, .inl (upd f i.toNatClampNeg (x)))) hpos
  rw [show zE dA ad (.inl (0, len, .inl (upd f i.toNatClampNeg (x)))) = .inl (dA 0, len, .inl (upd f i.toNatClampNeg (x))) from rfl] at e1
  rw [e1] at hP1 hD1
  exact kk ad H1 locs1 ls h0 hP1 hD1 hS1 (hΦ H1 locs1) hL
theorem J_bastore (C : Cx D dA A ad0 own cc nL p R s m args meth c) {pos len : Nat} {f : Nat → Int32} {i x : Int32} (hpos : pos < n) (he : h pos = .inl (1, len, .inl f)) (hi : vp_in i len) (hd : decode cc pc = .ok (.bastore, 1)) (hΦ : ∀ H locs, Φ H locs := by intros; trivial) (kk : J D dA A Φ ad0 n0 nL p l e R s m args below meth c Q (pc + 1) (lv) (st) (va_up h pos (.inl (1, len, .inl (upd f i.toNatClampNeg (vp_nar .boolean x))))) n kc ks) : J D dA A Φ ad0 n0 nL p l e R s m args below meth c Q (pc) (lv) (.int x :: .int i :: .ref pos :: st) (h) n kc ks := by
  intro ad H locs ls h0 hP hD hS hF hL
  have hw := wl_get (dA := dA) (ad := ad) (h := h) hpos
  rw [he] at hw
  refine va_zast C.1 C.2.1 C.2.2.2.2.2.1 hP hD hS pos 1 hw rfl hi hd ?_
  intro H1 locs1 hP1 hD1 hS1
  have e1 := wl_set (dA := dA) (ad := ad) (h := h) (.inl (1, len, .inl (upd f i.toNatClampNeg (vp_nar .boolean x)))) hpos
  rw [show zE dA ad (.inl (1, len, .inl (upd f i.toNatClampNeg (vp_nar .boolean x)))) = .inl (dA 1, len, .inl (upd f i.toNatClampNeg (vp_nar .boolean x))) from rfl] at e1
  rw [e1] at hP1 hD1
  exact kk ad H1 locs1 ls h0 hP1 hD1 hS1 (hΦ H1 locs1) hL
theorem J_lastore (C : Cx D dA A ad0 own cc nL p R s m args meth c) {pos len : Nat} {f : Nat → Int64} {i : Int32} {x : Int64} (hpos : pos < n) (he : h pos = .inl (2, len, .inr (.inl f))) (hi : vp_in i len) (hd : decode cc pc = .ok (.lastore, 1)) (hΦ : ∀ H locs, Φ H locs := by intros; trivial) (kk : J D dA A Φ ad0 n0 nL p l e R s m args below meth c Q (pc + 1) (lv) (st) (va_up h pos (.inl (2, len, .inr (.inl (vp_updL f i.toNatClampNeg x))))) n kc ks) : J D dA A Φ ad0 n0 nL p l e R s m args below meth c Q (pc) (lv) (.long x :: .int i :: .ref pos :: st) (h) n kc ks := by
  intro ad H locs ls h0 hP hD hS hF hL
  have hw := wl_get (dA := dA) (ad := ad) (h := h) hpos
  rw [he] at hw
  refine va_last C.1 C.2.1 C.2.2.2.2.2.1 hP hD hS pos 2 hw rfl hi hd ?_
  intro H1 locs1 hP1 hD1 hS1
  have e1 := wl_set (dA := dA) (ad := ad) (h := h) (.inl (2, len, .inr (.inl (vp_updL f i.toNatClampNeg x)))) hpos
  rw [show zE dA ad (.inl (2, len, .inr (.inl (vp_updL f i.toNatClampNeg x)))) = .inl (dA 2, len, .inr (.inl (vp_updL f i.toNatClampNeg x))) from rfl] at e1
  rw [e1] at hP1 hD1
  exact kk ad H1 locs1 ls h0 hP1 hD1 hS1 (hΦ H1 locs1) hL
theorem J_aaload (C : Cx D dA A ad0 own cc nL p R s m args meth c) {pos len t : Nat} {f : Nat → Option Nat} {i : Int32} {q : Nat} (ht : t = 3 ∨ t = 4) (hpos : pos < n) (he : h pos = .inl (t, len, .inr (.inr (.inr (.inr f))))) (hi : vp_in i len) (hq : f i.toNatClampNeg = some q) (hd : decode cc pc = .ok (.aaload, 1)) (kk : J D dA A Φ ad0 n0 nL p l e R s m args below meth c Q (pc + 1) (lv) (.ref q :: st) (h) n kc ks) : J D dA A Φ ad0 n0 nL p l e R s m args below meth c Q (pc) (lv) (.int i :: .ref pos :: st) (h) n kc ks := by
  intro ad H locs ls h0 hP hD hS hF hL
  have hw := wl_get (dA := dA) (ad := ad) (h := h) hpos
  rw [he] at hw
  have e1 : va_rf (zO ad f i.toNatClampNeg) = .ref (ad q) := by simp only [zO, hq]; rfl
  rcases ht with rfl | rfl
  · exact va_aldq C.1 C.2.1 C.2.2.2.2.2.1 hP pos 3 hw rfl hi hd (by rw [e1]; exact kk ad H locs ls h0 hP hD hS hF hL)
  · exact va_aldq C.1 C.2.1 C.2.2.2.2.2.1 hP pos 4 hw rfl hi hd (by rw [e1]; exact kk ad H locs ls h0 hP hD hS hF hL)
theorem J_aastore (C : Cx D dA A ad0 own cc nL p R s m args meth c) {pos len t pv ci : Nat} {f : Nat → Option Nat} {fs : List Value} {i : Int32} (ht : (t = 3 ∧ ci = 3) ∨ (t = 4 ∧ ci = 6)) (hpos : pos < n) (he : h pos = .inl (t, len, .inr (.inr (.inr (.inr f))))) (hpv : pv < n) (hv : h pv = .inr (ci, fs)) (hi : vp_in i len) (hd : decode cc pc = .ok (.aastore, 1)) (hΦ : ∀ H locs, Φ H locs := by intros; trivial) (kk : J D dA A Φ ad0 n0 nL p l e R s m args below meth c Q (pc + 1) (lv) (st) (va_up h pos (.inl (t, len, .inr (.inr (.inr (.inr (va_up f i.toNatClampNeg (some pv)))))))) n kc ks) : J D dA A Φ ad0 n0 nL p l e R s m args below meth c Q (pc) (lv) (.ref pv :: .int i :: .ref pos :: st) (h) n kc ks := by
  intro ad H locs ls h0 hP hD hS hF hL
  have hw := wl_get (dA := dA) (ad := ad) (h := h) hpos
  rw [he] at hw
  have hw2 := wl_get (dA := dA) (ad := ad) (h := h) hpv
  rw [hv] at hw2
  have key : ∀ (H1 : Heap) (locs1 : List Loc), va_P D cls ((wl dA ad h n).set pos (ad pos, .inl (dA t, len, .inr (.inr (.inr (.inr (va_up (zO ad f) i.toNatClampNeg (some (ad pv))))))))) H1 → va_D A ((wl dA ad h n).set pos (ad pos, .inl (dA t, len, .inr (.inr (.inr (.inr (va_up (zO ad f) i.toNatClampNeg (some (ad pv))))))))) → va_S A s.heap H1 locs1 → W p l e R s m args below meth c H1 locs1 kc ks Q (F0 m (pc + 1) ls (st.map (zV ad))) := by
    intro H1 locs1 hP1 hD1 hS1
    have e1 := wl_set (dA := dA) (ad := ad) (h := h) (.inl (t, len, .inr (.inr (.inr (.inr (va_up f i.toNatClampNeg (some pv))))))) hpos
    have e2 : zO ad (va_up f i.toNatClampNeg (some pv)) = va_up (zO ad f) i.toNatClampNeg (some (ad pv)) := by
      funext j
      by_cases hj : j = i.toNatClampNeg
      · simp [zO, va_up, hj]
      · simp [zO, va_up, hj]
    rw [show zE dA ad (.inl (t, len, .inr (.inr (.inr (.inr (va_up f i.toNatClampNeg (some pv))))))) = .inl (dA t, len, .inr (.inr (.inr (.inr (zO ad (va_up f i.toNatClampNeg (some pv))))))) from rfl, e2] at e1
    rw [e1] at hP1 hD1
    exact kk ad H1 locs1 ls h0 hP1 hD1 hS1 (hΦ H1 locs1) hL
  rcases ht with ⟨rfl, rfl⟩ | ⟨rfl, rfl⟩
  · exact va_astq C.1 C.2.1 C.2.2.2.2.2.1 hP hD hS pos 3 pv 3 (r := (R_Pkt, T_Pkt, 5)) hw rfl hw2 rfl hi hd key
  · exact va_astq C.1 C.2.1 C.2.2.2.2.2.1 hP hD hS pos 4 pv 6 (r := (R_Str, T_Str, 3)) hw rfl hw2 rfl hi hd key
theorem J_alen (C : Cx D dA A ad0 own cc nL p R s m args meth c) {pos len : Nat} {f : Nat → Int32} (hpos : pos < n) (he : h pos = .inl (0, len, .inl f)) (hd : decode cc pc = .ok (.arraylength, 1)) (kk : J D dA A Φ ad0 n0 nL p l e R s m args below meth c Q (pc + 1) (lv) (.int (nI len) :: st) (h) n kc ks) : J D dA A Φ ad0 n0 nL p l e R s m args below meth c Q (pc) (lv) (.ref pos :: st) (h) n kc ks := by
  intro ad H locs ls h0 hP hD hS hF hL
  have hw := wl_get (dA := dA) (ad := ad) (h := h) hpos
  rw [he] at hw
  exact va_alen C.1 C.2.1 C.2.2.2.2.2.1 hP pos 0 hw (ty := .int) rfl rfl hd (kk ad H locs ls h0 hP hD hS hF hL)
theorem J_mark (C : Cx D dA A ad0 own cc nL p R s m args meth c) {idx : Nat} (ho : Cond.fieldLink own idx "RelayOrbiter$LanderLink" "MARK" "[I" ∈ tb) (hn1 : n ≤ 1000) (hd : decode cc pc = .ok (.getstatic idx, 3)) (kk : J D dA A Φ ad0 n0 nL p l e R s m args below meth c Q (pc + 3) (lv) (.ref 1000 :: st) (h) n kc ks) : J D dA A Φ ad0 n0 nL p l e R s m args below meth c Q (pc) (lv) (st) (h) n kc ks := by
  intro ad H locs ls h0 hP hD hS hF hL
  refine va_gets C.1 C.2.1 C.2.2.2.2.2.2.2.2.1.1 hS C.2.2.2.1 (C.2.2.2.2.1 _ ho) (fun _ hx => hx) hd ?_
  rw [← h0 1000 (Or.inr hn1)]
  exact kk ad H locs ls h0 hP hD hS hF hL
theorem J_markld (C : Cx D dA A ad0 own cc nL p R s m args meth c) {i : Int32} {j : Nat} {v : Int32} (hij : i = nI j) (hj : j < 3) (hv : zMark j = .int v) (hn1 : n ≤ 1000) (hd : decode cc pc = .ok (.iaload, 1)) (kk : J D dA A Φ ad0 n0 nL p l e R s m args below meth c Q (pc + 1) (lv) (.int v :: st) (h) n kc ks) : J D dA A Φ ad0 n0 nL p l e R s m args below meth c Q (pc) (lv) (.int i :: .ref 1000 :: st) (h) n kc ks := by
  intro ad H locs ls h0 hP hD hS hF hL
  have h1 := kk ad H locs ls h0 hP hD hS hF hL
  show W p l e R s m args below meth c H locs kc ks Q (F0 m pc ls (.int i :: .ref (ad 1000) :: st.map (zV ad)))
  rw [h0 1000 (Or.inr hn1)]
  refine va_ti C.1 C.2.1 C.2.2.2.2.2.2.2.2.1.2.1 hS (by rw [hij]; exact vp_in_nI hj (by decide)) (v := .int v) (by rw [hij, nI_clamp (by omega)]; exact hv) hd ?_
  exact h1
end ZR
end
section
abbrev zK : Type := MethodName × ByteArray × Nat × Option FieldType
def zR (d mc ms : Nat) : Room := { frames := 10 + d, cells := mc, slots := ms, locals := 300 + 60 * d }
def zPc (D : va_G) (dA : Nat → ClassId) (ad0 : Nat → Nat) (h : Nat → va_E) (n sz : Nat) (as : List Value) : Array Value → State → Prop := va_Pc (as.map (zV ad0)) (fun U => U.heap.size = sz ∧ va_P D cls (wl dA ad0 h n) U.heap ∧ va_D (fun _ => True) (wl dA ad0 h n) ∧ va_K D cls (tyL dA) U ∧ TB U ∧ zRO (zA ad0 n sz) (ad0 1000) U U.heap)
def zQc (D : va_G) (dA : Nat → ClassId) (A : Nat → Prop) (ad0 : Nat → Nat) (n : Nat) (Post : Option Value → (Nat → va_E) → Nat → Prop) : Array Value → State → Outcome → State → Prop := fun _ st o t =>
  (∃ (ad' : Nat → Nat) (h' : Nat → va_E) (n' : Nat) (v : Option Value), (∀ k, k < n ∨ n' ≤ k → ad' k = ad0 k) ∧ n ≤ n' ∧ o = .returned (v.map (zV ad')) ∧ Post v h' n' ∧ va_P D cls (wl dA ad' h' n') t.heap ∧ va_D A (wl dA ad' h' n')) ∧ va_F A st t
/-- A CONTRACT: the method k, at depth d, making mc cells of ms slots, with n cells h, from the arguments as, comes to Post -/
def CT (l : Launch) (D : va_G) (dA : Nat → ClassId) (k : zK) (d mc ms n : Nat) (as : List Value) (h : Nat → va_E) (Post : Option Value → (Nat → va_E) → Nat → Prop) : Prop :=
  ∀ (ad0 : Nat → Nat) (sz : Nat), Met l k.1 [Cond.code k.1 k.2.1 k.2.2.1 k.2.2.2] (zR d mc ms) (zPc D dA ad0 h n sz as) (zQc D dA (zA ad0 n sz) ad0 n Post) mc ms (zA ad0 n sz)
theorem zPc_blind {D : va_G} {dA : Nat → ClassId} {ad0 : Nat → Nat} {h : Nat → va_E} {n sz : Nat} {as : List Value} : FrameBlind (zPc D dA ad0 h n sz as) := by
  intro a U g mk q
  obtain ⟨q0, q1, qP, qD, qK, qT, qR⟩ := q
  exact ⟨q0, q1, qP, qD, va_K.moved (u := U) (U := U.calling g mk a) (Vm.Alike.refl U.vm) qK, TB.move (U := U.calling g mk a) qT (State.WarmedH.refl U), zRO.moved (u := U) (U := U.calling g mk a) (Vm.Alike.refl U.vm) qR⟩
theorem lv_args_mem : ∀ (vs : List Value) (k : Nat), (∀ v ∈ vs, v.category = 1) → ∀ (i : Nat) (v : Value), vs[i]? = some v → (k + i, v) ∈ lv_args k vs
  | [], _, _, i, v, h => by simp at h
  | w :: vs, k, hc, i, v, h => by
    have hw : ¬ w.category = 2 := by rw [hc w List.mem_cons_self]; decide
    unfold lv_args
    rw [if_neg hw]
    cases i with
    | zero => simp at h; subst h; exact List.mem_cons_self
    | succ j =>
      refine List.mem_cons_of_mem _ ?_
      have := lv_args_mem vs (k + 1) (fun v hv => hc v (List.mem_cons_of_mem _ hv)) j v (by simpa using h)
      rwa [show k + 1 + j = k + (j + 1) by omega] at this
theorem lg_sl_len {vs : List Value} (hc : ∀ v ∈ vs, v.category = 1) : (lg_sl vs).length = vs.length := by
  induction vs with
  | nil => rfl
  | cons w t ih =>
    have hw : ¬ w.category = 2 := by rw [hc w List.mem_cons_self]; decide
    have := ih (fun v hv => hc v (List.mem_cons_of_mem _ hv))
    unfold lg_sl at this ⊢
    rw [List.flatMap_cons, if_neg hw, List.length_append, this]
    simp [Nat.add_comm]
def zLv (as : List Value) (nL : Nat) : List (Option Value) := as.map some ++ List.replicate (nL - as.length) none
theorem zLv_at {as : List Value} {nL i : Nat} {v : Value} (h : (zLv as nL)[i]? = some (some v)) : as[i]? = some v := by
  unfold zLv at h
  by_cases hi : i < as.length
  · rw [List.getElem?_append_left (by simpa using hi), List.getElem?_map] at h
    cases hv : as[i]? with
    | none => rw [hv] at h; cases h
    | some w => rw [hv] at h; simp at h; rw [h]
  · rw [List.getElem?_append_right (by simpa using Nat.not_lt.mp hi), List.getElem?_replicate] at h
    split at h <;> simp at h
section ZC
variable {D : va_G} {dA : Nat → ClassId} {A : Nat → Prop} {Φ : Heap → List Loc → Prop} {ad0 : Nat → Nat} {n0 nL : Nat} {p : Program} {l : Launch} {e : Env} {R : Room} {s : State} {m : MethodId} {args : Array Value} {below : List Frame} {meth : Method} {c : Code} {Q : State → Prop} {pc : Nat} {lv : List (Option Value)} {st : List Value} {h : Nat → va_E} {n kc ks : Nat} {own : String} {cc : ByteArray}
variable {Post : Option Value → (Nat → va_E) → Nat → Prop}
theorem LV.entry {as : List Value} {ad : Nat → Nat} (hc : ∀ v ∈ as, v.category = 1) (hl : as.length ≤ nL) : LV nL ad (zLv as nL) ((lg_sl (as.map (zV ad)) ++ List.replicate (nL - (lg_sl (as.map (zV ad))).length) Slot.unset).toArray) := by
  have hc' : ∀ v ∈ as.map (zV ad), v.category = 1 := by
    intro v hv
    obtain ⟨w, hw, rfl⟩ := List.mem_map.mp hv
    rw [zV_cat]; exact hc w hw
  obtain ⟨h1, h2, h3⟩ := lv_entry (as.map (zV ad)) (n := nL) (by rw [lg_sl_len hc', List.length_map]; exact hl)
  refine ⟨h1, h2, fun i v hv => ?_⟩
  have := lv_args_mem (as.map (zV ad)) 0 hc' i (zV ad v) (by rw [List.getElem?_map, zLv_at hv]; rfl)
  rw [Nat.zero_add] at this
  exact h3 _ this
theorem CT.of {k : zK} {d mc ms : Nat} {as : List Value} (hy : plainName k.1.cls = true) (hl : as.length ≤ k.2.2.1) (hc : ∀ v ∈ as, v.category = 1)
    (body : ∀ (A : Nat → Prop) (ad0 : Nat → Nat) (p : Program) (e : Env) (s : State) (m : MethodId) (args : Array Value) (below : List Frame) (meth : Method) (c : Code), Cx D dA A ad0 k.1.cls k.2.1 k.2.2.1 p (zR d mc ms) s m args meth c → meth.sig.returnType = k.2.2.2 → meth.name = k.1.name →
      J D dA A (fun _ _ => True) ad0 n k.2.2.1 p l e (zR d mc ms) s m args below meth c (MQ below (zQc D dA A ad0 n Post) args s mc ms A) 0 (zLv as k.2.2.1) [] h n 0 0) : CT l D dA k d mc ms n as h Post := by
  intro ad0 sz
  refine Met.ofW (cc := k.2.1) (maxL := k.2.2.1) (ret := k.2.2.2) (ws' := []) hy rfl ?_
  intro p e s m args below meth c s₁ B hml hv
  obtain ⟨rfl, hsz, hP, hD0, hK, hT, hRO⟩ := hv
  subst hsz
  have hown : s.vm.findClass k.1.cls = some m.cls := findClass_of_methodNamed B.named
  have C : Cx D dA (zA ad0 n s.heap.size) ad0 k.1.cls k.2.1 k.2.2.1 p (zR d mc ms) s m (as.map (zV ad0)).toArray meth c := ⟨B.exec, B.bytes, hml, hown, hT.use _, hK, fun q hq => Or.inr hq, B.notSynchronized, hRO, hT, by unfold zR; simp; omega, by unfold zR; simp; omega⟩
  have hD : va_D (zA ad0 n s.heap.size) (wl dA ad0 h n) := ⟨hD0.1, fun i q hq => by
    obtain ⟨hi, rfl⟩ := wl_lt hq
    exact Or.inl ⟨i, hi, rfl⟩⟩
  have b := body (zA ad0 n s.heap.size) ad0 p e s m (as.map (zV ad0)).toArray below meth c C B.returns (name_of_methodNamed B.named B.method).1
  rw [lg_entry_eq]
  exact b ad0 s.heap [] _ (fun _ _ => rfl) hP hD va_S.rf trivial (LV.entry hc hl)
-- ends
theorem J_ireturn (C : Cx D dA A ad0 own cc nL p R s m args meth c) {v : Int32} (hr : meth.sig.returnType = some .int) (hn0 : n0 ≤ n) (hPost : Post (some (.int v)) h n) (hd : decode cc pc = .ok (.ireturn, 1)) : J D dA A Φ ad0 n0 nL p l e R s m args below meth c (MQ below (zQc D dA A ad0 n0 Post) args s kc ks A) (pc) (lv) ([.int v]) (h) n kc ks := by
  intro ad H locs ls h0 hP hD hS hF hL
  exact W.iret C.1 C.2.1 hr (fun t ht hW => ⟨⟨ad, h, n, some (.int v), h0, hn0, rfl, hPost, by rw [ht]; exact hP, hD⟩, hS.F ht⟩) hS.2.2 hd (hlocks := C.2.2.2.2.2.2.2.1)
theorem J_zreturn (C : Cx D dA A ad0 own cc nL p R s m args meth c) {v : Int32} (hr : meth.sig.returnType = some .boolean) (hv : v = 0 ∨ v = 1) (hn0 : n0 ≤ n) (hPost : Post (some (.int v)) h n) (hd : decode cc pc = .ok (.ireturn, 1)) : J D dA A Φ ad0 n0 nL p l e R s m args below meth c (MQ below (zQc D dA A ad0 n0 Post) args s kc ks A) (pc) (lv) ([.int v]) (h) n kc ks := by
  intro ad H locs ls h0 hP hD hS hF hL
  exact W.zret C.1 C.2.1 hr (by rcases hv with rfl | rfl <;> rfl) (fun t ht hW => ⟨⟨ad, h, n, some (.int v), h0, hn0, rfl, hPost, by rw [ht]; exact hP, hD⟩, hS.F ht⟩) hS.2.2 hd (hlocks := C.2.2.2.2.2.2.2.1)
theorem J_areturn (C : Cx D dA A ad0 own cc nL p R s m args meth c) {x : Nat} {T : String} (hr : meth.sig.returnType = some (.object T)) (hn0 : n0 ≤ n) (hPost : Post (some (.ref x)) h n) (hd : decode cc pc = .ok (.areturn, 1)) : J D dA A Φ ad0 n0 nL p l e R s m args below meth c (MQ below (zQc D dA A ad0 n0 Post) args s kc ks A) (pc) (lv) ([.ref x]) (h) n kc ks := by
  intro ad H locs ls h0 hP hD hS hF hL
  exact W.aret C.1 C.2.1 hr (Or.inl ⟨T, rfl⟩) (Or.inr ⟨_, rfl⟩) (fun t ht hW => ⟨⟨ad, h, n, some (.ref x), h0, hn0, rfl, hPost, by rw [ht]; exact hP, hD⟩, hS.F ht⟩) hS.2.2 hd (hlocks := C.2.2.2.2.2.2.2.1)
theorem J_return (C : Cx D dA A ad0 own cc nL p R s m args meth c) (hr : meth.sig.returnType = none) (hn0 : n0 ≤ n) (hPost : Post none h n) (hd : decode cc pc = .ok (.return_, 1)) : J D dA A Φ ad0 n0 nL p l e R s m args below meth c (MQ below (zQc D dA A ad0 n0 Post) args s kc ks A) (pc) (lv) ([]) (h) n kc ks := by
  intro ad H locs ls h0 hP hD hS hF hL
  exact W.vret C.1 C.2.1 hr (fun t ht hW => ⟨⟨ad, h, n, none, h0, hn0, rfl, hPost, by rw [ht]; exact hP, hD⟩, hS.F ht⟩) hS.2.2 hd (hlocks := C.2.2.2.2.2.2.2.1)
-- calls
def ML (own : String) (idx : Nat) (k : zK) (np : Nat) : Prop := (Cond.methodLink own idx k.1 ∈ tb ∨ ∃ host, Cond.methodLinkNest own idx k.1 host ∈ tb) ∧ Cond.code k.1 k.2.1 k.2.2.1 k.2.2.2 ∈ tb ∧ Cond.initialized k.1.cls ∈ tb ∧ (k.1.cls ≠ "java/lang/invoke/MethodHandle" ∧ k.1.cls ≠ "java/lang/invoke/VarHandle") ∧ (parseMethodDescriptor k.1.desc).map (fun d => d.parameters.length) = some np
def MV (k : zK) (ci : Nat) : Prop := Cond.instanceMethod k.1 ∈ tb ∧ Cond.selects k.1.cls k.1 k.1 ∈ tb ∧ ∃ T N, cls[ci]? = some (k.1.cls, T, N)
def MI (k : zK) : Prop := k.1.name = "<init>" ∧ Cond.instanceMethod k.1 ∈ tb ∧ k.2.2.2 = none
/-- behind a call: the world that came back -/
theorem zAfter {mc ms n' : Nat} {h' : Nat → va_E} {as rest : List Value} {g : JFrame} {ls : Array Slot} {ad : Nat → Nat} {H : Heap} {locs : List Loc} {av : Array Value} (hrun : va_Run p l e R s m args below meth c H locs kc ks mc ms (F0 m pc ls as) rest (zQc D dA (zA ad n H.size) ad n Post av) (zA ad n H.size)) (hA : ∀ q, s.heap.size ≤ q → A q) (hP : va_P D cls (wl dA ad h n) H) (hD : va_D A (wl dA ad h n)) (hS : va_S A s.heap H locs)
    (kk : ∀ (v : Option Value) (ad' : Nat → Nat) (h' : Nat → va_E) (n' : Nat) (H1 : Heap) (locs1 : List Loc), (∀ k, k < n ∨ n' ≤ k → ad' k = ad k) → n ≤ n' → Post v h' n' → va_P D cls (wl dA ad' h' n') H1 → va_D A (wl dA ad' h' n') → va_S A s.heap H1 locs1 →
      W p l e R s m args below meth c H1 locs1 (kc + mc) (ks + ms) Q (F0 m (pc + 3) ls ((v.map (zV ad')).toList ++ rest))) : W p l e R s m args below meth c H locs kc ks Q (F0 m pc ls as) := by
  have hAA : ∀ q, zA ad n H.size q → A q := by
    rintro q (⟨k, hk, rfl⟩ | hq)
    · exact hD.2 k _ (wl_get hk)
    · exact hA q (Nat.le_trans hS.1 hq)
  intro T hT X
  obtain ⟨v, st₀, t, T', L, e0, X', hL', e1, e2, ⟨⟨ad', h', n', v', h0', hn', hv, hp, hP', hD'⟩, hz, hk⟩, st⟩ := hrun T hT X
  cases hv
  rw [e0] at hz hk
  obtain ⟨t2, a1, b1⟩ := kk v' ad' h' n' T'.heap (locs ++ L) h0' hn' hp (by rw [e1]; exact hP') (hD'.weaken (fun _ q _ hq => hAA _ hq))
    ⟨Nat.le_trans hS.1 (by rw [e1]; exact hz), fun q h1 h2 => by rw [e1, hk q (Nat.lt_of_lt_of_le h1 hS.1) (fun z => h2 (hAA q z))]; exact hS.2.1 q h1 h2, fun q hq => by
      rcases List.mem_append.mp hq with h | h
      · exact hS.2.2 q h
      · exact hAA _ (hL' q h)⟩ T' rfl X'
  exact ⟨t2, st t2 a1, b1⟩
theorem zPre (C : Cx D dA A ad0 own cc nL p R s m args meth c) {as : List Value} {ad : Nat → Nat} {H : Heap} {locs : List Loc} (h0 : ∀ k, k < n0 ∨ n ≤ k → ad k = ad0 k) (hn1 : n ≤ 1000) (hP : va_P D cls (wl dA ad h n) H) (hD : va_D A (wl dA ad h n)) (hS : va_S A s.heap H locs) : ∀ U : State, U.heap = H → s.WarmedH U.vm → zPc D dA ad h n H.size as (as.map (zV ad)).toArray U := by
  have hAA : ∀ q, zA ad n H.size q → A q := by
    rintro q (⟨k, hk, rfl⟩ | hq)
    · exact hD.2 k _ (wl_get hk)
    · exact C.2.2.2.2.2.2.1 q (Nat.le_trans hS.1 hq)
  intro U hU hW
  refine ⟨rfl, by rw [hU], by rw [hU]; exact hP, hD.weaken (fun _ _ _ _ => trivial), va_K.moved hW.alike C.2.2.2.2.2.1, C.2.2.2.2.2.2.2.2.2.1.move hW, ?_⟩
  rw [hU, h0 1000 (Or.inr hn1)]
  exact zRO.moved hW.alike ((C.2.2.2.2.2.2.2.2.1.kept (fun a h1 h2 => hS.2.1 a h1 h2)).narrow hAA)
theorem zCb (C : Cx D dA A ad0 own cc nL p R s m args meth c) {k : zK} {idx d mc ms np : Nat} (hk : Cond.code k.1 k.2.1 k.2.2.1 k.2.2.2 ∈ tb ∧ Cond.initialized k.1.cls ∈ tb ∧ (k.1.cls ≠ "java/lang/invoke/MethodHandle" ∧ k.1.cls ≠ "java/lang/invoke/VarHandle") ∧ (parseMethodDescriptor k.1.desc).map (fun d => d.parameters.length) = some np) (hl : Cond.methodLink own idx k.1 ∈ tb) (hR : d + 11 ≤ R.frames ∧ k.2.2.1 + 319 + 60 * d ≤ R.locals) : CallB R s args own idx k.1 k.2.1 k.2.2.1 k.2.2.2 [Cond.code k.1 k.2.1 k.2.2.1 k.2.2.2] (zR d mc ms) mc ms np := by
  obtain ⟨h1, h2, h3, h4⟩ := hk
  refine ⟨rfl, rfl, by show 10 + d + 1 ≤ _; omega, by show 8 + (k.2.2.1 + 11) + (300 + 60 * d) ≤ _; omega, fun w hw a' U hW => ?_, List.mem_singleton.mpr rfl, C.2.2.2.2.1 _ h1, C.2.2.2.2.1 _ h2, h3, fun sig hs => ?_, C.2.2.2.2.1 _ hl⟩
  · rw [List.mem_singleton.mp hw]
    exact zw_move (tb_ok h1) hW (C.2.2.2.2.1 _ h1)
  · rw [hs] at h4
    exact (Option.some.inj h4).symm
theorem zCn (C : Cx D dA A ad0 own cc nL p R s m args meth c) {k : zK} {idx d mc ms np : Nat} {host : String} (hk : Cond.code k.1 k.2.1 k.2.2.1 k.2.2.2 ∈ tb ∧ Cond.initialized k.1.cls ∈ tb ∧ (k.1.cls ≠ "java/lang/invoke/MethodHandle" ∧ k.1.cls ≠ "java/lang/invoke/VarHandle") ∧ (parseMethodDescriptor k.1.desc).map (fun d => d.parameters.length) = some np) (hl : Cond.methodLinkNest own idx k.1 host ∈ tb) (hR : d + 11 ≤ R.frames ∧ k.2.2.1 + 319 + 60 * d ≤ R.locals) : va_CN R s args own idx k.1 host k.2.1 k.2.2.1 k.2.2.2 [Cond.code k.1 k.2.1 k.2.2.1 k.2.2.2] (zR d mc ms) mc ms np := by
  obtain ⟨h1, h2, h3, h4⟩ := hk
  refine ⟨⟨rfl, rfl, by show 10 + d + 1 ≤ _; omega, by show 8 + (k.2.2.1 + 11) + (300 + 60 * d) ≤ _; omega, fun w hw a' U hW => ?_, List.mem_singleton.mpr rfl⟩, C.2.2.2.2.1 _ h1, C.2.2.2.2.1 _ h2, h3, fun sig hs => ?_, C.2.2.2.2.1 _ hl⟩
  · rw [List.mem_singleton.mp hw]
    exact zw_move (tb_ok h1) hW (C.2.2.2.2.1 _ h1)
  · rw [hs] at h4
    exact (Option.some.inj h4).symm
def zCat (st : List Value) : Nat := (st.map fun v => v.category).sum
theorem zCat_map {ad : Nat → Nat} (st : List Value) : ((st.map (zV ad)).map fun v => v.category).sum = zCat st := by
  unfold zCat
  rw [List.map_map]
  congr 1
  exact List.map_congr_left (fun v _ => zV_cat ad v)
theorem zRecv (C : Cx D dA A ad0 own cc nL p R s m args meth c) {ci b : Nat} {fs : List Value} {y : String} {ad : Nat → Nat} {H : Heap} (hc : ∃ T N, cls[ci]? = some (y, T, N)) (hb : b < n) (he : h b = .inr (ci, fs)) (hP : va_P D cls (wl dA ad h n) H) : ∃ cellB : Cell, H[ad b]? = some cellB ∧ cellB.vm.isStatics = false ∧ s.vm.findClass y = some cellB.cls := by
  obtain ⟨T, N, hc⟩ := hc
  have hw := wl_get (dA := dA) (ad := ad) (h := h) hb
  rw [he] at hw
  exact va_recv (q := (y, T, N)) C.2.2.2.2.2.1 hP hc hw
/-- a call of an instance method (no cells of the world are made) -/
theorem J_callV (C : Cx D dA A ad0 own cc nL p R s m args meth c) {k : zK} {idx d mc ms np ci b : Nat} {as fs : List Value} (hM : CT l D dA k d mc ms n (.ref b :: as) h Post) (hl : ML own idx k np) (hv : MV k ci) (hb : b < n) (he : h b = .inr (ci, fs)) (hn : as.length = np) (hn1 : n ≤ 1000) (hR : d + 11 ≤ R.frames ∧ k.2.2.1 + 319 + 60 * d ≤ R.locals) (hcap : kc + mc ≤ R.cells ∧ ks + ms ≤ R.slots) (hst : zCat st ≤ 8) (hPn : ∀ v h' n', Post v h' n' → n' = n) (hd : decode cc pc = .ok (.invokevirtual idx, 3)) (hΦ : ∀ H locs, Φ H locs := by intros; trivial) 
    (kk : ∀ v h', Post v h' n → J D dA A Φ ad0 n0 nL p l e R s m args below meth c Q (pc + 3) (lv) (v.toList ++ st) (h') n (kc + mc) (ks + ms)) : J D dA A Φ ad0 n0 nL p l e R s m args below meth c Q (pc) (lv) (as.reverse ++ .ref b :: st) (h) n kc ks := by
  intro ad H locs ls h0 hP hD hS hF hL
  have hpre := zPre (as := .ref b :: as) C h0 hn1 hP hD hS
  have hstk : (as.reverse ++ .ref b :: st).map (zV ad) = (as.map (zV ad)).reverse ++ .ref (ad b) :: st.map (zV ad) := by simp [zV]
  have hrun : va_Run p l e R s m args below meth c H locs kc ks mc ms (F0 m pc ls ((as.reverse ++ .ref b :: st).map (zV ad))) (st.map (zV ad)) (zQc D dA (zA ad n H.size) ad n Post (Value.ref (ad b) :: as.map (zV ad)).toArray) (zA ad n H.size) := by
    rcases hl.1 with hlk | ⟨host, hlk⟩
    · exact va_runV (C := k.1.cls) (b := ad b) ⟨C.1, C.2.1, C.2.2.1, C.2.2.2.1, C.2.2.2.2.1⟩ (hM ad H.size) ⟨zCb C hl.2 hlk hR, C.2.2.2.2.1 _ hv.1, C.2.2.2.2.1 _ hv.2.1⟩ ⟨zPc_blind, zRecv C hv.2.2 hb he hP, hpre⟩ rfl (by rw [List.length_map]; exact hn) hL.1 hstk (lv_room (by rw [zCat_map]; exact hst)) hd hcap
    · exact va_runVN (C := k.1.cls) (b := ad b) ⟨C.1, C.2.1, C.2.2.1, C.2.2.2.1, C.2.2.2.2.1⟩ (hM ad H.size) ⟨zCn C hl.2 hlk hR, C.2.2.2.2.1 _ hv.1, C.2.2.2.2.1 _ hv.2.1⟩ ⟨zPc_blind, zRecv C hv.2.2 hb he hP, hpre⟩ rfl (by rw [List.length_map]; exact hn) hL.1 hstk (lv_room (by rw [zCat_map]; exact hst)) hd hcap
  refine zAfter (n' := n) (h' := h) (g := F0 m pc ls []) hrun C.2.2.2.2.2.2.1 hP hD hS ?_
  intro v ad' h' n' H1 locs1 ha hn' hp hP1 hD1 hS1
  obtain rfl := hPn v h' n' hp
  obtain rfl : ad' = ad := funext fun k => ha k (Nat.lt_or_ge k n')
  have e9 : (v.toList ++ st).map (zV ad') = (v.map (zV ad')).toList ++ st.map (zV ad') := by cases v <;> simp
  rw [← e9]
  exact kk v h' hp ad' H1 locs1 ls h0 hP1 hD1 hS1 (hΦ H1 locs1) hL
/-- a call of a static method -/
theorem J_callS (C : Cx D dA A ad0 own cc nL p R s m args meth c) {k : zK} {idx d mc ms np : Nat} {as : List Value} (hM : CT l D dA k d mc ms n as h Post) (hl : ML own idx k np) (hv : Cond.static k.1 ∈ tb) (hn : as.length = np) (hn1 : n ≤ 1000) (hR : d + 11 ≤ R.frames ∧ k.2.2.1 + 319 + 60 * d ≤ R.locals) (hcap : kc + mc ≤ R.cells ∧ ks + ms ≤ R.slots) (hst : zCat st ≤ 8) (hPn : ∀ v h' n', Post v h' n' → n' = n) (hd : decode cc pc = .ok (.invokestatic idx, 3)) (hΦ : ∀ H locs, Φ H locs := by intros; trivial) 
    (kk : ∀ v h', Post v h' n → J D dA A Φ ad0 n0 nL p l e R s m args below meth c Q (pc + 3) (lv) (v.toList ++ st) (h') n (kc + mc) (ks + ms)) : J D dA A Φ ad0 n0 nL p l e R s m args below meth c Q (pc) (lv) (as.reverse ++ st) (h) n kc ks := by
  intro ad H locs ls h0 hP hD hS hF hL
  have hpre := zPre (as := as) C h0 hn1 hP hD hS
  have hstk : (as.reverse ++ st).map (zV ad) = (as.map (zV ad)).reverse ++ st.map (zV ad) := by simp
  have hrun : va_Run p l e R s m args below meth c H locs kc ks mc ms (F0 m pc ls ((as.reverse ++ st).map (zV ad))) (st.map (zV ad)) (zQc D dA (zA ad n H.size) ad n Post (as.map (zV ad)).toArray) (zA ad n H.size) := by
    rcases hl.1 with hlk | ⟨host, hlk⟩
    · exact va_runS ⟨C.1, C.2.1, C.2.2.1, C.2.2.2.1, C.2.2.2.2.1⟩ (hM ad H.size) ⟨zCb C hl.2 hlk hR, C.2.2.2.2.1 _ hv⟩ ⟨zPc_blind, hpre⟩ rfl (by rw [List.length_map]; exact hn) hL.1 hstk (lv_room (by rw [zCat_map]; exact hst)) hd hcap
    · exact va_runSN ⟨C.1, C.2.1, C.2.2.1, C.2.2.2.1, C.2.2.2.2.1⟩ (hM ad H.size) ⟨zCn C hl.2 hlk hR, C.2.2.2.2.1 _ hv, trivial⟩ ⟨zPc_blind, hpre⟩ rfl (by rw [List.length_map]; exact hn) hL.1 hstk (lv_room (by rw [zCat_map]; exact hst)) hd hcap
  refine zAfter (n' := n) (h' := h) (g := F0 m pc ls []) hrun C.2.2.2.2.2.2.1 hP hD hS ?_
  intro v ad' h' n' H1 locs1 ha hn' hp hP1 hD1 hS1
  obtain rfl := hPn v h' n' hp
  obtain rfl : ad' = ad := funext fun k => ha k (Nat.lt_or_ge k n')
  have e9 : (v.toList ++ st).map (zV ad') = (v.map (zV ad')).toList ++ st.map (zV ad') := by cases v <;> simp
  rw [← e9]
  exact kk v h' hp ad' H1 locs1 ls h0 hP1 hD1 hS1 (hΦ H1 locs1) hL
end ZC
end
section
abbrev Mem : Type := Nat → Nat → Int32
def mu (M : Mem) (p k : Nat) (v : Int32) : Mem := va_up M p (upd (M p) k v)
def ma (M : Mem) (p : Nat) (f : Nat → Int32) : Mem := va_up M p f
def zPk (x : Int32) : Nat := 7 + 2 * x.toNatClampNeg
def zT (x : Int32) : Value := match x.toNatClampNeg with
  | 0 => .null
  | k + 1 => .ref (61 + 2 * k)
def Ec (a : Nat) (r : Nat → Int32) : va_E :=
  if 7 ≤ a ∧ a < 55 then (if a % 2 = 1 then .inr (3, [.ref (a + 1), .int (r 1), .int (r 2), .int (r 3), .int (r 4)]) else .inl (0, 3, .inl r))
  else if 61 ≤ a ∧ a < 69 then (if a % 2 = 1 then .inr (6, [.ref (a + 1), .int (r 1), .int (r 2)]) else .inl (0, 60, .inl r))
  else if a = 0 then .inr (0, [.ref 1, .ref 2, .ref 3, .ref 55, .ref 69, .ref 73, .int (r 6)])
  else if a = 1 then .inr (1, [.int (r 0), .int (r 1), .int (r 2)])
  else if a = 2 then .inr (1, [.int (r 0), .int (r 1), .int (r 2)])
  else if a = 3 then .inr (2, [.ref 4, .ref 5, .ref 6, .int (r 3), .int (r 4), .int (r 5), .int (r 6), .int (r 7), .int (r 8), .int (r 9)])
  else if a = 4 then .inl (0, 480, .inl r)
  else if a = 5 then .inl (1, 24, .inl r)
  else if a = 6 then .inl (3, 24, .inr (.inr (.inr (.inr (fun j => some (zPk (r j)))))))
  else if a = 55 then .inr (4, [.ref 3, .ref 56, .ref 60, .int (r 3), .int (r 4), .int (r 5), .int (r 6), .int (r 7), zT (r 8), .int (r 9)])
  else if a = 56 then .inr (5, [.ref 57, .ref 58, .ref 59, .int (r 3), .int (r 4)])
  else if a = 57 then .inl (0, 60, .inl r)
  else if a = 58 then .inl (0, 8, .inl r)
  else if a = 59 then .inl (0, 8, .inl r)
  else if a = 60 then .inl (4, 4, .inr (.inr (.inr (.inr (fun j => some (61 + 2 * j))))))
  else if a = 69 then .inr (7, [.ref 70, .ref 71, .int (r 2)])
  else if a = 70 then .inl (0, 71, .inl r)
  else if a = 71 then .inr (8, [.ref 72, .int (r 1)])
  else if a = 72 then .inl (0, 64, .inl r)
  else if a = 73 then .inr (9, [.ref 74, .ref 75, .int (r 2)])
  else if a = 74 then .inl (0, 32, .inl r)
  else if a = 75 then .inl (0, 2, .inl r)
  else if a = 76 then .inr (10, [.int (r 0), .int (r 1), .ref 77, .int (r 3), .int (r 4), .ref 78, .int (r 6), .int (r 7), .int (r 8), .int (r 9), .int (r 10), .int (r 11), .ref 79, .ref 80, .ref 81, .int (r 15), .ref 82, .ref 83, .ref 84, .ref 85, .ref 86, .int (r 21), .int (r 22), .int (r 23), .ref 87, .int (r 25), .ref 88])
  else if a = 77 then .inl (0, 6, .inl r)
  else if a = 78 then .inl (0, 80, .inl r)
  else if a = 79 then .inl (1, 4, .inl r)
  else if a = 80 then .inl (0, 4, .inl r)
  else if a = 81 then .inl (0, 240, .inl r)
  else if a = 82 then .inl (0, 24, .inl r)
  else if a = 83 then .inl (0, 24, .inl r)
  else if a = 84 then .inl (0, 1440, .inl r)
  else if a = 85 then .inl (0, 72, .inl r)
  else if a = 86 then .inl (0, 24, .inl r)
  else if a = 87 then .inl (0, 32, .inl r)
  else if a = 88 then .inl (0, 2, .inl r)
  else .inl (2, 1, .inr (.inl (fun j => (r j).toInt64)))
def E (M : Mem) : Nat → va_E := fun a => Ec a (M a)
theorem e_0 (M : Mem) : E M 0 = .inr (0, [.ref 1, .ref 2, .ref 3, .ref 55, .ref 69, .ref 73, .int ((M 0) 6)]) := rfl
theorem e_1 (M : Mem) : E M 1 = .inr (1, [.int ((M 1) 0), .int ((M 1) 1), .int ((M 1) 2)]) := rfl
theorem e_2 (M : Mem) : E M 2 = .inr (1, [.int ((M 2) 0), .int ((M 2) 1), .int ((M 2) 2)]) := rfl
theorem e_3 (M : Mem) : E M 3 = .inr (2, [.ref 4, .ref 5, .ref 6, .int ((M 3) 3), .int ((M 3) 4), .int ((M 3) 5), .int ((M 3) 6), .int ((M 3) 7), .int ((M 3) 8), .int ((M 3) 9)]) := rfl
theorem e_4 (M : Mem) : E M 4 = .inl (0, 480, .inl (M 4)) := rfl
theorem e_5 (M : Mem) : E M 5 = .inl (1, 24, .inl (M 5)) := rfl
theorem e_6 (M : Mem) : E M 6 = .inl (3, 24, .inr (.inr (.inr (.inr (fun j => some (zPk ((M 6) j))))))) := rfl
theorem e_55 (M : Mem) : E M 55 = .inr (4, [.ref 3, .ref 56, .ref 60, .int ((M 55) 3), .int ((M 55) 4), .int ((M 55) 5), .int ((M 55) 6), .int ((M 55) 7), zT ((M 55) 8), .int ((M 55) 9)]) := rfl
theorem e_56 (M : Mem) : E M 56 = .inr (5, [.ref 57, .ref 58, .ref 59, .int ((M 56) 3), .int ((M 56) 4)]) := rfl
theorem e_57 (M : Mem) : E M 57 = .inl (0, 60, .inl (M 57)) := rfl
theorem e_58 (M : Mem) : E M 58 = .inl (0, 8, .inl (M 58)) := rfl
theorem e_59 (M : Mem) : E M 59 = .inl (0, 8, .inl (M 59)) := rfl
theorem e_60 (M : Mem) : E M 60 = .inl (4, 4, .inr (.inr (.inr (.inr (fun j => some (61 + 2 * j)))))) := rfl
theorem e_69 (M : Mem) : E M 69 = .inr (7, [.ref 70, .ref 71, .int ((M 69) 2)]) := rfl
theorem e_70 (M : Mem) : E M 70 = .inl (0, 71, .inl (M 70)) := rfl
theorem e_71 (M : Mem) : E M 71 = .inr (8, [.ref 72, .int ((M 71) 1)]) := rfl
theorem e_72 (M : Mem) : E M 72 = .inl (0, 64, .inl (M 72)) := rfl
theorem e_73 (M : Mem) : E M 73 = .inr (9, [.ref 74, .ref 75, .int ((M 73) 2)]) := rfl
theorem e_74 (M : Mem) : E M 74 = .inl (0, 32, .inl (M 74)) := rfl
theorem e_75 (M : Mem) : E M 75 = .inl (0, 2, .inl (M 75)) := rfl
theorem e_76 (M : Mem) : E M 76 = .inr (10, [.int ((M 76) 0), .int ((M 76) 1), .ref 77, .int ((M 76) 3), .int ((M 76) 4), .ref 78, .int ((M 76) 6), .int ((M 76) 7), .int ((M 76) 8), .int ((M 76) 9), .int ((M 76) 10), .int ((M 76) 11), .ref 79, .ref 80, .ref 81, .int ((M 76) 15), .ref 82, .ref 83, .ref 84, .ref 85, .ref 86, .int ((M 76) 21), .int ((M 76) 22), .int ((M 76) 23), .ref 87, .int ((M 76) 25), .ref 88]) := rfl
theorem e_77 (M : Mem) : E M 77 = .inl (0, 6, .inl (M 77)) := rfl
theorem e_78 (M : Mem) : E M 78 = .inl (0, 80, .inl (M 78)) := rfl
theorem e_79 (M : Mem) : E M 79 = .inl (1, 4, .inl (M 79)) := rfl
theorem e_80 (M : Mem) : E M 80 = .inl (0, 4, .inl (M 80)) := rfl
theorem e_81 (M : Mem) : E M 81 = .inl (0, 240, .inl (M 81)) := rfl
theorem e_82 (M : Mem) : E M 82 = .inl (0, 24, .inl (M 82)) := rfl
theorem e_83 (M : Mem) : E M 83 = .inl (0, 24, .inl (M 83)) := rfl
theorem e_84 (M : Mem) : E M 84 = .inl (0, 1440, .inl (M 84)) := rfl
theorem e_85 (M : Mem) : E M 85 = .inl (0, 72, .inl (M 85)) := rfl
theorem e_86 (M : Mem) : E M 86 = .inl (0, 24, .inl (M 86)) := rfl
theorem e_87 (M : Mem) : E M 87 = .inl (0, 32, .inl (M 87)) := rfl
theorem e_88 (M : Mem) : E M 88 = .inl (0, 2, .inl (M 88)) := rfl
theorem e_89 (M : Mem) : E M 89 = .inl (2, 1, .inr (.inl (fun j => ((M 89) j).toInt64))) := rfl
theorem E_mu (M : Mem) (p k : Nat) (v : Int32) : E (mu M p k v) = va_up (E M) p (Ec p (upd (M p) k v)) := by
  funext a
  by_cases h : a = p
  · subst h; simp [E, mu, va_up]
  · simp [E, mu, va_up, h]
theorem E_ma (M : Mem) (p : Nat) (f : Nat → Int32) : E (ma M p f) = va_up (E M) p (Ec p f) := by
  funext a
  by_cases h : a = p
  · subst h; simp [E, ma, va_up]
  · simp [E, ma, va_up, h]
def isI (p len : Nat) : Prop := p < 90 ∧ len < 2 ^ 31 ∧ ∀ r, Ec p r = .inl (0, len, .inl r)
def isZ (p len : Nat) : Prop := p < 90 ∧ len < 2 ^ 31 ∧ ∀ r, Ec p r = .inl (1, len, .inl r)
theorem a_4 : isI 4 480 := ⟨by decide, by decide, fun _ => rfl⟩
theorem a_57 : isI 57 60 := ⟨by decide, by decide, fun _ => rfl⟩
theorem a_58 : isI 58 8 := ⟨by decide, by decide, fun _ => rfl⟩
theorem a_59 : isI 59 8 := ⟨by decide, by decide, fun _ => rfl⟩
theorem a_70 : isI 70 71 := ⟨by decide, by decide, fun _ => rfl⟩
theorem a_72 : isI 72 64 := ⟨by decide, by decide, fun _ => rfl⟩
theorem a_74 : isI 74 32 := ⟨by decide, by decide, fun _ => rfl⟩
theorem a_75 : isI 75 2 := ⟨by decide, by decide, fun _ => rfl⟩
theorem a_77 : isI 77 6 := ⟨by decide, by decide, fun _ => rfl⟩
theorem a_78 : isI 78 80 := ⟨by decide, by decide, fun _ => rfl⟩
theorem a_80 : isI 80 4 := ⟨by decide, by decide, fun _ => rfl⟩
theorem a_81 : isI 81 240 := ⟨by decide, by decide, fun _ => rfl⟩
theorem a_82 : isI 82 24 := ⟨by decide, by decide, fun _ => rfl⟩
theorem a_83 : isI 83 24 := ⟨by decide, by decide, fun _ => rfl⟩
theorem a_84 : isI 84 1440 := ⟨by decide, by decide, fun _ => rfl⟩
theorem a_85 : isI 85 72 := ⟨by decide, by decide, fun _ => rfl⟩
theorem a_86 : isI 86 24 := ⟨by decide, by decide, fun _ => rfl⟩
theorem a_87 : isI 87 32 := ⟨by decide, by decide, fun _ => rfl⟩
theorem a_88 : isI 88 2 := ⟨by decide, by decide, fun _ => rfl⟩
theorem a_5 : isZ 5 24 := ⟨by decide, by decide, fun _ => rfl⟩
theorem a_79 : isZ 79 4 := ⟨by decide, by decide, fun _ => rfl⟩
theorem Ec_pk {j : Nat} (hj : j < 24) (r : Nat → Int32) : Ec (7 + 2 * j) r = .inr (3, [.ref (8 + 2 * j), .int (r 1), .int (r 2), .int (r 3), .int (r 4)]) := by
  unfold Ec
  rw [if_pos ⟨by omega, by omega⟩, if_pos (by omega), show 7 + 2 * j + 1 = 8 + 2 * j by omega]
theorem a_pb {j : Nat} (hj : j < 24) : isI (8 + 2 * j) 3 := ⟨by omega, by decide, fun r => by
  unfold Ec
  rw [if_pos ⟨by omega, by omega⟩, if_neg (by omega)]⟩
theorem Ec_st {j : Nat} (hj : j < 4) (r : Nat → Int32) : Ec (61 + 2 * j) r = .inr (6, [.ref (62 + 2 * j), .int (r 1), .int (r 2)]) := by
  unfold Ec
  rw [if_neg (by omega), if_pos ⟨by omega, by omega⟩, if_pos (by omega), show 61 + 2 * j + 1 = 62 + 2 * j by omega]
theorem a_sp {j : Nat} (hj : j < 4) : isI (62 + 2 * j) 60 := ⟨by omega, by decide, fun r => by
  unfold Ec
  rw [if_neg (by omega), if_pos ⟨by omega, by omega⟩, if_neg (by omega)]⟩
theorem e_pk (M : Mem) {j : Nat} (hj : j < 24) : E M (7 + 2 * j) = .inr (3, [.ref (8 + 2 * j), .int (M (7 + 2 * j) 1), .int (M (7 + 2 * j) 2), .int (M (7 + 2 * j) 3), .int (M (7 + 2 * j) 4)]) := Ec_pk hj _
theorem e_st (M : Mem) {j : Nat} (hj : j < 4) : E M (61 + 2 * j) = .inr (6, [.ref (62 + 2 * j), .int (M (61 + 2 * j) 1), .int (M (61 + 2 * j) 2)]) := Ec_st hj _
theorem zPk_nI {j : Nat} (hj : j < 24) : zPk (nI j) = 7 + 2 * j := by unfold zPk; rw [nI_clamp (by omega)]
theorem zT_0 : zT 0 = .null := rfl
theorem zT_s {j : Nat} (hj : j < 4) : zT (nI (j + 1)) = .ref (61 + 2 * j) := by unfold zT; rw [nI_clamp (by omega)]
theorem mu_same (M : Mem) (p k : Nat) (v : Int32) : mu M p k v p k = v := by simp [mu, va_up, upd]
theorem mu_k (M : Mem) (p : Nat) {k j : Nat} (v : Int32) (h : j ≠ k) : mu M p k v p j = M p j := by simp [mu, va_up, upd, h]
theorem mu_p (M : Mem) {p q : Nat} (k : Nat) (v : Int32) (h : q ≠ p) : mu M p k v q = M q := by simp [mu, va_up, h]
theorem mu_row (M : Mem) (p k : Nat) (v : Int32) : mu M p k v p = upd (M p) k v := by simp [mu, va_up]
theorem ma_row (M : Mem) (p : Nat) (f : Nat → Int32) : ma M p f p = f := by simp [ma, va_up]
theorem ma_p (M : Mem) {p q : Nat} (f : Nat → Int32) (h : q ≠ p) : ma M p f q = M q := by simp [ma, va_up, h]
section ZM
variable {D : va_G} {dA : Nat → ClassId} {A : Nat → Prop} {Φ : Heap → List Loc → Prop} {ad0 : Nat → Nat} {n0 nL : Nat} {p : Program} {l : Launch} {e : Env} {R : Room} {s : State} {m : MethodId} {args : Array Value} {below : List Frame} {meth : Method} {c : Code} {Q : State → Prop} {pc : Nat} {lv : List (Option Value)} {st : List Value} {h : Nat → va_E} {n kc ks : Nat} {own : String} {cc : ByteArray} {M : Mem} {Post : Option Value → (Nat → va_E) → Nat → Prop}
theorem K_put (C : Cx D dA A ad0 own cc nL p R s m args meth c) {idx ci k pos : Nat} {fty : FieldType} {fs : List Value} {v : Int32} {w : Value} (F : FG own idx ci k false fty) (hpos : pos < 90) (he : E M pos = .inr (ci, fs)) (hl : k < fs.length) (hw : ∀ ad, zV ad w = w ∨ True) (hn : ∀ ad, narrow fty (zV ad w) = zV ad w) (hf : ∀ ad, fits fty (zV ad w) = true) (hu : Ec pos (upd (M pos) k v) = .inr (ci, fs.set k w)) (hd : decode cc pc = .ok (.putfield idx, 3)) (hΦ : ∀ H locs, Φ H locs := by intros; trivial) (kk : J D dA A Φ ad0 n0 nL p l e R s m args below meth c Q (pc + 3) (lv) (st) (E (mu M pos k v)) 90 kc ks) : J D dA A Φ ad0 n0 nL p l e R s m args below meth c Q (pc) (lv) (w :: .ref pos :: st) (E M) 90 kc ks := J_put C F hpos he hl hn hf hd hΦ (by rw [← hu, ← E_mu]; exact kk)
theorem K_putI (C : Cx D dA A ad0 own cc nL p R s m args meth c) {idx ci k pos : Nat} {fs : List Value} {v : Int32} (F : FG own idx ci k false .int) (hpos : pos < 90) (he : E M pos = .inr (ci, fs)) (hl : k < fs.length) (hu : Ec pos (upd (M pos) k v) = .inr (ci, fs.set k (.int v))) (hd : decode cc pc = .ok (.putfield idx, 3)) (hΦ : ∀ H locs, Φ H locs := by intros; trivial) (kk : J D dA A Φ ad0 n0 nL p l e R s m args below meth c Q (pc + 3) (lv) (st) (E (mu M pos k v)) 90 kc ks) : J D dA A Φ ad0 n0 nL p l e R s m args below meth c Q (pc) (lv) (.int v :: .ref pos :: st) (E M) 90 kc ks := K_put C F hpos he hl (fun _ => Or.inr trivial) (fun _ => rfl) (fun _ => rfl) hu hd hΦ kk
theorem K_putZ (C : Cx D dA A ad0 own cc nL p R s m args meth c) {idx ci k pos : Nat} {fs : List Value} {v : Int32} (F : FG own idx ci k false .boolean) (hpos : pos < 90) (he : E M pos = .inr (ci, fs)) (hl : k < fs.length) (hz : v = 0 ∨ v = 1) (hu : Ec pos (upd (M pos) k v) = .inr (ci, fs.set k (.int v))) (hd : decode cc pc = .ok (.putfield idx, 3)) (hΦ : ∀ H locs, Φ H locs := by intros; trivial) (kk : J D dA A Φ ad0 n0 nL p l e R s m args below meth c Q (pc + 3) (lv) (st) (E (mu M pos k v)) 90 kc ks) : J D dA A Φ ad0 n0 nL p l e R s m args below meth c Q (pc) (lv) (.int v :: .ref pos :: st) (E M) 90 kc ks := K_put C F hpos he hl (fun _ => Or.inr trivial) (fun _ => by rcases hz with rfl | rfl <;> rfl) (fun _ => by rcases hz with rfl | rfl <;> rfl) hu hd hΦ kk
theorem K_ial (C : Cx D dA A ad0 own cc nL p R s m args meth c) {pos len j : Nat} {i : Int32} (ha : isI pos len) (hj : i = nI j) (hlt : j < len) (hd : decode cc pc = .ok (.iaload, 1)) (kk : J D dA A Φ ad0 n0 nL p l e R s m args below meth c Q (pc + 1) (lv) (.int (M pos j) :: st) (E M) 90 kc ks) : J D dA A Φ ad0 n0 nL p l e R s m args below meth c Q (pc) (lv) (.int i :: .ref pos :: st) (E M) 90 kc ks := J_iaload C ha.1 (ha.2.2 _) (by rw [hj]; exact vp_in_nI hlt ha.2.1) hd (by rw [hj, nI_clamp (Nat.lt_trans hlt ha.2.1)]; exact kk)
theorem K_bal (C : Cx D dA A ad0 own cc nL p R s m args meth c) {pos len j : Nat} {i : Int32} (ha : isZ pos len) (hj : i = nI j) (hlt : j < len) (hd : decode cc pc = .ok (.baload, 1)) (kk : J D dA A Φ ad0 n0 nL p l e R s m args below meth c Q (pc + 1) (lv) (.int (M pos j) :: st) (E M) 90 kc ks) : J D dA A Φ ad0 n0 nL p l e R s m args below meth c Q (pc) (lv) (.int i :: .ref pos :: st) (E M) 90 kc ks := J_baload C ha.1 (ha.2.2 _) (by rw [hj]; exact vp_in_nI hlt ha.2.1) hd (by rw [hj, nI_clamp (Nat.lt_trans hlt ha.2.1)]; exact kk)
theorem K_ias (C : Cx D dA A ad0 own cc nL p R s m args meth c) {pos len j : Nat} {i x : Int32} (ha : isI pos len) (hj : i = nI j) (hlt : j < len) (hd : decode cc pc = .ok (.iastore, 1)) (hΦ : ∀ H locs, Φ H locs := by intros; trivial) (kk : J D dA A Φ ad0 n0 nL p l e R s m args below meth c Q (pc + 1) (lv) (st) (E (mu M pos j x)) 90 kc ks) : J D dA A Φ ad0 n0 nL p l e R s m args below meth c Q (pc) (lv) (.int x :: .int i :: .ref pos :: st) (E M) 90 kc ks := J_iastore C ha.1 (ha.2.2 _) (by rw [hj]; exact vp_in_nI hlt ha.2.1) hd hΦ (by rw [hj, nI_clamp (Nat.lt_trans hlt ha.2.1), ← ha.2.2, ← E_mu]; exact kk)
theorem K_bas (C : Cx D dA A ad0 own cc nL p R s m args meth c) {pos len j : Nat} {i x : Int32} (ha : isZ pos len) (hj : i = nI j) (hlt : j < len) (hx : x = 0 ∨ x = 1) (hd : decode cc pc = .ok (.bastore, 1)) (hΦ : ∀ H locs, Φ H locs := by intros; trivial) (kk : J D dA A Φ ad0 n0 nL p l e R s m args below meth c Q (pc + 1) (lv) (st) (E (mu M pos j x)) 90 kc ks) : J D dA A Φ ad0 n0 nL p l e R s m args below meth c Q (pc) (lv) (.int x :: .int i :: .ref pos :: st) (E M) 90 kc ks := J_bastore C ha.1 (ha.2.2 _) (by rw [hj]; exact vp_in_nI hlt ha.2.1) hd hΦ (by rw [hj, nI_clamp (Nat.lt_trans hlt ha.2.1), show vp_nar .boolean x = x by rcases hx with rfl | rfl <;> rfl, ← ha.2.2, ← E_mu]; exact kk)
theorem K_alen (C : Cx D dA A ad0 own cc nL p R s m args meth c) {pos len : Nat} (ha : isI pos len) (hd : decode cc pc = .ok (.arraylength, 1)) (kk : J D dA A Φ ad0 n0 nL p l e R s m args below meth c Q (pc + 1) (lv) (.int (nI len) :: st) (E M) 90 kc ks) : J D dA A Φ ad0 n0 nL p l e R s m args below meth c Q (pc) (lv) (.ref pos :: st) (E M) 90 kc ks := J_alen C ha.1 (ha.2.2 _) hd kk
theorem K_pkld (C : Cx D dA A ad0 own cc nL p R s m args meth c) {j x : Nat} {i : Int32} (hj : i = nI j) (hlt : j < 24) (hx : M 6 j = nI x) (hx2 : x < 24) (hd : decode cc pc = .ok (.aaload, 1)) (kk : J D dA A Φ ad0 n0 nL p l e R s m args below meth c Q (pc + 1) (lv) (.ref (7 + 2 * x) :: st) (E M) 90 kc ks) : J D dA A Φ ad0 n0 nL p l e R s m args below meth c Q (pc) (lv) (.int i :: .ref 6 :: st) (E M) 90 kc ks := J_aaload C (Or.inl rfl) (by decide) (e_6 M) (by rw [hj]; exact vp_in_nI hlt (by decide)) (by rw [hj, nI_clamp (by omega), hx, zPk_nI hx2]) hd kk
theorem K_pkst (C : Cx D dA A ad0 own cc nL p R s m args meth c) {j x : Nat} {i : Int32} (hj : i = nI j) (hlt : j < 24) (hx2 : x < 24) (hd : decode cc pc = .ok (.aastore, 1)) (hΦ : ∀ H locs, Φ H locs := by intros; trivial) (kk : J D dA A Φ ad0 n0 nL p l e R s m args below meth c Q (pc + 1) (lv) (st) (E (mu M 6 j (nI x))) 90 kc ks) : J D dA A Φ ad0 n0 nL p l e R s m args below meth c Q (pc) (lv) (.ref (7 + 2 * x) :: .int i :: .ref 6 :: st) (E M) 90 kc ks := by
  refine J_aastore C (Or.inl ⟨rfl, rfl⟩) (by decide) (e_6 M) (by omega) (e_pk M hx2) (by rw [hj]; exact vp_in_nI hlt (by decide)) hd hΦ ?_
  have e1 : E (mu M 6 j (nI x)) = va_up (E M) 6 (.inl (3, 24, .inr (.inr (.inr (.inr (va_up (fun j => some (zPk (M 6 j))) i.toNatClampNeg (some (7 + 2 * x)))))))) := by
    rw [E_mu, hj, nI_clamp (by omega)]
    congr 1
    show Sum.inl (3, 24, Sum.inr (Sum.inr (Sum.inr (Sum.inr (fun a => some (zPk (upd (M 6) j (nI x) a))))))) = _
    have e2 : (fun a => some (zPk (upd (M 6) j (nI x) a))) = va_up (fun j => some (zPk (M 6 j))) j (some (7 + 2 * x)) := by
      funext a
      by_cases h : a = j
      · simp [upd, va_up, h, zPk_nI hx2]
      · simp [upd, va_up, h]
    rw [e2]
  rw [← e1]
  exact kk
theorem K_stld (C : Cx D dA A ad0 own cc nL p R s m args meth c) {j : Nat} {i : Int32} (hj : i = nI j) (hlt : j < 4) (hd : decode cc pc = .ok (.aaload, 1)) (kk : J D dA A Φ ad0 n0 nL p l e R s m args below meth c Q (pc + 1) (lv) (.ref (61 + 2 * j) :: st) (E M) 90 kc ks) : J D dA A Φ ad0 n0 nL p l e R s m args below meth c Q (pc) (lv) (.int i :: .ref 60 :: st) (E M) 90 kc ks := J_aaload C (Or.inr rfl) (by decide) (e_60 M) (by rw [hj]; exact vp_in_nI hlt (by decide)) (by rw [hj, nI_clamp (by omega)]) hd kk
/-- A CONTRACT OVER THE MEMORY -/
def CM (l : Launch) (D : va_G) (dA : Nat → ClassId) (k : zK) (d : Nat) (as : List Value) (M : Mem) (P : Option Value → Mem → Prop) : Prop := CT l D dA k d 0 0 90 as (E M) (fun v h' n' => n' = 90 ∧ ∃ M', h' = E M' ∧ P v M')
theorem K_callV (C : Cx D dA A ad0 own cc nL p R s m args meth c) {k : zK} {idx d np ci b : Nat} {as fs : List Value} {PP : Option Value → Mem → Prop} (hM : CM l D dA k d (.ref b :: as) M PP) (hl : ML own idx k np) (hv : MV k ci) (hb : b < 90) (he : E M b = .inr (ci, fs)) (hn : as.length = np) (hR : d + 11 ≤ R.frames ∧ k.2.2.1 + 319 + 60 * d ≤ R.locals) (hcap : kc + 0 ≤ R.cells ∧ ks + 0 ≤ R.slots) (hst : zCat st ≤ 8) (hd : decode cc pc = .ok (.invokevirtual idx, 3)) (hΦ : ∀ H locs, Φ H locs := by intros; trivial) 
    (kk : ∀ v M', PP v M' → J D dA A Φ ad0 n0 nL p l e R s m args below meth c Q (pc + 3) (lv) (v.toList ++ st) (E M') 90 kc ks) : J D dA A Φ ad0 n0 nL p l e R s m args below meth c Q (pc) (lv) (as.reverse ++ .ref b :: st) (E M) 90 kc ks :=
  J_callV C hM hl hv hb he hn (by decide) hR hcap hst (fun _ _ _ q => q.1) hd hΦ (fun v h' q => by obtain ⟨-, M', rfl, q⟩ := q; exact kk v M' q)
theorem K_callS (C : Cx D dA A ad0 own cc nL p R s m args meth c) {k : zK} {idx d np : Nat} {as : List Value} {PP : Option Value → Mem → Prop} (hM : CM l D dA k d as M PP) (hl : ML own idx k np) (hv : Cond.static k.1 ∈ tb) (hn : as.length = np) (hR : d + 11 ≤ R.frames ∧ k.2.2.1 + 319 + 60 * d ≤ R.locals) (hcap : kc + 0 ≤ R.cells ∧ ks + 0 ≤ R.slots) (hst : zCat st ≤ 8) (hd : decode cc pc = .ok (.invokestatic idx, 3)) (hΦ : ∀ H locs, Φ H locs := by intros; trivial) 
    (kk : ∀ v M', PP v M' → J D dA A Φ ad0 n0 nL p l e R s m args below meth c Q (pc + 3) (lv) (v.toList ++ st) (E M') 90 kc ks) : J D dA A Φ ad0 n0 nL p l e R s m args below meth c Q (pc) (lv) (as.reverse ++ st) (E M) 90 kc ks :=
  J_callS C hM hl hv hn (by decide) hR hcap hst (fun _ _ _ q => q.1) hd hΦ (fun v h' q => by obtain ⟨-, M', rfl, q⟩ := q; exact kk v M' q)
theorem K_iret (C : Cx D dA A ad0 own cc nL p R s m args meth c) {PP : Option Value → Mem → Prop} {v : Int32} (hr : meth.sig.returnType = some .int) (hP : PP (some (.int v)) M) (hd : decode cc pc = .ok (.ireturn, 1)) : J D dA A Φ ad0 90 nL p l e R s m args below meth c (MQ below (zQc D dA A ad0 90 (fun v h' n' => n' = 90 ∧ ∃ M', h' = E M' ∧ PP v M')) args s 0 0 A) pc lv ([.int v]) (E M) 90 0 0 := J_ireturn C hr (Nat.le_refl _) ⟨rfl, M, rfl, hP⟩ hd
theorem K_zret (C : Cx D dA A ad0 own cc nL p R s m args meth c) {PP : Option Value → Mem → Prop} {v : Int32} (hr : meth.sig.returnType = some .boolean) (hv : v = 0 ∨ v = 1) (hP : PP (some (.int v)) M) (hd : decode cc pc = .ok (.ireturn, 1)) : J D dA A Φ ad0 90 nL p l e R s m args below meth c (MQ below (zQc D dA A ad0 90 (fun v h' n' => n' = 90 ∧ ∃ M', h' = E M' ∧ PP v M')) args s 0 0 A) pc lv ([.int v]) (E M) 90 0 0 := J_zreturn C hr hv (Nat.le_refl _) ⟨rfl, M, rfl, hP⟩ hd
theorem K_aret (C : Cx D dA A ad0 own cc nL p R s m args meth c) {PP : Option Value → Mem → Prop} {x : Nat} {T : String} (hr : meth.sig.returnType = some (.object T)) (hP : PP (some (.ref x)) M) (hd : decode cc pc = .ok (.areturn, 1)) : J D dA A Φ ad0 90 nL p l e R s m args below meth c (MQ below (zQc D dA A ad0 90 (fun v h' n' => n' = 90 ∧ ∃ M', h' = E M' ∧ PP v M')) args s 0 0 A) pc lv ([.ref x]) (E M) 90 0 0 := J_areturn C hr (Nat.le_refl _) ⟨rfl, M, rfl, hP⟩ hd
theorem K_ret (C : Cx D dA A ad0 own cc nL p R s m args meth c) {PP : Option Value → Mem → Prop} (hr : meth.sig.returnType = none) (hP : PP none M) (hd : decode cc pc = .ok (.return_, 1)) : J D dA A Φ ad0 90 nL p l e R s m args below meth c (MQ below (zQc D dA A ad0 90 (fun v h' n' => n' = 90 ∧ ∃ M', h' = E M' ∧ PP v M')) args s 0 0 A) pc lv ([]) (E M) 90 0 0 := J_return C hr (Nat.le_refl _) ⟨rfl, M, rfl, hP⟩ hd
end ZM
end
section
set_option maxRecDepth 20000 in
theorem ci_Orb : CI 0 R_Orb T_Orb 7 ty_Orb := by
  refine ⟨rfl, ?_, tk_Orb, nm_Orb⟩
  intro w hw
  obtain ⟨k, hk, rfl⟩ := List.mem_map.mp hw
  have hk := List.mem_range.mp hk
  match k, hk with
  | 0, _ => exact tb_in 325 (by decide +kernel) (by decide +kernel)
  | 1, _ => exact tb_in 327 (by decide +kernel) (by decide +kernel)
  | 2, _ => exact tb_in 329 (by decide +kernel) (by decide +kernel)
  | 3, _ => exact tb_in 331 (by decide +kernel) (by decide +kernel)
  | 4, _ => exact tb_in 333 (by decide +kernel) (by decide +kernel)
  | 5, _ => exact tb_in 335 (by decide +kernel) (by decide +kernel)
  | 6, _ => exact tb_in 337 (by decide +kernel) (by decide +kernel)
  | k + 7, hk => omega
set_option maxRecDepth 20000 in
theorem ci_Win : CI 1 R_Win T_Win 3 ty_Win := by
  refine ⟨rfl, ?_, tk_Win, nm_Win⟩
  intro w hw
  obtain ⟨k, hk, rfl⟩ := List.mem_map.mp hw
  have hk := List.mem_range.mp hk
  match k, hk with
  | 0, _ => exact tb_in 92 (by decide +kernel) (by decide +kernel)
  | 1, _ => exact tb_in 94 (by decide +kernel) (by decide +kernel)
  | 2, _ => exact tb_in 96 (by decide +kernel) (by decide +kernel)
  | k + 3, hk => omega
set_option maxRecDepth 20000 in
theorem ci_Sto : CI 2 R_Sto T_Sto 10 ty_Sto := by
  refine ⟨rfl, ?_, tk_Sto, nm_Sto⟩
  intro w hw
  obtain ⟨k, hk, rfl⟩ := List.mem_map.mp hw
  have hk := List.mem_range.mp hk
  match k, hk with
  | 0, _ => exact tb_in 165 (by decide +kernel) (by decide +kernel)
  | 1, _ => exact tb_in 167 (by decide +kernel) (by decide +kernel)
  | 2, _ => exact tb_in 169 (by decide +kernel) (by decide +kernel)
  | 3, _ => exact tb_in 171 (by decide +kernel) (by decide +kernel)
  | 4, _ => exact tb_in 173 (by decide +kernel) (by decide +kernel)
  | 5, _ => exact tb_in 175 (by decide +kernel) (by decide +kernel)
  | 6, _ => exact tb_in 177 (by decide +kernel) (by decide +kernel)
  | 7, _ => exact tb_in 179 (by decide +kernel) (by decide +kernel)
  | 8, _ => exact tb_in 181 (by decide +kernel) (by decide +kernel)
  | 9, _ => exact tb_in 183 (by decide +kernel) (by decide +kernel)
  | k + 10, hk => omega
set_option maxRecDepth 20000 in
theorem ci_Pkt : CI 3 R_Pkt T_Pkt 5 ty_Pkt := by
  refine ⟨rfl, ?_, tk_Pkt, nm_Pkt⟩
  intro w hw
  obtain ⟨k, hk, rfl⟩ := List.mem_map.mp hw
  have hk := List.mem_range.mp hk
  match k, hk with
  | 0, _ => exact tb_in 133 (by decide +kernel) (by decide +kernel)
  | 1, _ => exact tb_in 135 (by decide +kernel) (by decide +kernel)
  | 2, _ => exact tb_in 137 (by decide +kernel) (by decide +kernel)
  | 3, _ => exact tb_in 139 (by decide +kernel) (by decide +kernel)
  | 4, _ => exact tb_in 141 (by decide +kernel) (by decide +kernel)
  | k + 5, hk => omega
set_option maxRecDepth 20000 in
theorem ci_Ses : CI 4 R_Ses T_Ses 10 ty_Ses := by
  refine ⟨rfl, ?_, tk_Ses, nm_Ses⟩
  intro w hw
  obtain ⟨k, hk, rfl⟩ := List.mem_map.mp hw
  have hk := List.mem_range.mp hk
  match k, hk with
  | 0, _ => exact tb_in 250 (by decide +kernel) (by decide +kernel)
  | 1, _ => exact tb_in 252 (by decide +kernel) (by decide +kernel)
  | 2, _ => exact tb_in 254 (by decide +kernel) (by decide +kernel)
  | 3, _ => exact tb_in 256 (by decide +kernel) (by decide +kernel)
  | 4, _ => exact tb_in 258 (by decide +kernel) (by decide +kernel)
  | 5, _ => exact tb_in 260 (by decide +kernel) (by decide +kernel)
  | 6, _ => exact tb_in 262 (by decide +kernel) (by decide +kernel)
  | 7, _ => exact tb_in 264 (by decide +kernel) (by decide +kernel)
  | 8, _ => exact tb_in 266 (by decide +kernel) (by decide +kernel)
  | 9, _ => exact tb_in 268 (by decide +kernel) (by decide +kernel)
  | k + 10, hk => omega
set_option maxRecDepth 20000 in
theorem ci_Har : CI 5 R_Har T_Har 5 ty_Har := by
  refine ⟨rfl, ?_, tk_Har, nm_Har⟩
  intro w hw
  obtain ⟨k, hk, rfl⟩ := List.mem_map.mp hw
  have hk := List.mem_range.mp hk
  match k, hk with
  | 0, _ => exact tb_in 209 (by decide +kernel) (by decide +kernel)
  | 1, _ => exact tb_in 211 (by decide +kernel) (by decide +kernel)
  | 2, _ => exact tb_in 213 (by decide +kernel) (by decide +kernel)
  | 3, _ => exact tb_in 215 (by decide +kernel) (by decide +kernel)
  | 4, _ => exact tb_in 217 (by decide +kernel) (by decide +kernel)
  | k + 5, hk => omega
set_option maxRecDepth 20000 in
theorem ci_Str : CI 6 R_Str T_Str 3 ty_Str := by
  refine ⟨rfl, ?_, tk_Str, nm_Str⟩
  intro w hw
  obtain ⟨k, hk, rfl⟩ := List.mem_map.mp hw
  have hk := List.mem_range.mp hk
  match k, hk with
  | 0, _ => exact tb_in 233 (by decide +kernel) (by decide +kernel)
  | 1, _ => exact tb_in 235 (by decide +kernel) (by decide +kernel)
  | 2, _ => exact tb_in 237 (by decide +kernel) (by decide +kernel)
  | k + 3, hk => omega
set_option maxRecDepth 20000 in
theorem ci_Lan : CI 7 R_Lan T_Lan 3 ty_Lan := by
  refine ⟨rfl, ?_, tk_Lan, nm_Lan⟩
  intro w hw
  obtain ⟨k, hk, rfl⟩ := List.mem_map.mp hw
  have hk := List.mem_range.mp hk
  match k, hk with
  | 0, _ => exact tb_in 294 (by decide +kernel) (by decide +kernel)
  | 1, _ => exact tb_in 296 (by decide +kernel) (by decide +kernel)
  | 2, _ => exact tb_in 298 (by decide +kernel) (by decide +kernel)
  | k + 3, hk => omega
set_option maxRecDepth 20000 in
theorem ci_Frm : CI 8 R_Frm T_Frm 2 ty_Frm := by
  refine ⟨rfl, ?_, tk_Frm, nm_Frm⟩
  intro w hw
  obtain ⟨k, hk, rfl⟩ := List.mem_map.mp hw
  have hk := List.mem_range.mp hk
  match k, hk with
  | 0, _ => exact tb_in 285 (by decide +kernel) (by decide +kernel)
  | 1, _ => exact tb_in 287 (by decide +kernel) (by decide +kernel)
  | k + 2, hk => omega
set_option maxRecDepth 20000 in
theorem ci_Ear : CI 9 R_Ear T_Ear 3 ty_Ear := by
  refine ⟨rfl, ?_, tk_Ear, nm_Ear⟩
  intro w hw
  obtain ⟨k, hk, rfl⟩ := List.mem_map.mp hw
  have hk := List.mem_range.mp hk
  match k, hk with
  | 0, _ => exact tb_in 311 (by decide +kernel) (by decide +kernel)
  | 1, _ => exact tb_in 313 (by decide +kernel) (by decide +kernel)
  | 2, _ => exact tb_in 315 (by decide +kernel) (by decide +kernel)
  | k + 3, hk => omega
set_option maxRecDepth 20000 in
theorem ci_Mod : CI 10 R_Mod T_Mod 27 ty_Mod := by
  refine ⟨rfl, ?_, tk_Mod, nm_Mod⟩
  intro w hw
  obtain ⟨k, hk, rfl⟩ := List.mem_map.mp hw
  have hk := List.mem_range.mp hk
  match k, hk with
  | 0, _ => exact tb_in 1119 (by decide +kernel) (by decide +kernel)
  | 1, _ => exact tb_in 1121 (by decide +kernel) (by decide +kernel)
  | 2, _ => exact tb_in 1123 (by decide +kernel) (by decide +kernel)
  | 3, _ => exact tb_in 1125 (by decide +kernel) (by decide +kernel)
  | 4, _ => exact tb_in 1127 (by decide +kernel) (by decide +kernel)
  | 5, _ => exact tb_in 1129 (by decide +kernel) (by decide +kernel)
  | 6, _ => exact tb_in 1131 (by decide +kernel) (by decide +kernel)
  | 7, _ => exact tb_in 1133 (by decide +kernel) (by decide +kernel)
  | 8, _ => exact tb_in 1135 (by decide +kernel) (by decide +kernel)
  | 9, _ => exact tb_in 1137 (by decide +kernel) (by decide +kernel)
  | 10, _ => exact tb_in 1139 (by decide +kernel) (by decide +kernel)
  | 11, _ => exact tb_in 1141 (by decide +kernel) (by decide +kernel)
  | 12, _ => exact tb_in 1143 (by decide +kernel) (by decide +kernel)
  | 13, _ => exact tb_in 1145 (by decide +kernel) (by decide +kernel)
  | 14, _ => exact tb_in 1147 (by decide +kernel) (by decide +kernel)
  | 15, _ => exact tb_in 1149 (by decide +kernel) (by decide +kernel)
  | 16, _ => exact tb_in 1151 (by decide +kernel) (by decide +kernel)
  | 17, _ => exact tb_in 1153 (by decide +kernel) (by decide +kernel)
  | 18, _ => exact tb_in 1155 (by decide +kernel) (by decide +kernel)
  | 19, _ => exact tb_in 1157 (by decide +kernel) (by decide +kernel)
  | 20, _ => exact tb_in 1159 (by decide +kernel) (by decide +kernel)
  | 21, _ => exact tb_in 1161 (by decide +kernel) (by decide +kernel)
  | 22, _ => exact tb_in 1163 (by decide +kernel) (by decide +kernel)
  | 23, _ => exact tb_in 1165 (by decide +kernel) (by decide +kernel)
  | 24, _ => exact tb_in 1167 (by decide +kernel) (by decide +kernel)
  | 25, _ => exact tb_in 1169 (by decide +kernel) (by decide +kernel)
  | 26, _ => exact tb_in 1171 (by decide +kernel) (by decide +kernel)
  | k + 27, hk => omega
abbrev y_Orb_init : MethodName := ⟨"RelayOrbiter", "<init>", "()V"⟩
abbrev k_Orb_init : zK := (y_Orb_init, prog_1_method_1_code, 1, none)
abbrev y_Win_init : MethodName := ⟨"RelayOrbiter$Window", "<init>", "()V"⟩
abbrev k_Win_init : zK := (y_Win_init, prog_10_method_1_code, 1, none)
abbrev y_Sto_init : MethodName := ⟨"RelayOrbiter$Store", "<init>", "()V"⟩
abbrev k_Sto_init : zK := (y_Sto_init, prog_8_method_1_code, 2, none)
abbrev y_Pkt_init : MethodName := ⟨"RelayOrbiter$Packet", "<init>", "()V"⟩
abbrev k_Pkt_init : zK := (y_Pkt_init, prog_6_method_1_code, 1, none)
abbrev y_Sto_blocksFor : MethodName := ⟨"RelayOrbiter$Store", "blocksFor", "(I)I"⟩
abbrev k_Sto_blocksFor : zK := (y_Sto_blocksFor, prog_8_method_2_code, 1, some .int)
abbrev y_Ses_init : MethodName := ⟨"RelayOrbiter$Session", "<init>", "(LRelayOrbiter$Store;)V"⟩
abbrev k_Ses_init : zK := (y_Ses_init, prog_7_method_1_code, 3, none)
abbrev y_Har_init : MethodName := ⟨"RelayOrbiter$Harvest", "<init>", "()V"⟩
abbrev k_Har_init : zK := (y_Har_init, prog_4_method_1_code, 1, none)
abbrev y_Str_init : MethodName := ⟨"RelayOrbiter$Stream", "<init>", "()V"⟩
abbrev k_Str_init : zK := (y_Str_init, prog_9_method_1_code, 1, none)
abbrev y_Lan_init : MethodName := ⟨"RelayOrbiter$LanderLink", "<init>", "()V"⟩
abbrev k_Lan_init : zK := (y_Lan_init, prog_5_method_1_code, 1, none)
abbrev y_Frm_init : MethodName := ⟨"RelayOrbiter$Frame", "<init>", "()V"⟩
abbrev k_Frm_init : zK := (y_Frm_init, prog_3_method_1_code, 1, none)
abbrev y_Ear_init : MethodName := ⟨"RelayOrbiter$EarthLink", "<init>", "()V"⟩
abbrev k_Ear_init : zK := (y_Ear_init, prog_2_method_1_code, 1, none)
abbrev y_Orb_power : MethodName := ⟨"RelayOrbiter", "power", "()I"⟩
abbrev k_Orb_power : zK := (y_Orb_power, prog_1_method_10_code, 1, some .int)
abbrev y_Sto_restart : MethodName := ⟨"RelayOrbiter$Store", "restart", "()V"⟩
abbrev k_Sto_restart : zK := (y_Sto_restart, prog_8_method_6_code, 2, none)
abbrev y_Ses_restart : MethodName := ⟨"RelayOrbiter$Session", "restart", "()V"⟩
abbrev k_Ses_restart : zK := (y_Ses_restart, prog_7_method_2_code, 1, none)
abbrev y_Ses_forgetSegments : MethodName := ⟨"RelayOrbiter$Session", "forgetSegments", "()V"⟩
abbrev k_Ses_forgetSegments : zK := (y_Ses_forgetSegments, prog_7_method_8_code, 2, none)
abbrev y_Str_forget : MethodName := ⟨"RelayOrbiter$Stream", "forget", "()V"⟩
abbrev k_Str_forget : zK := (y_Str_forget, prog_9_method_2_code, 1, none)
abbrev y_Lan_forgetAll : MethodName := ⟨"RelayOrbiter$LanderLink", "forgetAll", "()V"⟩
abbrev k_Lan_forgetAll : zK := (y_Lan_forgetAll, prog_5_method_3_code, 1, none)
abbrev y_Orb_out : MethodName := ⟨"RelayOrbiter", "out", "()Z"⟩
abbrev k_Orb_out : zK := (y_Orb_out, prog_1_method_11_code, 1, some .boolean)
abbrev y_Law_window : MethodName := ⟨"RelayOrbiterLaw", "window", "(LRelayOrbiter;IIII)I"⟩
abbrev k_Law_window : zK := (y_Law_window, method_3_code, 6, some .int)
abbrev y_Orb_window : MethodName := ⟨"RelayOrbiter", "window", "(IIII)V"⟩
abbrev k_Orb_window : zK := (y_Orb_window, prog_1_method_2_code, 5, none)
abbrev y_Orb_isNoPair : MethodName := ⟨"RelayOrbiter", "isNoPair", "(I)Z"⟩
abbrev k_Orb_isNoPair : zK := (y_Orb_isNoPair, prog_1_method_15_code, 1, some .boolean)
abbrev y_Orb_windowOf : MethodName := ⟨"RelayOrbiter", "windowOf", "(I)LRelayOrbiter$Window;"⟩
abbrev k_Orb_windowOf : zK := (y_Orb_windowOf, prog_1_method_16_code, 2, some (.object "RelayOrbiter$Window"))
abbrev y_Win_set : MethodName := ⟨"RelayOrbiter$Window", "set", "(III)V"⟩
abbrev k_Win_set : zK := (y_Win_set, prog_10_method_2_code, 4, none)
abbrev y_Law_minute : MethodName := ⟨"RelayOrbiterLaw", "minute", "(LRelayOrbiter;I[J)I"⟩
abbrev k_Law_minute : zK := (y_Law_minute, method_4_code, 4, some .int)
abbrev y_Orb_minute : MethodName := ⟨"RelayOrbiter", "minute", "(I)I"⟩
abbrev k_Orb_minute : zK := (y_Orb_minute, prog_1_method_3_code, 2, some .int)
abbrev y_Law_seen : MethodName := ⟨"RelayOrbiterLaw", "seen", "(LRelayOrbiter;I[J)I"⟩
abbrev k_Law_seen : zK := (y_Law_seen, method_5_code, 4, some .int)
abbrev y_Orb_seen : MethodName := ⟨"RelayOrbiter", "seen", "(I)Z"⟩
abbrev k_Orb_seen : zK := (y_Orb_seen, prog_1_method_4_code, 2, some .boolean)
abbrev y_Win_isOpen : MethodName := ⟨"RelayOrbiter$Window", "isOpen", "(I)Z"⟩
abbrev k_Win_isOpen : zK := (y_Win_isOpen, prog_10_method_3_code, 2, some .boolean)
abbrev y_Law_receive : MethodName := ⟨"RelayOrbiterLaw", "receive", "(LRelayOrbiter;II[J)I"⟩
abbrev k_Law_receive : zK := (y_Law_receive, method_6_code, 5, some .int)
abbrev y_Orb_receive : MethodName := ⟨"RelayOrbiter", "receive", "(II)I"⟩
abbrev k_Orb_receive : zK := (y_Orb_receive, prog_1_method_5_code, 5, some .int)
abbrev y_Lan_put : MethodName := ⟨"RelayOrbiter$LanderLink", "put", "(I)V"⟩
abbrev k_Lan_put : zK := (y_Lan_put, prog_5_method_2_code, 2, none)
abbrev y_Orb_takeFrames : MethodName := ⟨"RelayOrbiter", "takeFrames", "()I"⟩
abbrev k_Orb_takeFrames : zK := (y_Orb_takeFrames, prog_1_method_17_code, 4, some .int)
abbrev y_Lan_look : MethodName := ⟨"RelayOrbiter$LanderLink", "look", "()I"⟩
abbrev k_Lan_look : zK := (y_Lan_look, prog_5_method_5_code, 2, some .int)
abbrev y_Lan_toldLength : MethodName := ⟨"RelayOrbiter$LanderLink", "toldLength", "()I"⟩
abbrev k_Lan_toldLength : zK := (y_Lan_toldLength, prog_5_method_7_code, 1, some .int)
abbrev y_Lan_checkHolds : MethodName := ⟨"RelayOrbiter$LanderLink", "checkHolds", "(I)Z"⟩
abbrev k_Lan_checkHolds : zK := (y_Lan_checkHolds, prog_5_method_8_code, 5, some .boolean)
abbrev y_Orb_check : MethodName := ⟨"RelayOrbiter", "check", "([IIIIII)I"⟩
abbrev k_Orb_check : zK := (y_Orb_check, prog_1_method_18_code, 10, some .int)
abbrev y_Lan_giveUp : MethodName := ⟨"RelayOrbiter$LanderLink", "giveUp", "(I)V"⟩
abbrev k_Lan_giveUp : zK := (y_Lan_giveUp, prog_5_method_4_code, 3, none)
abbrev y_Lan_takeFrame : MethodName := ⟨"RelayOrbiter$LanderLink", "takeFrame", "()V"⟩
abbrev k_Lan_takeFrame : zK := (y_Lan_takeFrame, prog_5_method_6_code, 2, none)
abbrev y_Frm_copy : MethodName := ⟨"RelayOrbiter$Frame", "copy", "([III)V"⟩
abbrev k_Frm_copy : zK := (y_Frm_copy, prog_3_method_2_code, 4, none)
abbrev y_Ses_heed : MethodName := ⟨"RelayOrbiter$Session", "heed", "(LRelayOrbiter$Frame;)V"⟩
abbrev k_Ses_heed : zK := (y_Ses_heed, prog_7_method_4_code, 2, none)
abbrev y_Frm_spacecraft : MethodName := ⟨"RelayOrbiter$Frame", "spacecraft", "()I"⟩
abbrev k_Frm_spacecraft : zK := (y_Frm_spacecraft, prog_3_method_6_code, 1, some .int)
abbrev y_Frm_isDirective : MethodName := ⟨"RelayOrbiter$Frame", "isDirective", "()Z"⟩
abbrev k_Frm_isDirective : zK := (y_Frm_isDirective, prog_3_method_4_code, 1, some .boolean)
abbrev y_Ses_obey : MethodName := ⟨"RelayOrbiter$Session", "obey", "(LRelayOrbiter$Frame;)V"⟩
abbrev k_Ses_obey : zK := (y_Ses_obey, prog_7_method_6_code, 2, none)
abbrev y_Frm_dataLength : MethodName := ⟨"RelayOrbiter$Frame", "dataLength", "()I"⟩
abbrev k_Frm_dataLength : zK := (y_Frm_dataLength, prog_3_method_9_code, 1, some .int)
abbrev y_Frm_data : MethodName := ⟨"RelayOrbiter$Frame", "data", "(I)I"⟩
abbrev k_Frm_data : zK := (y_Frm_data, prog_3_method_10_code, 2, some .int)
abbrev y_Frm_channel : MethodName := ⟨"RelayOrbiter$Frame", "channel", "()I"⟩
abbrev k_Frm_channel : zK := (y_Frm_channel, prog_3_method_7_code, 1, some .int)
abbrev y_Ses_begin : MethodName := ⟨"RelayOrbiter$Session", "begin", "(I)V"⟩
abbrev k_Ses_begin : zK := (y_Ses_begin, prog_7_method_7_code, 2, none)
abbrev y_Ses_isOnFor : MethodName := ⟨"RelayOrbiter$Session", "isOnFor", "(LRelayOrbiter$Frame;)Z"⟩
abbrev k_Ses_isOnFor : zK := (y_Ses_isOnFor, prog_7_method_5_code, 2, some .boolean)
abbrev y_Ses_gather : MethodName := ⟨"RelayOrbiter$Session", "gather", "(LRelayOrbiter$Frame;)V"⟩
abbrev k_Ses_gather : zK := (y_Ses_gather, prog_7_method_12_code, 2, none)
abbrev y_Har_clear : MethodName := ⟨"RelayOrbiter$Harvest", "clear", "()V"⟩
abbrev k_Har_clear : zK := (y_Har_clear, prog_4_method_2_code, 1, none)
abbrev y_Frm_form : MethodName := ⟨"RelayOrbiter$Frame", "form", "()I"⟩
abbrev k_Frm_form : zK := (y_Frm_form, prog_3_method_5_code, 1, some .int)
abbrev y_Ses_appendData : MethodName := ⟨"RelayOrbiter$Session", "appendData", "(LRelayOrbiter$Frame;I)V"⟩
abbrev k_Ses_appendData : zK := (y_Ses_appendData, prog_7_method_14_code, 4, none)
abbrev y_Har_append : MethodName := ⟨"RelayOrbiter$Harvest", "append", "(I)V"⟩
abbrev k_Har_append : zK := (y_Har_append, prog_4_method_3_code, 2, none)
abbrev y_Har_findPackets : MethodName := ⟨"RelayOrbiter$Harvest", "findPackets", "()V"⟩
abbrev k_Har_findPackets : zK := (y_Har_findPackets, prog_4_method_4_code, 4, none)
abbrev y_Har_packetLengthAt : MethodName := ⟨"RelayOrbiter$Harvest", "packetLengthAt", "(I)I"⟩
abbrev k_Har_packetLengthAt : zK := (y_Har_packetLengthAt, prog_4_method_7_code, 3, some .int)
abbrev y_Ses_gatherSegment : MethodName := ⟨"RelayOrbiter$Session", "gatherSegment", "(LRelayOrbiter$Frame;)V"⟩
abbrev k_Ses_gatherSegment : zK := (y_Ses_gatherSegment, prog_7_method_13_code, 6, none)
abbrev y_Har_findOneWholePacket : MethodName := ⟨"RelayOrbiter$Harvest", "findOneWholePacket", "()V"⟩
abbrev k_Har_findOneWholePacket : zK := (y_Har_findOneWholePacket, prog_4_method_5_code, 1, none)
abbrev y_Frm_isExpedited : MethodName := ⟨"RelayOrbiter$Frame", "isExpedited", "()Z"⟩
abbrev k_Frm_isExpedited : zK := (y_Frm_isExpedited, prog_3_method_3_code, 1, some .boolean)
abbrev y_Ses_admitExpedited : MethodName := ⟨"RelayOrbiter$Session", "admitExpedited", "()Z"⟩
abbrev k_Ses_admitExpedited : zK := (y_Ses_admitExpedited, prog_7_method_9_code, 1, some .boolean)
abbrev y_Frm_number : MethodName := ⟨"RelayOrbiter$Frame", "number", "()I"⟩
abbrev k_Frm_number : zK := (y_Frm_number, prog_3_method_8_code, 1, some .int)
abbrev y_Ses_admitSequenced : MethodName := ⟨"RelayOrbiter$Session", "admitSequenced", "(I)Z"⟩
abbrev k_Ses_admitSequenced : zK := (y_Ses_admitSequenced, prog_7_method_10_code, 4, some .boolean)
abbrev y_Har_blocksOfAll : MethodName := ⟨"RelayOrbiter$Harvest", "blocksOfAll", "()I"⟩
abbrev k_Har_blocksOfAll : zK := (y_Har_blocksOfAll, prog_4_method_6_code, 3, some .int)
abbrev y_Sto_hasRoom : MethodName := ⟨"RelayOrbiter$Store", "hasRoom", "(I)Z"⟩
abbrev k_Sto_hasRoom : zK := (y_Sto_hasRoom, prog_8_method_3_code, 2, some .boolean)
abbrev y_Ses_settleStream : MethodName := ⟨"RelayOrbiter$Session", "settleStream", "()V"⟩
abbrev k_Ses_settleStream : zK := (y_Ses_settleStream, prog_7_method_15_code, 1, none)
abbrev y_Str_hold : MethodName := ⟨"RelayOrbiter$Stream", "hold", "(LRelayOrbiter$Harvest;)V"⟩
abbrev k_Str_hold : zK := (y_Str_hold, prog_9_method_3_code, 2, none)
abbrev y_Ses_keepWhatFits : MethodName := ⟨"RelayOrbiter$Session", "keepWhatFits", "()V"⟩
abbrev k_Ses_keepWhatFits : zK := (y_Ses_keepWhatFits, prog_7_method_11_code, 2, none)
abbrev y_Sto_add : MethodName := ⟨"RelayOrbiter$Store", "add", "([III)V"⟩
abbrev k_Sto_add : zK := (y_Sto_add, prog_8_method_7_code, 5, none)
abbrev y_Sto_writeBlocks : MethodName := ⟨"RelayOrbiter$Store", "writeBlocks", "(LRelayOrbiter$Packet;[II)V"⟩
abbrev k_Sto_writeBlocks : zK := (y_Sto_writeBlocks, prog_8_method_9_code, 7, none)
abbrev y_Sto_write : MethodName := ⟨"RelayOrbiter$Store", "write", "()V"⟩
abbrev k_Sto_write : zK := (y_Sto_write, prog_8_method_14_code, 1, none)
abbrev y_Sto_renewFullJournal : MethodName := ⟨"RelayOrbiter$Store", "renewFullJournal", "()V"⟩
abbrev k_Sto_renewFullJournal : zK := (y_Sto_renewFullJournal, prog_8_method_10_code, 1, none)
abbrev y_Sto_enterAdded : MethodName := ⟨"RelayOrbiter$Store", "enterAdded", "(LRelayOrbiter$Packet;)V"⟩
abbrev k_Sto_enterAdded : zK := (y_Sto_enterAdded, prog_8_method_11_code, 2, none)
abbrev y_Sto_markBlocks : MethodName := ⟨"RelayOrbiter$Store", "markBlocks", "(LRelayOrbiter$Packet;Z)V"⟩
abbrev k_Sto_markBlocks : zK := (y_Sto_markBlocks, prog_8_method_13_code, 5, none)
abbrev y_Law_report : MethodName := ⟨"RelayOrbiterLaw", "report", "(LRelayOrbiter;[J)I"⟩
abbrev k_Law_report : zK := (y_Law_report, method_7_code, 3, some .int)
abbrev y_Orb_report : MethodName := ⟨"RelayOrbiter", "report", "()I"⟩
abbrev k_Orb_report : zK := (y_Orb_report, prog_1_method_6_code, 1, some .int)
abbrev y_Ses_reportWord : MethodName := ⟨"RelayOrbiter$Session", "reportWord", "()I"⟩
abbrev k_Ses_reportWord : zK := (y_Ses_reportWord, prog_7_method_3_code, 1, some .int)
abbrev y_Law_send : MethodName := ⟨"RelayOrbiterLaw", "send", "(LRelayOrbiter;I[J)I"⟩
abbrev k_Law_send : zK := (y_Law_send, method_8_code, 4, some .int)
abbrev y_Orb_send : MethodName := ⟨"RelayOrbiter", "send", "(I)I"⟩
abbrev k_Orb_send : zK := (y_Orb_send, prog_1_method_7_code, 2, some .int)
abbrev y_Ear_emit : MethodName := ⟨"RelayOrbiter$EarthLink", "emit", "(ILRelayOrbiter$Store;)I"⟩
abbrev k_Ear_emit : zK := (y_Ear_emit, prog_2_method_3_code, 4, some .int)
abbrev y_Ear_putNumber : MethodName := ⟨"RelayOrbiter$EarthLink", "putNumber", "(III)V"⟩
abbrev k_Ear_putNumber : zK := (y_Ear_putNumber, prog_2_method_4_code, 5, none)
abbrev y_Ear_fillZone : MethodName := ⟨"RelayOrbiter$EarthLink", "fillZone", "(ILRelayOrbiter$Store;)I"⟩
abbrev k_Ear_fillZone : zK := (y_Ear_fillZone, prog_2_method_5_code, 7, some .int)
abbrev y_Ear_pointerWith : MethodName := ⟨"RelayOrbiter$EarthLink", "pointerWith", "(LRelayOrbiter$Packet;II)I"⟩
abbrev k_Ear_pointerWith : zK := (y_Ear_pointerWith, prog_2_method_6_code, 4, some .int)
abbrev y_Ear_emitPart : MethodName := ⟨"RelayOrbiter$EarthLink", "emitPart", "(LRelayOrbiter$Packet;ILRelayOrbiter$Store;)I"⟩
abbrev k_Ear_emitPart : zK := (y_Ear_emitPart, prog_2_method_7_code, 5, some .int)
abbrev y_Sto_byteOf : MethodName := ⟨"RelayOrbiter$Store", "byteOf", "(LRelayOrbiter$Packet;I)I"⟩
abbrev k_Sto_byteOf : zK := (y_Sto_byteOf, prog_8_method_5_code, 3, some .int)
abbrev y_Sto_dropEmitted : MethodName := ⟨"RelayOrbiter$Store", "dropEmitted", "()V"⟩
abbrev k_Sto_dropEmitted : zK := (y_Sto_dropEmitted, prog_8_method_8_code, 3, none)
abbrev y_Sto_enterDropped : MethodName := ⟨"RelayOrbiter$Store", "enterDropped", "(I)V"⟩
abbrev k_Sto_enterDropped : zK := (y_Sto_enterDropped, prog_8_method_12_code, 4, none)
abbrev y_Law_sent : MethodName := ⟨"RelayOrbiterLaw", "sent", "(LRelayOrbiter;I[J)I"⟩
abbrev k_Law_sent : zK := (y_Law_sent, method_9_code, 4, some .int)
abbrev y_Orb_sent : MethodName := ⟨"RelayOrbiter", "sent", "(I)I"⟩
abbrev k_Orb_sent : zK := (y_Orb_sent, prog_1_method_8_code, 2, some .int)
abbrev y_Ear_hasByte : MethodName := ⟨"RelayOrbiter$EarthLink", "hasByte", "(I)Z"⟩
abbrev k_Ear_hasByte : zK := (y_Ear_hasByte, prog_2_method_2_code, 2, some .boolean)
abbrev y_Law_fail : MethodName := ⟨"RelayOrbiterLaw", "fail", "(LRelayOrbiter;I)I"⟩
abbrev k_Law_fail : zK := (y_Law_fail, method_10_code, 3, some .int)
abbrev y_Orb_fail : MethodName := ⟨"RelayOrbiter", "fail", "(I)V"⟩
abbrev k_Orb_fail : zK := (y_Orb_fail, prog_1_method_9_code, 2, none)
abbrev y_Law_store : MethodName := ⟨"RelayOrbiterLaw", "store", "(LRelayOrbiter;I[J)I"⟩
abbrev k_Law_store : zK := (y_Law_store, method_11_code, 4, some .int)
abbrev y_Orb_store : MethodName := ⟨"RelayOrbiter", "store", "(I)I"⟩
abbrev k_Orb_store : zK := (y_Orb_store, prog_1_method_12_code, 2, some .int)
abbrev y_Law_packet : MethodName := ⟨"RelayOrbiterLaw", "packet", "(LRelayOrbiter;II[J)I"⟩
abbrev k_Law_packet : zK := (y_Law_packet, method_12_code, 5, some .int)
abbrev y_Orb_packet : MethodName := ⟨"RelayOrbiter", "packet", "(II)I"⟩
abbrev k_Orb_packet : zK := (y_Orb_packet, prog_1_method_13_code, 4, some .int)
abbrev y_Sto_has : MethodName := ⟨"RelayOrbiter$Store", "has", "(I)Z"⟩
abbrev k_Sto_has : zK := (y_Sto_has, prog_8_method_4_code, 2, some .boolean)
abbrev y_Law_content : MethodName := ⟨"RelayOrbiterLaw", "content", "(LRelayOrbiter;II[J)I"⟩
abbrev k_Law_content : zK := (y_Law_content, method_13_code, 5, some .int)
abbrev y_Orb_content : MethodName := ⟨"RelayOrbiter", "content", "(II)I"⟩
abbrev k_Orb_content : zK := (y_Orb_content, prog_1_method_14_code, 3, some .int)
abbrev y_Mod_init : MethodName := ⟨"RelayOrbiterModel", "<init>", "()V"⟩
abbrev k_Mod_init : zK := (y_Mod_init, prog_12_method_1_code, 2, none)
abbrev y_Mod_thrown : MethodName := ⟨"RelayOrbiterModel", "thrown", "()I"⟩
abbrev k_Mod_thrown : zK := (y_Mod_thrown, prog_12_method_22_code, 1, some .int)
abbrev y_Mod_window : MethodName := ⟨"RelayOrbiterModel", "window", "(IIII)V"⟩
abbrev k_Mod_window : zK := (y_Mod_window, prog_12_method_23_code, 5, none)
abbrev y_Mod_minute : MethodName := ⟨"RelayOrbiterModel", "minute", "(I)I"⟩
abbrev k_Mod_minute : zK := (y_Mod_minute, prog_12_method_24_code, 2, some .int)
abbrev y_Mod_seen : MethodName := ⟨"RelayOrbiterModel", "seen", "(I)Z"⟩
abbrev k_Mod_seen : zK := (y_Mod_seen, prog_12_method_25_code, 2, some .boolean)
abbrev y_Mod_seenBy : MethodName := ⟨"RelayOrbiterModel", "seenBy", "(I)Z"⟩
abbrev k_Mod_seenBy : zK := (y_Mod_seenBy, prog_12_method_19_code, 4, some .boolean)
abbrev y_Mod_receive : MethodName := ⟨"RelayOrbiterModel", "receive", "(II)I"⟩
abbrev k_Mod_receive : zK := (y_Mod_receive, prog_12_method_26_code, 5, some .int)
abbrev y_Mod_byteIn : MethodName := ⟨"RelayOrbiterModel", "byteIn", "(I)I"⟩
abbrev k_Mod_byteIn : zK := (y_Mod_byteIn, prog_12_method_18_code, 5, some .int)
abbrev y_Mod_look : MethodName := ⟨"RelayOrbiterModel", "look", "()I"⟩
abbrev k_Mod_look : zK := (y_Mod_look, prog_12_method_17_code, 2, some .int)
abbrev y_Mod_checked : MethodName := ⟨"RelayOrbiterModel", "checked", "(I)Z"⟩
abbrev k_Mod_checked : zK := (y_Mod_checked, prog_12_method_15_code, 6, some .boolean)
abbrev y_Mod_taken : MethodName := ⟨"RelayOrbiterModel", "taken", "(I)V"⟩
abbrev k_Mod_taken : zK := (y_Mod_taken, prog_12_method_14_code, 7, none)
abbrev y_Mod_directive : MethodName := ⟨"RelayOrbiterModel", "directive", "(III)V"⟩
abbrev k_Mod_directive : zK := (y_Mod_directive, prog_12_method_13_code, 5, none)
abbrev y_Mod_packetsIn : MethodName := ⟨"RelayOrbiterModel", "packetsIn", "(IIZ)Z"⟩
abbrev k_Mod_packetsIn : zK := (y_Mod_packetsIn, prog_12_method_10_code, 7, some .boolean)
abbrev y_Mod_packetAt : MethodName := ⟨"RelayOrbiterModel", "packetAt", "([III)I"⟩
abbrev k_Mod_packetAt : zK := (y_Mod_packetAt, prog_12_method_8_code, 4, some .int)
abbrev y_Mod_blocksOf : MethodName := ⟨"RelayOrbiterModel", "blocksOf", "(I)I"⟩
abbrev k_Mod_blocksOf : zK := (y_Mod_blocksOf, prog_12_method_9_code, 1, some .int)
abbrev y_Mod_freeBlocks : MethodName := ⟨"RelayOrbiterModel", "freeBlocks", "()I"⟩
abbrev k_Mod_freeBlocks : zK := (y_Mod_freeBlocks, prog_12_method_5_code, 3, some .int)
abbrev y_Mod_isFree : MethodName := ⟨"RelayOrbiterModel", "isFree", "(I)Z"⟩
abbrev k_Mod_isFree : zK := (y_Mod_isFree, prog_12_method_4_code, 4, some .boolean)
abbrev y_Mod_keepPacket : MethodName := ⟨"RelayOrbiterModel", "keepPacket", "([III)V"⟩
abbrev k_Mod_keepPacket : zK := (y_Mod_keepPacket, prog_12_method_6_code, 6, none)
abbrev y_Mod_write : MethodName := ⟨"RelayOrbiterModel", "write", "()Z"⟩
abbrev k_Mod_write : zK := (y_Mod_write, prog_12_method_2_code, 1, some .boolean)
abbrev y_Mod_journal : MethodName := ⟨"RelayOrbiterModel", "journal", "()Z"⟩
abbrev k_Mod_journal : zK := (y_Mod_journal, prog_12_method_3_code, 1, some .boolean)
abbrev y_Mod_segmentIn : MethodName := ⟨"RelayOrbiterModel", "segmentIn", "(IIZ)Z"⟩
abbrev k_Mod_segmentIn : zK := (y_Mod_segmentIn, prog_12_method_12_code, 10, some .boolean)
abbrev y_Mod_goesOn : MethodName := ⟨"RelayOrbiterModel", "goesOn", "(III)Z"⟩
abbrev k_Mod_goesOn : zK := (y_Mod_goesOn, prog_12_method_11_code, 5, some .boolean)
abbrev y_Mod_leave : MethodName := ⟨"RelayOrbiterModel", "leave", "(I)V"⟩
abbrev k_Mod_leave : zK := (y_Mod_leave, prog_12_method_16_code, 3, none)
abbrev y_Mod_report : MethodName := ⟨"RelayOrbiterModel", "report", "()I"⟩
abbrev k_Mod_report : zK := (y_Mod_report, prog_12_method_27_code, 1, some .int)
abbrev y_Mod_send : MethodName := ⟨"RelayOrbiterModel", "send", "(I)I"⟩
abbrev k_Mod_send : zK := (y_Mod_send, prog_12_method_28_code, 4, some .int)
abbrev y_Mod_fill : MethodName := ⟨"RelayOrbiterModel", "fill", "(I)V"⟩
abbrev k_Mod_fill : zK := (y_Mod_fill, prog_12_method_20_code, 6, none)
abbrev y_Mod_check16 : MethodName := ⟨"RelayOrbiterModel", "check16", "()V"⟩
abbrev k_Mod_check16 : zK := (y_Mod_check16, prog_12_method_21_code, 5, none)
abbrev y_Mod_drop : MethodName := ⟨"RelayOrbiterModel", "drop", "(I)V"⟩
abbrev k_Mod_drop : zK := (y_Mod_drop, prog_12_method_7_code, 4, none)
abbrev y_Mod_sent : MethodName := ⟨"RelayOrbiterModel", "sent", "(I)I"⟩
abbrev k_Mod_sent : zK := (y_Mod_sent, prog_12_method_29_code, 2, some .int)
abbrev y_Mod_fail : MethodName := ⟨"RelayOrbiterModel", "fail", "(I)V"⟩
abbrev k_Mod_fail : zK := (y_Mod_fail, prog_12_method_30_code, 2, none)
abbrev y_Mod_power : MethodName := ⟨"RelayOrbiterModel", "power", "()I"⟩
abbrev k_Mod_power : zK := (y_Mod_power, prog_12_method_31_code, 2, some .int)
abbrev y_Mod_out : MethodName := ⟨"RelayOrbiterModel", "out", "()Z"⟩
abbrev k_Mod_out : zK := (y_Mod_out, prog_12_method_32_code, 1, some .boolean)
abbrev y_Mod_store : MethodName := ⟨"RelayOrbiterModel", "store", "(I)I"⟩
abbrev k_Mod_store : zK := (y_Mod_store, prog_12_method_33_code, 2, some .int)
abbrev y_Mod_packet : MethodName := ⟨"RelayOrbiterModel", "packet", "(II)I"⟩
abbrev k_Mod_packet : zK := (y_Mod_packet, prog_12_method_34_code, 3, some .int)
abbrev y_Mod_content : MethodName := ⟨"RelayOrbiterModel", "content", "(II)I"⟩
abbrev k_Mod_content : zK := (y_Mod_content, prog_12_method_35_code, 3, some .int)
abbrev y_Law_law : MethodName := ⟨"RelayOrbiterLaw", "law", "([I)Z"⟩
abbrev k_Law_law : zK := (y_Law_law, code, 7, some .boolean)
set_option maxRecDepth 20000 in
theorem l_Law_56 : ML "RelayOrbiterLaw" 56 k_Orb_init 0 := ⟨Or.inl (tb_in 77 (by decide +kernel) (by decide +kernel)), tb_in 79 (by decide +kernel) (by decide +kernel), tb_in 45 (by decide +kernel) (by decide +kernel), ⟨by decide, by decide⟩, by decide +kernel⟩
set_option maxRecDepth 20000 in
theorem l_Orb_9 : ML "RelayOrbiter" 9 k_Win_init 0 := ⟨Or.inr ⟨"RelayOrbiter", tb_in 85 (by decide +kernel) (by decide +kernel)⟩, tb_in 87 (by decide +kernel) (by decide +kernel), tb_in 46 (by decide +kernel) (by decide +kernel), ⟨by decide, by decide⟩, by decide +kernel⟩
set_option maxRecDepth 20000 in
theorem f_Win_7 : FG "RelayOrbiter$Window" 7 1 0 false .int := ⟨R_Win, T_Win, 3, ty_Win, ci_Win, by decide, rfl, rfl, rfl, Or.inl (tb_in 89 (by decide +kernel) (by decide +kernel))⟩
set_option maxRecDepth 20000 in
theorem f_Win_13 : FG "RelayOrbiter$Window" 13 1 1 false .int := ⟨R_Win, T_Win, 3, ty_Win, ci_Win, by decide, rfl, rfl, rfl, Or.inl (tb_in 90 (by decide +kernel) (by decide +kernel))⟩
set_option maxRecDepth 20000 in
theorem f_Win_16 : FG "RelayOrbiter$Window" 16 1 2 false .int := ⟨R_Win, T_Win, 3, ty_Win, ci_Win, by decide, rfl, rfl, rfl, Or.inl (tb_in 91 (by decide +kernel) (by decide +kernel))⟩
set_option maxRecDepth 20000 in
theorem l_Orb_21 : ML "RelayOrbiter" 21 k_Sto_init 0 := ⟨Or.inl (tb_in 101 (by decide +kernel) (by decide +kernel)), tb_in 103 (by decide +kernel) (by decide +kernel), tb_in 47 (by decide +kernel) (by decide +kernel), ⟨by decide, by decide⟩, by decide +kernel⟩
set_option maxRecDepth 20000 in
theorem l_Sto_46 : ML "RelayOrbiter$Store" 46 k_Pkt_init 0 := ⟨Or.inr ⟨"RelayOrbiter", tb_in 108 (by decide +kernel) (by decide +kernel)⟩, tb_in 110 (by decide +kernel) (by decide +kernel), tb_in 48 (by decide +kernel) (by decide +kernel), ⟨by decide, by decide⟩, by decide +kernel⟩
set_option maxRecDepth 20000 in
theorem l_Pkt_9 : ML "RelayOrbiter$Packet" 9 k_Sto_blocksFor 1 := ⟨Or.inl (tb_in 112 (by decide +kernel) (by decide +kernel)), tb_in 114 (by decide +kernel) (by decide +kernel), tb_in 47 (by decide +kernel) (by decide +kernel), ⟨by decide, by decide⟩, by decide +kernel⟩
set_option maxRecDepth 20000 in
theorem f_Pkt_15 : FG "RelayOrbiter$Packet" 15 3 0 true (.array .int) := ⟨R_Pkt, T_Pkt, 5, ty_Pkt, ci_Pkt, by decide, rfl, rfl, rfl, Or.inl (tb_in 115 (by decide +kernel) (by decide +kernel))⟩
set_option maxRecDepth 20000 in
theorem f_Sto_47 : FG "RelayOrbiter$Store" 47 3 0 true (.array .int) := ⟨R_Pkt, T_Pkt, 5, ty_Pkt, ci_Pkt, by decide, rfl, rfl, rfl, Or.inr ⟨"RelayOrbiter", tb_in 116 (by decide +kernel) (by decide +kernel)⟩⟩
set_option maxRecDepth 20000 in
theorem f_Orb_146 : FG "RelayOrbiter" 146 3 0 true (.array .int) := ⟨R_Pkt, T_Pkt, 5, ty_Pkt, ci_Pkt, by decide, rfl, rfl, rfl, Or.inr ⟨"RelayOrbiter", tb_in 117 (by decide +kernel) (by decide +kernel)⟩⟩
set_option maxRecDepth 20000 in
theorem f_Pkt_19 : FG "RelayOrbiter$Packet" 19 3 1 false .int := ⟨R_Pkt, T_Pkt, 5, ty_Pkt, ci_Pkt, by decide, rfl, rfl, rfl, Or.inl (tb_in 118 (by decide +kernel) (by decide +kernel))⟩
set_option maxRecDepth 20000 in
theorem f_Sto_97 : FG "RelayOrbiter$Store" 97 3 1 false .int := ⟨R_Pkt, T_Pkt, 5, ty_Pkt, ci_Pkt, by decide, rfl, rfl, rfl, Or.inr ⟨"RelayOrbiter", tb_in 119 (by decide +kernel) (by decide +kernel)⟩⟩
set_option maxRecDepth 20000 in
theorem f_Orb_135 : FG "RelayOrbiter" 135 3 1 false .int := ⟨R_Pkt, T_Pkt, 5, ty_Pkt, ci_Pkt, by decide, rfl, rfl, rfl, Or.inr ⟨"RelayOrbiter", tb_in 120 (by decide +kernel) (by decide +kernel)⟩⟩
set_option maxRecDepth 20000 in
theorem f_Pkt_23 : FG "RelayOrbiter$Packet" 23 3 2 false .int := ⟨R_Pkt, T_Pkt, 5, ty_Pkt, ci_Pkt, by decide, rfl, rfl, rfl, Or.inl (tb_in 121 (by decide +kernel) (by decide +kernel))⟩
set_option maxRecDepth 20000 in
theorem f_Ear_70 : FG "RelayOrbiter$EarthLink" 70 3 2 false .int := ⟨R_Pkt, T_Pkt, 5, ty_Pkt, ci_Pkt, by decide, rfl, rfl, rfl, Or.inr ⟨"RelayOrbiter", tb_in 122 (by decide +kernel) (by decide +kernel)⟩⟩
set_option maxRecDepth 20000 in
theorem f_Sto_61 : FG "RelayOrbiter$Store" 61 3 2 false .int := ⟨R_Pkt, T_Pkt, 5, ty_Pkt, ci_Pkt, by decide, rfl, rfl, rfl, Or.inr ⟨"RelayOrbiter", tb_in 123 (by decide +kernel) (by decide +kernel)⟩⟩
set_option maxRecDepth 20000 in
theorem f_Orb_140 : FG "RelayOrbiter" 140 3 2 false .int := ⟨R_Pkt, T_Pkt, 5, ty_Pkt, ci_Pkt, by decide, rfl, rfl, rfl, Or.inr ⟨"RelayOrbiter", tb_in 124 (by decide +kernel) (by decide +kernel)⟩⟩
set_option maxRecDepth 20000 in
theorem f_Pkt_26 : FG "RelayOrbiter$Packet" 26 3 3 false .int := ⟨R_Pkt, T_Pkt, 5, ty_Pkt, ci_Pkt, by decide, rfl, rfl, rfl, Or.inl (tb_in 125 (by decide +kernel) (by decide +kernel))⟩
set_option maxRecDepth 20000 in
theorem f_Ear_54 : FG "RelayOrbiter$EarthLink" 54 3 3 false .int := ⟨R_Pkt, T_Pkt, 5, ty_Pkt, ci_Pkt, by decide, rfl, rfl, rfl, Or.inr ⟨"RelayOrbiter", tb_in 126 (by decide +kernel) (by decide +kernel)⟩⟩
set_option maxRecDepth 20000 in
theorem f_Sto_64 : FG "RelayOrbiter$Store" 64 3 3 false .int := ⟨R_Pkt, T_Pkt, 5, ty_Pkt, ci_Pkt, by decide, rfl, rfl, rfl, Or.inr ⟨"RelayOrbiter", tb_in 127 (by decide +kernel) (by decide +kernel)⟩⟩
set_option maxRecDepth 20000 in
theorem f_Orb_143 : FG "RelayOrbiter" 143 3 3 false .int := ⟨R_Pkt, T_Pkt, 5, ty_Pkt, ci_Pkt, by decide, rfl, rfl, rfl, Or.inr ⟨"RelayOrbiter", tb_in 128 (by decide +kernel) (by decide +kernel)⟩⟩
set_option maxRecDepth 20000 in
theorem f_Pkt_29 : FG "RelayOrbiter$Packet" 29 3 4 false .int := ⟨R_Pkt, T_Pkt, 5, ty_Pkt, ci_Pkt, by decide, rfl, rfl, rfl, Or.inl (tb_in 129 (by decide +kernel) (by decide +kernel))⟩
set_option maxRecDepth 20000 in
theorem f_Ear_67 : FG "RelayOrbiter$EarthLink" 67 3 4 false .int := ⟨R_Pkt, T_Pkt, 5, ty_Pkt, ci_Pkt, by decide, rfl, rfl, rfl, Or.inr ⟨"RelayOrbiter", tb_in 130 (by decide +kernel) (by decide +kernel)⟩⟩
set_option maxRecDepth 20000 in
theorem f_Sto_50 : FG "RelayOrbiter$Store" 50 3 4 false .int := ⟨R_Pkt, T_Pkt, 5, ty_Pkt, ci_Pkt, by decide, rfl, rfl, rfl, Or.inr ⟨"RelayOrbiter", tb_in 131 (by decide +kernel) (by decide +kernel)⟩⟩
set_option maxRecDepth 20000 in
theorem f_Orb_149 : FG "RelayOrbiter" 149 3 4 false .int := ⟨R_Pkt, T_Pkt, 5, ty_Pkt, ci_Pkt, by decide, rfl, rfl, rfl, Or.inr ⟨"RelayOrbiter", tb_in 132 (by decide +kernel) (by decide +kernel)⟩⟩
set_option maxRecDepth 20000 in
theorem f_Sto_9 : FG "RelayOrbiter$Store" 9 2 0 true (.array .int) := ⟨R_Sto, T_Sto, 10, ty_Sto, ci_Sto, by decide, rfl, rfl, rfl, Or.inl (tb_in 146 (by decide +kernel) (by decide +kernel))⟩
set_option maxRecDepth 20000 in
theorem f_Sto_13 : FG "RelayOrbiter$Store" 13 2 1 true (.array .boolean) := ⟨R_Sto, T_Sto, 10, ty_Sto, ci_Sto, by decide, rfl, rfl, rfl, Or.inl (tb_in 147 (by decide +kernel) (by decide +kernel))⟩
set_option maxRecDepth 20000 in
theorem f_Sto_19 : FG "RelayOrbiter$Store" 19 2 2 true (.array (.object "RelayOrbiter$Packet")) := ⟨R_Sto, T_Sto, 10, ty_Sto, ci_Sto, by decide, rfl, rfl, rfl, Or.inl (tb_in 148 (by decide +kernel) (by decide +kernel))⟩
set_option maxRecDepth 20000 in
theorem f_Ear_50 : FG "RelayOrbiter$EarthLink" 50 2 2 true (.array (.object "RelayOrbiter$Packet")) := ⟨R_Sto, T_Sto, 10, ty_Sto, ci_Sto, by decide, rfl, rfl, rfl, Or.inr ⟨"RelayOrbiter", tb_in 149 (by decide +kernel) (by decide +kernel)⟩⟩
set_option maxRecDepth 20000 in
theorem f_Orb_131 : FG "RelayOrbiter" 131 2 2 true (.array (.object "RelayOrbiter$Packet")) := ⟨R_Sto, T_Sto, 10, ty_Sto, ci_Sto, by decide, rfl, rfl, rfl, Or.inr ⟨"RelayOrbiter", tb_in 150 (by decide +kernel) (by decide +kernel)⟩⟩
set_option maxRecDepth 20000 in
theorem f_Sto_23 : FG "RelayOrbiter$Store" 23 2 3 false .int := ⟨R_Sto, T_Sto, 10, ty_Sto, ci_Sto, by decide, rfl, rfl, rfl, Or.inl (tb_in 151 (by decide +kernel) (by decide +kernel))⟩
set_option maxRecDepth 20000 in
theorem f_Ear_46 : FG "RelayOrbiter$EarthLink" 46 2 3 false .int := ⟨R_Sto, T_Sto, 10, ty_Sto, ci_Sto, by decide, rfl, rfl, rfl, Or.inr ⟨"RelayOrbiter", tb_in 152 (by decide +kernel) (by decide +kernel)⟩⟩
set_option maxRecDepth 20000 in
theorem f_Orb_116 : FG "RelayOrbiter" 116 2 3 false .int := ⟨R_Sto, T_Sto, 10, ty_Sto, ci_Sto, by decide, rfl, rfl, rfl, Or.inr ⟨"RelayOrbiter", tb_in 153 (by decide +kernel) (by decide +kernel)⟩⟩
set_option maxRecDepth 20000 in
theorem f_Sto_27 : FG "RelayOrbiter$Store" 27 2 4 false .int := ⟨R_Sto, T_Sto, 10, ty_Sto, ci_Sto, by decide, rfl, rfl, rfl, Or.inl (tb_in 154 (by decide +kernel) (by decide +kernel))⟩
set_option maxRecDepth 20000 in
theorem f_Orb_119 : FG "RelayOrbiter" 119 2 4 false .int := ⟨R_Sto, T_Sto, 10, ty_Sto, ci_Sto, by decide, rfl, rfl, rfl, Or.inr ⟨"RelayOrbiter", tb_in 155 (by decide +kernel) (by decide +kernel)⟩⟩
set_option maxRecDepth 20000 in
theorem f_Sto_30 : FG "RelayOrbiter$Store" 30 2 5 false .int := ⟨R_Sto, T_Sto, 10, ty_Sto, ci_Sto, by decide, rfl, rfl, rfl, Or.inl (tb_in 156 (by decide +kernel) (by decide +kernel))⟩
set_option maxRecDepth 20000 in
theorem f_Sto_33 : FG "RelayOrbiter$Store" 33 2 6 false .int := ⟨R_Sto, T_Sto, 10, ty_Sto, ci_Sto, by decide, rfl, rfl, rfl, Or.inl (tb_in 157 (by decide +kernel) (by decide +kernel))⟩
set_option maxRecDepth 20000 in
theorem f_Orb_122 : FG "RelayOrbiter" 122 2 6 false .int := ⟨R_Sto, T_Sto, 10, ty_Sto, ci_Sto, by decide, rfl, rfl, rfl, Or.inr ⟨"RelayOrbiter", tb_in 158 (by decide +kernel) (by decide +kernel)⟩⟩
set_option maxRecDepth 20000 in
theorem f_Sto_36 : FG "RelayOrbiter$Store" 36 2 7 false .int := ⟨R_Sto, T_Sto, 10, ty_Sto, ci_Sto, by decide, rfl, rfl, rfl, Or.inl (tb_in 159 (by decide +kernel) (by decide +kernel))⟩
set_option maxRecDepth 20000 in
theorem f_Orb_125 : FG "RelayOrbiter" 125 2 7 false .int := ⟨R_Sto, T_Sto, 10, ty_Sto, ci_Sto, by decide, rfl, rfl, rfl, Or.inr ⟨"RelayOrbiter", tb_in 160 (by decide +kernel) (by decide +kernel)⟩⟩
set_option maxRecDepth 20000 in
theorem f_Sto_39 : FG "RelayOrbiter$Store" 39 2 8 false .int := ⟨R_Sto, T_Sto, 10, ty_Sto, ci_Sto, by decide, rfl, rfl, rfl, Or.inl (tb_in 161 (by decide +kernel) (by decide +kernel))⟩
set_option maxRecDepth 20000 in
theorem f_Orb_106 : FG "RelayOrbiter" 106 2 8 false .int := ⟨R_Sto, T_Sto, 10, ty_Sto, ci_Sto, by decide, rfl, rfl, rfl, Or.inr ⟨"RelayOrbiter", tb_in 162 (by decide +kernel) (by decide +kernel)⟩⟩
set_option maxRecDepth 20000 in
theorem f_Sto_42 : FG "RelayOrbiter$Store" 42 2 9 false .boolean := ⟨R_Sto, T_Sto, 10, ty_Sto, ci_Sto, by decide, rfl, rfl, rfl, Or.inl (tb_in 163 (by decide +kernel) (by decide +kernel))⟩
set_option maxRecDepth 20000 in
theorem f_Orb_71 : FG "RelayOrbiter" 71 2 9 false .boolean := ⟨R_Sto, T_Sto, 10, ty_Sto, ci_Sto, by decide, rfl, rfl, rfl, Or.inr ⟨"RelayOrbiter", tb_in 164 (by decide +kernel) (by decide +kernel)⟩⟩
set_option maxRecDepth 20000 in
theorem l_Orb_28 : ML "RelayOrbiter" 28 k_Ses_init 1 := ⟨Or.inl (tb_in 188 (by decide +kernel) (by decide +kernel)), tb_in 190 (by decide +kernel) (by decide +kernel), tb_in 49 (by decide +kernel) (by decide +kernel), ⟨by decide, by decide⟩, by decide +kernel⟩
set_option maxRecDepth 20000 in
theorem l_Ses_11 : ML "RelayOrbiter$Session" 11 k_Har_init 0 := ⟨Or.inr ⟨"RelayOrbiter", tb_in 194 (by decide +kernel) (by decide +kernel)⟩, tb_in 196 (by decide +kernel) (by decide +kernel), tb_in 50 (by decide +kernel) (by decide +kernel), ⟨by decide, by decide⟩, by decide +kernel⟩
set_option maxRecDepth 20000 in
theorem f_Har_9 : FG "RelayOrbiter$Harvest" 9 5 0 true (.array .int) := ⟨R_Har, T_Har, 5, ty_Har, ci_Har, by decide, rfl, rfl, rfl, Or.inl (tb_in 198 (by decide +kernel) (by decide +kernel))⟩
set_option maxRecDepth 20000 in
theorem f_Str_26 : FG "RelayOrbiter$Stream" 26 5 0 true (.array .int) := ⟨R_Har, T_Har, 5, ty_Har, ci_Har, by decide, rfl, rfl, rfl, Or.inr ⟨"RelayOrbiter", tb_in 199 (by decide +kernel) (by decide +kernel)⟩⟩
set_option maxRecDepth 20000 in
theorem f_Ses_124 : FG "RelayOrbiter$Session" 124 5 0 true (.array .int) := ⟨R_Har, T_Har, 5, ty_Har, ci_Har, by decide, rfl, rfl, rfl, Or.inr ⟨"RelayOrbiter", tb_in 200 (by decide +kernel) (by decide +kernel)⟩⟩
set_option maxRecDepth 20000 in
theorem f_Har_15 : FG "RelayOrbiter$Harvest" 15 5 1 true (.array .int) := ⟨R_Har, T_Har, 5, ty_Har, ci_Har, by decide, rfl, rfl, rfl, Or.inl (tb_in 201 (by decide +kernel) (by decide +kernel))⟩
set_option maxRecDepth 20000 in
theorem f_Ses_128 : FG "RelayOrbiter$Session" 128 5 1 true (.array .int) := ⟨R_Har, T_Har, 5, ty_Har, ci_Har, by decide, rfl, rfl, rfl, Or.inr ⟨"RelayOrbiter", tb_in 202 (by decide +kernel) (by decide +kernel)⟩⟩
set_option maxRecDepth 20000 in
theorem f_Har_18 : FG "RelayOrbiter$Harvest" 18 5 2 true (.array .int) := ⟨R_Har, T_Har, 5, ty_Har, ci_Har, by decide, rfl, rfl, rfl, Or.inl (tb_in 203 (by decide +kernel) (by decide +kernel))⟩
set_option maxRecDepth 20000 in
theorem f_Ses_131 : FG "RelayOrbiter$Session" 131 5 2 true (.array .int) := ⟨R_Har, T_Har, 5, ty_Har, ci_Har, by decide, rfl, rfl, rfl, Or.inr ⟨"RelayOrbiter", tb_in 204 (by decide +kernel) (by decide +kernel)⟩⟩
set_option maxRecDepth 20000 in
theorem f_Har_21 : FG "RelayOrbiter$Harvest" 21 5 3 false .int := ⟨R_Har, T_Har, 5, ty_Har, ci_Har, by decide, rfl, rfl, rfl, Or.inl (tb_in 205 (by decide +kernel) (by decide +kernel))⟩
set_option maxRecDepth 20000 in
theorem f_Str_23 : FG "RelayOrbiter$Stream" 23 5 3 false .int := ⟨R_Har, T_Har, 5, ty_Har, ci_Har, by decide, rfl, rfl, rfl, Or.inr ⟨"RelayOrbiter", tb_in 206 (by decide +kernel) (by decide +kernel)⟩⟩
set_option maxRecDepth 20000 in
theorem f_Har_25 : FG "RelayOrbiter$Harvest" 25 5 4 false .int := ⟨R_Har, T_Har, 5, ty_Har, ci_Har, by decide, rfl, rfl, rfl, Or.inl (tb_in 207 (by decide +kernel) (by decide +kernel))⟩
set_option maxRecDepth 20000 in
theorem f_Ses_121 : FG "RelayOrbiter$Session" 121 5 4 false .int := ⟨R_Har, T_Har, 5, ty_Har, ci_Har, by decide, rfl, rfl, rfl, Or.inr ⟨"RelayOrbiter", tb_in 208 (by decide +kernel) (by decide +kernel)⟩⟩
set_option maxRecDepth 20000 in
theorem l_Ses_52 : ML "RelayOrbiter$Session" 52 k_Str_init 0 := ⟨Or.inr ⟨"RelayOrbiter", tb_in 223 (by decide +kernel) (by decide +kernel)⟩, tb_in 225 (by decide +kernel) (by decide +kernel), tb_in 51 (by decide +kernel) (by decide +kernel), ⟨by decide, by decide⟩, by decide +kernel⟩
set_option maxRecDepth 20000 in
theorem f_Str_9 : FG "RelayOrbiter$Stream" 9 6 0 true (.array .int) := ⟨R_Str, T_Str, 3, ty_Str, ci_Str, by decide, rfl, rfl, rfl, Or.inl (tb_in 227 (by decide +kernel) (by decide +kernel))⟩
set_option maxRecDepth 20000 in
theorem f_Ses_162 : FG "RelayOrbiter$Session" 162 6 0 true (.array .int) := ⟨R_Str, T_Str, 3, ty_Str, ci_Str, by decide, rfl, rfl, rfl, Or.inr ⟨"RelayOrbiter", tb_in 228 (by decide +kernel) (by decide +kernel)⟩⟩
set_option maxRecDepth 20000 in
theorem f_Str_15 : FG "RelayOrbiter$Stream" 15 6 1 false .int := ⟨R_Str, T_Str, 3, ty_Str, ci_Str, by decide, rfl, rfl, rfl, Or.inl (tb_in 229 (by decide +kernel) (by decide +kernel))⟩
set_option maxRecDepth 20000 in
theorem f_Ses_157 : FG "RelayOrbiter$Session" 157 6 1 false .int := ⟨R_Str, T_Str, 3, ty_Str, ci_Str, by decide, rfl, rfl, rfl, Or.inr ⟨"RelayOrbiter", tb_in 230 (by decide +kernel) (by decide +kernel)⟩⟩
set_option maxRecDepth 20000 in
theorem f_Str_19 : FG "RelayOrbiter$Stream" 19 6 2 false .boolean := ⟨R_Str, T_Str, 3, ty_Str, ci_Str, by decide, rfl, rfl, rfl, Or.inl (tb_in 231 (by decide +kernel) (by decide +kernel))⟩
set_option maxRecDepth 20000 in
theorem f_Ses_154 : FG "RelayOrbiter$Session" 154 6 2 false .boolean := ⟨R_Str, T_Str, 3, ty_Str, ci_Str, by decide, rfl, rfl, rfl, Or.inr ⟨"RelayOrbiter", tb_in 232 (by decide +kernel) (by decide +kernel)⟩⟩
set_option maxRecDepth 20000 in
theorem f_Ses_48 : FG "RelayOrbiter$Session" 48 4 0 true (.object "RelayOrbiter$Store") := ⟨R_Ses, T_Ses, 10, ty_Ses, ci_Ses, by decide, rfl, rfl, rfl, Or.inl (tb_in 240 (by decide +kernel) (by decide +kernel))⟩
set_option maxRecDepth 20000 in
theorem f_Ses_12 : FG "RelayOrbiter$Session" 12 4 1 true (.object "RelayOrbiter$Harvest") := ⟨R_Ses, T_Ses, 10, ty_Ses, ci_Ses, by decide, rfl, rfl, rfl, Or.inl (tb_in 241 (by decide +kernel) (by decide +kernel))⟩
set_option maxRecDepth 20000 in
theorem f_Ses_20 : FG "RelayOrbiter$Session" 20 4 2 true (.array (.object "RelayOrbiter$Stream")) := ⟨R_Ses, T_Ses, 10, ty_Ses, ci_Ses, by decide, rfl, rfl, rfl, Or.inl (tb_in 242 (by decide +kernel) (by decide +kernel))⟩
set_option maxRecDepth 20000 in
theorem f_Ses_24 : FG "RelayOrbiter$Session" 24 4 3 false .boolean := ⟨R_Ses, T_Ses, 10, ty_Ses, ci_Ses, by decide, rfl, rfl, rfl, Or.inl (tb_in 243 (by decide +kernel) (by decide +kernel))⟩
set_option maxRecDepth 20000 in
theorem f_Ses_28 : FG "RelayOrbiter$Session" 28 4 4 false .int := ⟨R_Ses, T_Ses, 10, ty_Ses, ci_Ses, by decide, rfl, rfl, rfl, Or.inl (tb_in 244 (by decide +kernel) (by decide +kernel))⟩
set_option maxRecDepth 20000 in
theorem f_Ses_32 : FG "RelayOrbiter$Session" 32 4 5 false .int := ⟨R_Ses, T_Ses, 10, ty_Ses, ci_Ses, by decide, rfl, rfl, rfl, Or.inl (tb_in 245 (by decide +kernel) (by decide +kernel))⟩
set_option maxRecDepth 20000 in
theorem f_Ses_35 : FG "RelayOrbiter$Session" 35 4 6 false .boolean := ⟨R_Ses, T_Ses, 10, ty_Ses, ci_Ses, by decide, rfl, rfl, rfl, Or.inl (tb_in 246 (by decide +kernel) (by decide +kernel))⟩
set_option maxRecDepth 20000 in
theorem f_Ses_38 : FG "RelayOrbiter$Session" 38 4 7 false .int := ⟨R_Ses, T_Ses, 10, ty_Ses, ci_Ses, by decide, rfl, rfl, rfl, Or.inl (tb_in 247 (by decide +kernel) (by decide +kernel))⟩
set_option maxRecDepth 20000 in
theorem f_Ses_41 : FG "RelayOrbiter$Session" 41 4 8 false (.object "RelayOrbiter$Stream") := ⟨R_Ses, T_Ses, 10, ty_Ses, ci_Ses, by decide, rfl, rfl, rfl, Or.inl (tb_in 248 (by decide +kernel) (by decide +kernel))⟩
set_option maxRecDepth 20000 in
theorem f_Ses_45 : FG "RelayOrbiter$Session" 45 4 9 false .boolean := ⟨R_Ses, T_Ses, 10, ty_Ses, ci_Ses, by decide, rfl, rfl, rfl, Or.inl (tb_in 249 (by decide +kernel) (by decide +kernel))⟩
set_option maxRecDepth 20000 in
theorem l_Orb_37 : ML "RelayOrbiter" 37 k_Lan_init 0 := ⟨Or.inr ⟨"RelayOrbiter", tb_in 273 (by decide +kernel) (by decide +kernel)⟩, tb_in 275 (by decide +kernel) (by decide +kernel), tb_in 52 (by decide +kernel) (by decide +kernel), ⟨by decide, by decide⟩, by decide +kernel⟩
set_option maxRecDepth 20000 in
theorem l_Lan_15 : ML "RelayOrbiter$LanderLink" 15 k_Frm_init 0 := ⟨Or.inr ⟨"RelayOrbiter", tb_in 279 (by decide +kernel) (by decide +kernel)⟩, tb_in 281 (by decide +kernel) (by decide +kernel), tb_in 53 (by decide +kernel) (by decide +kernel), ⟨by decide, by decide⟩, by decide +kernel⟩
set_option maxRecDepth 20000 in
theorem f_Frm_9 : FG "RelayOrbiter$Frame" 9 8 0 true (.array .int) := ⟨R_Frm, T_Frm, 2, ty_Frm, ci_Frm, by decide, rfl, rfl, rfl, Or.inl (tb_in 283 (by decide +kernel) (by decide +kernel))⟩
set_option maxRecDepth 20000 in
theorem f_Frm_13 : FG "RelayOrbiter$Frame" 13 8 1 false .int := ⟨R_Frm, T_Frm, 2, ty_Frm, ci_Frm, by decide, rfl, rfl, rfl, Or.inl (tb_in 284 (by decide +kernel) (by decide +kernel))⟩
set_option maxRecDepth 20000 in
theorem f_Lan_11 : FG "RelayOrbiter$LanderLink" 11 7 0 true (.array .int) := ⟨R_Lan, T_Lan, 3, ty_Lan, ci_Lan, by decide, rfl, rfl, rfl, Or.inl (tb_in 290 (by decide +kernel) (by decide +kernel))⟩
set_option maxRecDepth 20000 in
theorem f_Lan_16 : FG "RelayOrbiter$LanderLink" 16 7 1 true (.object "RelayOrbiter$Frame") := ⟨R_Lan, T_Lan, 3, ty_Lan, ci_Lan, by decide, rfl, rfl, rfl, Or.inl (tb_in 291 (by decide +kernel) (by decide +kernel))⟩
set_option maxRecDepth 20000 in
theorem f_Orb_165 : FG "RelayOrbiter" 165 7 1 true (.object "RelayOrbiter$Frame") := ⟨R_Lan, T_Lan, 3, ty_Lan, ci_Lan, by decide, rfl, rfl, rfl, Or.inr ⟨"RelayOrbiter", tb_in 292 (by decide +kernel) (by decide +kernel)⟩⟩
set_option maxRecDepth 20000 in
theorem f_Lan_20 : FG "RelayOrbiter$LanderLink" 20 7 2 false .int := ⟨R_Lan, T_Lan, 3, ty_Lan, ci_Lan, by decide, rfl, rfl, rfl, Or.inl (tb_in 293 (by decide +kernel) (by decide +kernel))⟩
set_option maxRecDepth 20000 in
theorem l_Orb_44 : ML "RelayOrbiter" 44 k_Ear_init 0 := ⟨Or.inr ⟨"RelayOrbiter", tb_in 303 (by decide +kernel) (by decide +kernel)⟩, tb_in 305 (by decide +kernel) (by decide +kernel), tb_in 54 (by decide +kernel) (by decide +kernel), ⟨by decide, by decide⟩, by decide +kernel⟩
set_option maxRecDepth 20000 in
theorem f_Ear_11 : FG "RelayOrbiter$EarthLink" 11 9 0 true (.array .int) := ⟨R_Ear, T_Ear, 3, ty_Ear, ci_Ear, by decide, rfl, rfl, rfl, Or.inl (tb_in 307 (by decide +kernel) (by decide +kernel))⟩
set_option maxRecDepth 20000 in
theorem f_Orb_102 : FG "RelayOrbiter" 102 9 0 true (.array .int) := ⟨R_Ear, T_Ear, 3, ty_Ear, ci_Ear, by decide, rfl, rfl, rfl, Or.inr ⟨"RelayOrbiter", tb_in 308 (by decide +kernel) (by decide +kernel)⟩⟩
set_option maxRecDepth 20000 in
theorem f_Ear_15 : FG "RelayOrbiter$EarthLink" 15 9 1 true (.array .int) := ⟨R_Ear, T_Ear, 3, ty_Ear, ci_Ear, by decide, rfl, rfl, rfl, Or.inl (tb_in 309 (by decide +kernel) (by decide +kernel))⟩
set_option maxRecDepth 20000 in
theorem f_Ear_18 : FG "RelayOrbiter$EarthLink" 18 9 2 false .boolean := ⟨R_Ear, T_Ear, 3, ty_Ear, ci_Ear, by decide, rfl, rfl, rfl, Or.inl (tb_in 310 (by decide +kernel) (by decide +kernel))⟩
set_option maxRecDepth 20000 in
theorem f_Orb_10 : FG "RelayOrbiter" 10 0 0 true (.object "RelayOrbiter$Window") := ⟨R_Orb, T_Orb, 7, ty_Orb, ci_Orb, by decide, rfl, rfl, rfl, Or.inl (tb_in 318 (by decide +kernel) (by decide +kernel))⟩
set_option maxRecDepth 20000 in
theorem f_Orb_16 : FG "RelayOrbiter" 16 0 1 true (.object "RelayOrbiter$Window") := ⟨R_Orb, T_Orb, 7, ty_Orb, ci_Orb, by decide, rfl, rfl, rfl, Or.inl (tb_in 319 (by decide +kernel) (by decide +kernel))⟩
set_option maxRecDepth 20000 in
theorem f_Orb_22 : FG "RelayOrbiter" 22 0 2 true (.object "RelayOrbiter$Store") := ⟨R_Orb, T_Orb, 7, ty_Orb, ci_Orb, by decide, rfl, rfl, rfl, Or.inl (tb_in 320 (by decide +kernel) (by decide +kernel))⟩
set_option maxRecDepth 20000 in
theorem f_Orb_31 : FG "RelayOrbiter" 31 0 3 true (.object "RelayOrbiter$Session") := ⟨R_Orb, T_Orb, 7, ty_Orb, ci_Orb, by decide, rfl, rfl, rfl, Or.inl (tb_in 321 (by decide +kernel) (by decide +kernel))⟩
set_option maxRecDepth 20000 in
theorem f_Orb_38 : FG "RelayOrbiter" 38 0 4 true (.object "RelayOrbiter$LanderLink") := ⟨R_Orb, T_Orb, 7, ty_Orb, ci_Orb, by decide, rfl, rfl, rfl, Or.inl (tb_in 322 (by decide +kernel) (by decide +kernel))⟩
set_option maxRecDepth 20000 in
theorem f_Orb_45 : FG "RelayOrbiter" 45 0 5 true (.object "RelayOrbiter$EarthLink") := ⟨R_Orb, T_Orb, 7, ty_Orb, ci_Orb, by decide, rfl, rfl, rfl, Or.inl (tb_in 323 (by decide +kernel) (by decide +kernel))⟩
set_option maxRecDepth 20000 in
theorem f_Orb_49 : FG "RelayOrbiter" 49 0 6 false .int := ⟨R_Orb, T_Orb, 7, ty_Orb, ci_Orb, by decide, rfl, rfl, rfl, Or.inl (tb_in 324 (by decide +kernel) (by decide +kernel))⟩
set_option maxRecDepth 20000 in
theorem l_Law_94 : ML "RelayOrbiterLaw" 94 k_Orb_power 0 := ⟨Or.inl (tb_in 340 (by decide +kernel) (by decide +kernel)), tb_in 343 (by decide +kernel) (by decide +kernel), tb_in 45 (by decide +kernel) (by decide +kernel), ⟨by decide, by decide⟩, by decide +kernel⟩
set_option maxRecDepth 20000 in
theorem l_Orb_109 : ML "RelayOrbiter" 109 k_Sto_restart 0 := ⟨Or.inl (tb_in 344 (by decide +kernel) (by decide +kernel)), tb_in 347 (by decide +kernel) (by decide +kernel), tb_in 47 (by decide +kernel) (by decide +kernel), ⟨by decide, by decide⟩, by decide +kernel⟩
set_option maxRecDepth 20000 in
theorem l_Orb_112 : ML "RelayOrbiter" 112 k_Ses_restart 0 := ⟨Or.inl (tb_in 348 (by decide +kernel) (by decide +kernel)), tb_in 351 (by decide +kernel) (by decide +kernel), tb_in 49 (by decide +kernel) (by decide +kernel), ⟨by decide, by decide⟩, by decide +kernel⟩
set_option maxRecDepth 20000 in
theorem l_Ses_53 : ML "RelayOrbiter$Session" 53 k_Ses_forgetSegments 0 := ⟨Or.inl (tb_in 352 (by decide +kernel) (by decide +kernel)), tb_in 355 (by decide +kernel) (by decide +kernel), tb_in 49 (by decide +kernel) (by decide +kernel), ⟨by decide, by decide⟩, by decide +kernel⟩
set_option maxRecDepth 20000 in
theorem l_Ses_110 : ML "RelayOrbiter$Session" 110 k_Str_forget 0 := ⟨Or.inl (tb_in 356 (by decide +kernel) (by decide +kernel)), tb_in 359 (by decide +kernel) (by decide +kernel), tb_in 51 (by decide +kernel) (by decide +kernel), ⟨by decide, by decide⟩, by decide +kernel⟩
set_option maxRecDepth 20000 in
theorem l_Orb_113 : ML "RelayOrbiter" 113 k_Lan_forgetAll 0 := ⟨Or.inl (tb_in 360 (by decide +kernel) (by decide +kernel)), tb_in 363 (by decide +kernel) (by decide +kernel), tb_in 52 (by decide +kernel) (by decide +kernel), ⟨by decide, by decide⟩, by decide +kernel⟩
set_option maxRecDepth 20000 in
theorem l_Law_98 : ML "RelayOrbiterLaw" 98 k_Orb_out 0 := ⟨Or.inl (tb_in 364 (by decide +kernel) (by decide +kernel)), tb_in 367 (by decide +kernel) (by decide +kernel), tb_in 45 (by decide +kernel) (by decide +kernel), ⟨by decide, by decide⟩, by decide +kernel⟩
set_option maxRecDepth 20000 in
theorem l_Law_7 : ML "RelayOrbiterLaw" 7 k_Orb_window 4 := ⟨Or.inl (tb_in 372 (by decide +kernel) (by decide +kernel)), tb_in 375 (by decide +kernel) (by decide +kernel), tb_in 45 (by decide +kernel) (by decide +kernel), ⟨by decide, by decide⟩, by decide +kernel⟩
set_option maxRecDepth 20000 in
theorem l_Orb_53 : ML "RelayOrbiter" 53 k_Orb_isNoPair 1 := ⟨Or.inl (tb_in 376 (by decide +kernel) (by decide +kernel)), tb_in 378 (by decide +kernel) (by decide +kernel), tb_in 45 (by decide +kernel) (by decide +kernel), ⟨by decide, by decide⟩, by decide +kernel⟩
set_option maxRecDepth 20000 in
theorem l_Orb_60 : ML "RelayOrbiter" 60 k_Orb_windowOf 1 := ⟨Or.inl (tb_in 445 (by decide +kernel) (by decide +kernel)), tb_in 448 (by decide +kernel) (by decide +kernel), tb_in 45 (by decide +kernel) (by decide +kernel), ⟨by decide, by decide⟩, by decide +kernel⟩
set_option maxRecDepth 20000 in
theorem l_Orb_64 : ML "RelayOrbiter" 64 k_Win_set 3 := ⟨Or.inl (tb_in 449 (by decide +kernel) (by decide +kernel)), tb_in 452 (by decide +kernel) (by decide +kernel), tb_in 46 (by decide +kernel) (by decide +kernel), ⟨by decide, by decide⟩, by decide +kernel⟩
set_option maxRecDepth 20000 in
theorem l_Law_15 : ML "RelayOrbiterLaw" 15 k_Orb_minute 1 := ⟨Or.inl (tb_in 456 (by decide +kernel) (by decide +kernel)), tb_in 459 (by decide +kernel) (by decide +kernel), tb_in 45 (by decide +kernel) (by decide +kernel), ⟨by decide, by decide⟩, by decide +kernel⟩
set_option maxRecDepth 20000 in
theorem l_Law_19 : ML "RelayOrbiterLaw" 19 k_Orb_seen 1 := ⟨Or.inl (tb_in 463 (by decide +kernel) (by decide +kernel)), tb_in 466 (by decide +kernel) (by decide +kernel), tb_in 45 (by decide +kernel) (by decide +kernel), ⟨by decide, by decide⟩, by decide +kernel⟩
set_option maxRecDepth 20000 in
theorem l_Orb_68 : ML "RelayOrbiter" 68 k_Win_isOpen 1 := ⟨Or.inl (tb_in 467 (by decide +kernel) (by decide +kernel)), tb_in 470 (by decide +kernel) (by decide +kernel), tb_in 46 (by decide +kernel) (by decide +kernel), ⟨by decide, by decide⟩, by decide +kernel⟩
set_option maxRecDepth 20000 in
theorem l_Law_23 : ML "RelayOrbiterLaw" 23 k_Orb_receive 2 := ⟨Or.inl (tb_in 475 (by decide +kernel) (by decide +kernel)), tb_in 478 (by decide +kernel) (by decide +kernel), tb_in 45 (by decide +kernel) (by decide +kernel), ⟨by decide, by decide⟩, by decide +kernel⟩
set_option maxRecDepth 20000 in
theorem l_Orb_78 : ML "RelayOrbiter" 78 k_Lan_put 1 := ⟨Or.inl (tb_in 494 (by decide +kernel) (by decide +kernel)), tb_in 497 (by decide +kernel) (by decide +kernel), tb_in 52 (by decide +kernel) (by decide +kernel), ⟨by decide, by decide⟩, by decide +kernel⟩
set_option maxRecDepth 20000 in
theorem l_Orb_82 : ML "RelayOrbiter" 82 k_Orb_takeFrames 0 := ⟨Or.inl (tb_in 498 (by decide +kernel) (by decide +kernel)), tb_in 501 (by decide +kernel) (by decide +kernel), tb_in 45 (by decide +kernel) (by decide +kernel), ⟨by decide, by decide⟩, by decide +kernel⟩
set_option maxRecDepth 20000 in
theorem l_Orb_156 : ML "RelayOrbiter" 156 k_Lan_look 0 := ⟨Or.inl (tb_in 502 (by decide +kernel) (by decide +kernel)), tb_in 505 (by decide +kernel) (by decide +kernel), tb_in 52 (by decide +kernel) (by decide +kernel), ⟨by decide, by decide⟩, by decide +kernel⟩
set_option maxRecDepth 20000 in
theorem l_Lan_39 : ML "RelayOrbiter$LanderLink" 39 k_Lan_toldLength 0 := ⟨Or.inl (tb_in 508 (by decide +kernel) (by decide +kernel)), tb_in 511 (by decide +kernel) (by decide +kernel), tb_in 52 (by decide +kernel) (by decide +kernel), ⟨by decide, by decide⟩, by decide +kernel⟩
set_option maxRecDepth 20000 in
theorem l_Lan_43 : ML "RelayOrbiter$LanderLink" 43 k_Lan_checkHolds 1 := ⟨Or.inl (tb_in 512 (by decide +kernel) (by decide +kernel)), tb_in 515 (by decide +kernel) (by decide +kernel), tb_in 52 (by decide +kernel) (by decide +kernel), ⟨by decide, by decide⟩, by decide +kernel⟩
set_option maxRecDepth 20000 in
theorem l_Lan_56 : ML "RelayOrbiter$LanderLink" 56 k_Orb_check 6 := ⟨Or.inr ⟨"RelayOrbiter", tb_in 517 (by decide +kernel) (by decide +kernel)⟩, tb_in 519 (by decide +kernel) (by decide +kernel), tb_in 45 (by decide +kernel) (by decide +kernel), ⟨by decide, by decide⟩, by decide +kernel⟩
set_option maxRecDepth 20000 in
theorem l_Orb_159 : ML "RelayOrbiter" 159 k_Lan_giveUp 1 := ⟨Or.inl (tb_in 520 (by decide +kernel) (by decide +kernel)), tb_in 523 (by decide +kernel) (by decide +kernel), tb_in 52 (by decide +kernel) (by decide +kernel), ⟨by decide, by decide⟩, by decide +kernel⟩
set_option maxRecDepth 20000 in
theorem l_Orb_162 : ML "RelayOrbiter" 162 k_Lan_takeFrame 0 := ⟨Or.inl (tb_in 530 (by decide +kernel) (by decide +kernel)), tb_in 533 (by decide +kernel) (by decide +kernel), tb_in 52 (by decide +kernel) (by decide +kernel), ⟨by decide, by decide⟩, by decide +kernel⟩
set_option maxRecDepth 20000 in
theorem l_Lan_47 : ML "RelayOrbiter$LanderLink" 47 k_Frm_copy 3 := ⟨Or.inl (tb_in 534 (by decide +kernel) (by decide +kernel)), tb_in 537 (by decide +kernel) (by decide +kernel), tb_in 53 (by decide +kernel) (by decide +kernel), ⟨by decide, by decide⟩, by decide +kernel⟩
set_option maxRecDepth 20000 in
theorem l_Lan_51 : ML "RelayOrbiter$LanderLink" 51 k_Lan_giveUp 1 := ⟨Or.inl (tb_in 543 (by decide +kernel) (by decide +kernel)), tb_in 523 (by decide +kernel) (by decide +kernel), tb_in 52 (by decide +kernel) (by decide +kernel), ⟨by decide, by decide⟩, by decide +kernel⟩
set_option maxRecDepth 20000 in
theorem l_Orb_168 : ML "RelayOrbiter" 168 k_Ses_heed 1 := ⟨Or.inl (tb_in 544 (by decide +kernel) (by decide +kernel)), tb_in 547 (by decide +kernel) (by decide +kernel), tb_in 49 (by decide +kernel) (by decide +kernel), ⟨by decide, by decide⟩, by decide +kernel⟩
set_option maxRecDepth 20000 in
theorem l_Ses_57 : ML "RelayOrbiter$Session" 57 k_Frm_spacecraft 0 := ⟨Or.inl (tb_in 548 (by decide +kernel) (by decide +kernel)), tb_in 551 (by decide +kernel) (by decide +kernel), tb_in 53 (by decide +kernel) (by decide +kernel), ⟨by decide, by decide⟩, by decide +kernel⟩
set_option maxRecDepth 20000 in
theorem l_Ses_63 : ML "RelayOrbiter$Session" 63 k_Frm_isDirective 0 := ⟨Or.inl (tb_in 552 (by decide +kernel) (by decide +kernel)), tb_in 555 (by decide +kernel) (by decide +kernel), tb_in 53 (by decide +kernel) (by decide +kernel), ⟨by decide, by decide⟩, by decide +kernel⟩
set_option maxRecDepth 20000 in
theorem l_Ses_67 : ML "RelayOrbiter$Session" 67 k_Ses_obey 1 := ⟨Or.inl (tb_in 556 (by decide +kernel) (by decide +kernel)), tb_in 559 (by decide +kernel) (by decide +kernel), tb_in 49 (by decide +kernel) (by decide +kernel), ⟨by decide, by decide⟩, by decide +kernel⟩
set_option maxRecDepth 20000 in
theorem l_Ses_99 : ML "RelayOrbiter$Session" 99 k_Frm_dataLength 0 := ⟨Or.inl (tb_in 560 (by decide +kernel) (by decide +kernel)), tb_in 563 (by decide +kernel) (by decide +kernel), tb_in 53 (by decide +kernel) (by decide +kernel), ⟨by decide, by decide⟩, by decide +kernel⟩
set_option maxRecDepth 20000 in
theorem l_Ses_102 : ML "RelayOrbiter$Session" 102 k_Frm_data 1 := ⟨Or.inl (tb_in 564 (by decide +kernel) (by decide +kernel)), tb_in 567 (by decide +kernel) (by decide +kernel), tb_in 53 (by decide +kernel) (by decide +kernel), ⟨by decide, by decide⟩, by decide +kernel⟩
set_option maxRecDepth 20000 in
theorem l_Ses_97 : ML "RelayOrbiter$Session" 97 k_Frm_channel 0 := ⟨Or.inl (tb_in 568 (by decide +kernel) (by decide +kernel)), tb_in 571 (by decide +kernel) (by decide +kernel), tb_in 53 (by decide +kernel) (by decide +kernel), ⟨by decide, by decide⟩, by decide +kernel⟩
set_option maxRecDepth 20000 in
theorem l_Ses_106 : ML "RelayOrbiter$Session" 106 k_Ses_begin 1 := ⟨Or.inl (tb_in 572 (by decide +kernel) (by decide +kernel)), tb_in 575 (by decide +kernel) (by decide +kernel), tb_in 49 (by decide +kernel) (by decide +kernel), ⟨by decide, by decide⟩, by decide +kernel⟩
set_option maxRecDepth 20000 in
theorem l_Ses_71 : ML "RelayOrbiter$Session" 71 k_Ses_isOnFor 1 := ⟨Or.inl (tb_in 576 (by decide +kernel) (by decide +kernel)), tb_in 579 (by decide +kernel) (by decide +kernel), tb_in 49 (by decide +kernel) (by decide +kernel), ⟨by decide, by decide⟩, by decide +kernel⟩
set_option maxRecDepth 20000 in
theorem l_Ses_75 : ML "RelayOrbiter$Session" 75 k_Ses_gather 1 := ⟨Or.inl (tb_in 580 (by decide +kernel) (by decide +kernel)), tb_in 583 (by decide +kernel) (by decide +kernel), tb_in 49 (by decide +kernel) (by decide +kernel), ⟨by decide, by decide⟩, by decide +kernel⟩
set_option maxRecDepth 20000 in
theorem l_Ses_138 : ML "RelayOrbiter$Session" 138 k_Har_clear 0 := ⟨Or.inl (tb_in 584 (by decide +kernel) (by decide +kernel)), tb_in 587 (by decide +kernel) (by decide +kernel), tb_in 50 (by decide +kernel) (by decide +kernel), ⟨by decide, by decide⟩, by decide +kernel⟩
set_option maxRecDepth 20000 in
theorem l_Ses_141 : ML "RelayOrbiter$Session" 141 k_Frm_form 0 := ⟨Or.inl (tb_in 588 (by decide +kernel) (by decide +kernel)), tb_in 591 (by decide +kernel) (by decide +kernel), tb_in 53 (by decide +kernel) (by decide +kernel), ⟨by decide, by decide⟩, by decide +kernel⟩
set_option maxRecDepth 20000 in
theorem l_Ses_144 : ML "RelayOrbiter$Session" 144 k_Ses_appendData 2 := ⟨Or.inl (tb_in 592 (by decide +kernel) (by decide +kernel)), tb_in 595 (by decide +kernel) (by decide +kernel), tb_in 49 (by decide +kernel) (by decide +kernel), ⟨by decide, by decide⟩, by decide +kernel⟩
set_option maxRecDepth 20000 in
theorem l_Ses_165 : ML "RelayOrbiter$Session" 165 k_Har_append 1 := ⟨Or.inl (tb_in 596 (by decide +kernel) (by decide +kernel)), tb_in 599 (by decide +kernel) (by decide +kernel), tb_in 50 (by decide +kernel) (by decide +kernel), ⟨by decide, by decide⟩, by decide +kernel⟩
set_option maxRecDepth 20000 in
theorem l_Ses_148 : ML "RelayOrbiter$Session" 148 k_Har_findPackets 0 := ⟨Or.inl (tb_in 600 (by decide +kernel) (by decide +kernel)), tb_in 603 (by decide +kernel) (by decide +kernel), tb_in 50 (by decide +kernel) (by decide +kernel), ⟨by decide, by decide⟩, by decide +kernel⟩
set_option maxRecDepth 20000 in
theorem l_Har_28 : ML "RelayOrbiter$Harvest" 28 k_Har_packetLengthAt 1 := ⟨Or.inl (tb_in 604 (by decide +kernel) (by decide +kernel)), tb_in 607 (by decide +kernel) (by decide +kernel), tb_in 50 (by decide +kernel) (by decide +kernel), ⟨by decide, by decide⟩, by decide +kernel⟩
set_option maxRecDepth 20000 in
theorem l_Ses_151 : ML "RelayOrbiter$Session" 151 k_Ses_gatherSegment 1 := ⟨Or.inl (tb_in 608 (by decide +kernel) (by decide +kernel)), tb_in 611 (by decide +kernel) (by decide +kernel), tb_in 49 (by decide +kernel) (by decide +kernel), ⟨by decide, by decide⟩, by decide +kernel⟩
set_option maxRecDepth 20000 in
theorem l_Ses_168 : ML "RelayOrbiter$Session" 168 k_Har_findOneWholePacket 0 := ⟨Or.inl (tb_in 612 (by decide +kernel) (by decide +kernel)), tb_in 615 (by decide +kernel) (by decide +kernel), tb_in 50 (by decide +kernel) (by decide +kernel), ⟨by decide, by decide⟩, by decide +kernel⟩
set_option maxRecDepth 20000 in
theorem l_Ses_78 : ML "RelayOrbiter$Session" 78 k_Frm_isExpedited 0 := ⟨Or.inl (tb_in 616 (by decide +kernel) (by decide +kernel)), tb_in 619 (by decide +kernel) (by decide +kernel), tb_in 53 (by decide +kernel) (by decide +kernel), ⟨by decide, by decide⟩, by decide +kernel⟩
set_option maxRecDepth 20000 in
theorem l_Ses_81 : ML "RelayOrbiter$Session" 81 k_Ses_admitExpedited 0 := ⟨Or.inl (tb_in 620 (by decide +kernel) (by decide +kernel)), tb_in 623 (by decide +kernel) (by decide +kernel), tb_in 49 (by decide +kernel) (by decide +kernel), ⟨by decide, by decide⟩, by decide +kernel⟩
set_option maxRecDepth 20000 in
theorem l_Ses_84 : ML "RelayOrbiter$Session" 84 k_Frm_number 0 := ⟨Or.inl (tb_in 624 (by decide +kernel) (by decide +kernel)), tb_in 627 (by decide +kernel) (by decide +kernel), tb_in 53 (by decide +kernel) (by decide +kernel), ⟨by decide, by decide⟩, by decide +kernel⟩
set_option maxRecDepth 20000 in
theorem l_Ses_87 : ML "RelayOrbiter$Session" 87 k_Ses_admitSequenced 1 := ⟨Or.inl (tb_in 628 (by decide +kernel) (by decide +kernel)), tb_in 631 (by decide +kernel) (by decide +kernel), tb_in 49 (by decide +kernel) (by decide +kernel), ⟨by decide, by decide⟩, by decide +kernel⟩
set_option maxRecDepth 20000 in
theorem l_Ses_113 : ML "RelayOrbiter$Session" 113 k_Har_blocksOfAll 0 := ⟨Or.inl (tb_in 632 (by decide +kernel) (by decide +kernel)), tb_in 635 (by decide +kernel) (by decide +kernel), tb_in 50 (by decide +kernel) (by decide +kernel), ⟨by decide, by decide⟩, by decide +kernel⟩
set_option maxRecDepth 20000 in
theorem l_Har_32 : ML "RelayOrbiter$Harvest" 32 k_Sto_blocksFor 1 := ⟨Or.inl (tb_in 636 (by decide +kernel) (by decide +kernel)), tb_in 114 (by decide +kernel) (by decide +kernel), tb_in 47 (by decide +kernel) (by decide +kernel), ⟨by decide, by decide⟩, by decide +kernel⟩
set_option maxRecDepth 20000 in
theorem l_Ses_116 : ML "RelayOrbiter$Session" 116 k_Sto_hasRoom 1 := ⟨Or.inl (tb_in 637 (by decide +kernel) (by decide +kernel)), tb_in 640 (by decide +kernel) (by decide +kernel), tb_in 47 (by decide +kernel) (by decide +kernel), ⟨by decide, by decide⟩, by decide +kernel⟩
set_option maxRecDepth 20000 in
theorem l_Ses_91 : ML "RelayOrbiter$Session" 91 k_Ses_settleStream 0 := ⟨Or.inl (tb_in 641 (by decide +kernel) (by decide +kernel)), tb_in 644 (by decide +kernel) (by decide +kernel), tb_in 49 (by decide +kernel) (by decide +kernel), ⟨by decide, by decide⟩, by decide +kernel⟩
set_option maxRecDepth 20000 in
theorem l_Ses_171 : ML "RelayOrbiter$Session" 171 k_Str_hold 1 := ⟨Or.inl (tb_in 645 (by decide +kernel) (by decide +kernel)), tb_in 648 (by decide +kernel) (by decide +kernel), tb_in 51 (by decide +kernel) (by decide +kernel), ⟨by decide, by decide⟩, by decide +kernel⟩
set_option maxRecDepth 20000 in
theorem l_Ses_94 : ML "RelayOrbiter$Session" 94 k_Ses_keepWhatFits 0 := ⟨Or.inl (tb_in 650 (by decide +kernel) (by decide +kernel)), tb_in 653 (by decide +kernel) (by decide +kernel), tb_in 49 (by decide +kernel) (by decide +kernel), ⟨by decide, by decide⟩, by decide +kernel⟩
set_option maxRecDepth 20000 in
theorem l_Ses_134 : ML "RelayOrbiter$Session" 134 k_Sto_add 3 := ⟨Or.inl (tb_in 654 (by decide +kernel) (by decide +kernel)), tb_in 657 (by decide +kernel) (by decide +kernel), tb_in 47 (by decide +kernel) (by decide +kernel), ⟨by decide, by decide⟩, by decide +kernel⟩
set_option maxRecDepth 20000 in
theorem l_Sto_53 : ML "RelayOrbiter$Store" 53 k_Sto_blocksFor 1 := ⟨Or.inl (tb_in 658 (by decide +kernel) (by decide +kernel)), tb_in 114 (by decide +kernel) (by decide +kernel), tb_in 47 (by decide +kernel) (by decide +kernel), ⟨by decide, by decide⟩, by decide +kernel⟩
set_option maxRecDepth 20000 in
theorem l_Sto_57 : ML "RelayOrbiter$Store" 57 k_Sto_hasRoom 1 := ⟨Or.inl (tb_in 659 (by decide +kernel) (by decide +kernel)), tb_in 640 (by decide +kernel) (by decide +kernel), tb_in 47 (by decide +kernel) (by decide +kernel), ⟨by decide, by decide⟩, by decide +kernel⟩
set_option maxRecDepth 20000 in
theorem l_Sto_67 : ML "RelayOrbiter$Store" 67 k_Sto_writeBlocks 3 := ⟨Or.inl (tb_in 660 (by decide +kernel) (by decide +kernel)), tb_in 663 (by decide +kernel) (by decide +kernel), tb_in 47 (by decide +kernel) (by decide +kernel), ⟨by decide, by decide⟩, by decide +kernel⟩
set_option maxRecDepth 20000 in
theorem l_Sto_94 : ML "RelayOrbiter$Store" 94 k_Sto_write 0 := ⟨Or.inl (tb_in 666 (by decide +kernel) (by decide +kernel)), tb_in 669 (by decide +kernel) (by decide +kernel), tb_in 47 (by decide +kernel) (by decide +kernel), ⟨by decide, by decide⟩, by decide +kernel⟩
set_option maxRecDepth 20000 in
theorem l_Sto_71 : ML "RelayOrbiter$Store" 71 k_Sto_renewFullJournal 0 := ⟨Or.inl (tb_in 670 (by decide +kernel) (by decide +kernel)), tb_in 673 (by decide +kernel) (by decide +kernel), tb_in 47 (by decide +kernel) (by decide +kernel), ⟨by decide, by decide⟩, by decide +kernel⟩
set_option maxRecDepth 20000 in
theorem l_Sto_74 : ML "RelayOrbiter$Store" 74 k_Sto_enterAdded 1 := ⟨Or.inl (tb_in 674 (by decide +kernel) (by decide +kernel)), tb_in 677 (by decide +kernel) (by decide +kernel), tb_in 47 (by decide +kernel) (by decide +kernel), ⟨by decide, by decide⟩, by decide +kernel⟩
set_option maxRecDepth 20000 in
theorem l_Sto_100 : ML "RelayOrbiter$Store" 100 k_Sto_markBlocks 2 := ⟨Or.inl (tb_in 678 (by decide +kernel) (by decide +kernel)), tb_in 681 (by decide +kernel) (by decide +kernel), tb_in 47 (by decide +kernel) (by decide +kernel), ⟨by decide, by decide⟩, by decide +kernel⟩
set_option maxRecDepth 20000 in
theorem l_Law_29 : ML "RelayOrbiterLaw" 29 k_Orb_report 0 := ⟨Or.inl (tb_in 685 (by decide +kernel) (by decide +kernel)), tb_in 688 (by decide +kernel) (by decide +kernel), tb_in 45 (by decide +kernel) (by decide +kernel), ⟨by decide, by decide⟩, by decide +kernel⟩
set_option maxRecDepth 20000 in
theorem l_Orb_86 : ML "RelayOrbiter" 86 k_Ses_reportWord 0 := ⟨Or.inl (tb_in 689 (by decide +kernel) (by decide +kernel)), tb_in 692 (by decide +kernel) (by decide +kernel), tb_in 49 (by decide +kernel) (by decide +kernel), ⟨by decide, by decide⟩, by decide +kernel⟩
set_option maxRecDepth 20000 in
theorem l_Law_33 : ML "RelayOrbiterLaw" 33 k_Orb_send 1 := ⟨Or.inl (tb_in 698 (by decide +kernel) (by decide +kernel)), tb_in 701 (by decide +kernel) (by decide +kernel), tb_in 45 (by decide +kernel) (by decide +kernel), ⟨by decide, by decide⟩, by decide +kernel⟩
set_option maxRecDepth 20000 in
theorem l_Orb_92 : ML "RelayOrbiter" 92 k_Ear_emit 2 := ⟨Or.inl (tb_in 717 (by decide +kernel) (by decide +kernel)), tb_in 720 (by decide +kernel) (by decide +kernel), tb_in 54 (by decide +kernel) (by decide +kernel), ⟨by decide, by decide⟩, by decide +kernel⟩
set_option maxRecDepth 20000 in
theorem l_Ear_22 : ML "RelayOrbiter$EarthLink" 22 k_Ear_putNumber 3 := ⟨Or.inl (tb_in 721 (by decide +kernel) (by decide +kernel)), tb_in 724 (by decide +kernel) (by decide +kernel), tb_in 54 (by decide +kernel) (by decide +kernel), ⟨by decide, by decide⟩, by decide +kernel⟩
set_option maxRecDepth 20000 in
theorem l_Ear_26 : ML "RelayOrbiter$EarthLink" 26 k_Ear_fillZone 2 := ⟨Or.inl (tb_in 725 (by decide +kernel) (by decide +kernel)), tb_in 728 (by decide +kernel) (by decide +kernel), tb_in 54 (by decide +kernel) (by decide +kernel), ⟨by decide, by decide⟩, by decide +kernel⟩
set_option maxRecDepth 20000 in
theorem l_Ear_59 : ML "RelayOrbiter$EarthLink" 59 k_Ear_pointerWith 3 := ⟨Or.inl (tb_in 1005 (by decide +kernel) (by decide +kernel)), tb_in 1007 (by decide +kernel) (by decide +kernel), tb_in 54 (by decide +kernel) (by decide +kernel), ⟨by decide, by decide⟩, by decide +kernel⟩
set_option maxRecDepth 20000 in
theorem l_Ear_63 : ML "RelayOrbiter$EarthLink" 63 k_Ear_emitPart 3 := ⟨Or.inl (tb_in 1008 (by decide +kernel) (by decide +kernel)), tb_in 1011 (by decide +kernel) (by decide +kernel), tb_in 54 (by decide +kernel) (by decide +kernel), ⟨by decide, by decide⟩, by decide +kernel⟩
set_option maxRecDepth 20000 in
theorem l_Ear_73 : ML "RelayOrbiter$EarthLink" 73 k_Sto_byteOf 2 := ⟨Or.inl (tb_in 1012 (by decide +kernel) (by decide +kernel)), tb_in 1015 (by decide +kernel) (by decide +kernel), tb_in 47 (by decide +kernel) (by decide +kernel), ⟨by decide, by decide⟩, by decide +kernel⟩
set_option maxRecDepth 20000 in
theorem l_Ear_31 : ML "RelayOrbiter$EarthLink" 31 k_Orb_check 6 := ⟨Or.inr ⟨"RelayOrbiter", tb_in 1017 (by decide +kernel) (by decide +kernel)⟩, tb_in 519 (by decide +kernel) (by decide +kernel), tb_in 45 (by decide +kernel) (by decide +kernel), ⟨by decide, by decide⟩, by decide +kernel⟩
set_option maxRecDepth 20000 in
theorem l_Ear_35 : ML "RelayOrbiter$EarthLink" 35 k_Sto_dropEmitted 0 := ⟨Or.inl (tb_in 1018 (by decide +kernel) (by decide +kernel)), tb_in 1021 (by decide +kernel) (by decide +kernel), tb_in 47 (by decide +kernel) (by decide +kernel), ⟨by decide, by decide⟩, by decide +kernel⟩
set_option maxRecDepth 20000 in
theorem l_Sto_78 : ML "RelayOrbiter$Store" 78 k_Sto_enterDropped 1 := ⟨Or.inl (tb_in 1022 (by decide +kernel) (by decide +kernel)), tb_in 1025 (by decide +kernel) (by decide +kernel), tb_in 47 (by decide +kernel) (by decide +kernel), ⟨by decide, by decide⟩, by decide +kernel⟩
set_option maxRecDepth 20000 in
theorem l_Law_38 : ML "RelayOrbiterLaw" 38 k_Orb_sent 1 := ⟨Or.inl (tb_in 1030 (by decide +kernel) (by decide +kernel)), tb_in 1033 (by decide +kernel) (by decide +kernel), tb_in 45 (by decide +kernel) (by decide +kernel), ⟨by decide, by decide⟩, by decide +kernel⟩
set_option maxRecDepth 20000 in
theorem l_Orb_96 : ML "RelayOrbiter" 96 k_Ear_hasByte 1 := ⟨Or.inl (tb_in 1034 (by decide +kernel) (by decide +kernel)), tb_in 1037 (by decide +kernel) (by decide +kernel), tb_in 54 (by decide +kernel) (by decide +kernel), ⟨by decide, by decide⟩, by decide +kernel⟩
set_option maxRecDepth 20000 in
theorem l_Law_43 : ML "RelayOrbiterLaw" 43 k_Orb_fail 1 := ⟨Or.inl (tb_in 1056 (by decide +kernel) (by decide +kernel)), tb_in 1059 (by decide +kernel) (by decide +kernel), tb_in 45 (by decide +kernel) (by decide +kernel), ⟨by decide, by decide⟩, by decide +kernel⟩
set_option maxRecDepth 20000 in
theorem l_Law_47 : ML "RelayOrbiterLaw" 47 k_Orb_store 1 := ⟨Or.inl (tb_in 1063 (by decide +kernel) (by decide +kernel)), tb_in 1066 (by decide +kernel) (by decide +kernel), tb_in 45 (by decide +kernel) (by decide +kernel), ⟨by decide, by decide⟩, by decide +kernel⟩
set_option maxRecDepth 20000 in
theorem l_Law_50 : ML "RelayOrbiterLaw" 50 k_Orb_packet 2 := ⟨Or.inl (tb_in 1070 (by decide +kernel) (by decide +kernel)), tb_in 1073 (by decide +kernel) (by decide +kernel), tb_in 45 (by decide +kernel) (by decide +kernel), ⟨by decide, by decide⟩, by decide +kernel⟩
set_option maxRecDepth 20000 in
theorem l_Orb_128 : ML "RelayOrbiter" 128 k_Sto_has 1 := ⟨Or.inl (tb_in 1074 (by decide +kernel) (by decide +kernel)), tb_in 1077 (by decide +kernel) (by decide +kernel), tb_in 47 (by decide +kernel) (by decide +kernel), ⟨by decide, by decide⟩, by decide +kernel⟩
set_option maxRecDepth 20000 in
theorem l_Law_53 : ML "RelayOrbiterLaw" 53 k_Orb_content 2 := ⟨Or.inl (tb_in 1081 (by decide +kernel) (by decide +kernel)), tb_in 1084 (by decide +kernel) (by decide +kernel), tb_in 45 (by decide +kernel) (by decide +kernel), ⟨by decide, by decide⟩, by decide +kernel⟩
set_option maxRecDepth 20000 in
theorem l_Orb_152 : ML "RelayOrbiter" 152 k_Sto_byteOf 2 := ⟨Or.inl (tb_in 1085 (by decide +kernel) (by decide +kernel)), tb_in 1015 (by decide +kernel) (by decide +kernel), tb_in 47 (by decide +kernel) (by decide +kernel), ⟨by decide, by decide⟩, by decide +kernel⟩
set_option maxRecDepth 20000 in
theorem l_Law_59 : ML "RelayOrbiterLaw" 59 k_Mod_init 0 := ⟨Or.inl (tb_in 1088 (by decide +kernel) (by decide +kernel)), tb_in 1090 (by decide +kernel) (by decide +kernel), tb_in 55 (by decide +kernel) (by decide +kernel), ⟨by decide, by decide⟩, by decide +kernel⟩
set_option maxRecDepth 20000 in
theorem f_Mod_7 : FG "RelayOrbiterModel" 7 10 0 false .int := ⟨R_Mod, T_Mod, 27, ty_Mod, ci_Mod, by decide, rfl, rfl, rfl, Or.inl (tb_in 1092 (by decide +kernel) (by decide +kernel))⟩
set_option maxRecDepth 20000 in
theorem f_Mod_13 : FG "RelayOrbiterModel" 13 10 1 false .int := ⟨R_Mod, T_Mod, 27, ty_Mod, ci_Mod, by decide, rfl, rfl, rfl, Or.inl (tb_in 1093 (by decide +kernel) (by decide +kernel))⟩
set_option maxRecDepth 20000 in
theorem f_Mod_16 : FG "RelayOrbiterModel" 16 10 2 true (.array .int) := ⟨R_Mod, T_Mod, 27, ty_Mod, ci_Mod, by decide, rfl, rfl, rfl, Or.inl (tb_in 1094 (by decide +kernel) (by decide +kernel))⟩
set_option maxRecDepth 20000 in
theorem f_Mod_20 : FG "RelayOrbiterModel" 20 10 3 false .boolean := ⟨R_Mod, T_Mod, 27, ty_Mod, ci_Mod, by decide, rfl, rfl, rfl, Or.inl (tb_in 1095 (by decide +kernel) (by decide +kernel))⟩
set_option maxRecDepth 20000 in
theorem f_Mod_24 : FG "RelayOrbiterModel" 24 10 4 false .int := ⟨R_Mod, T_Mod, 27, ty_Mod, ci_Mod, by decide, rfl, rfl, rfl, Or.inl (tb_in 1096 (by decide +kernel) (by decide +kernel))⟩
set_option maxRecDepth 20000 in
theorem f_Mod_27 : FG "RelayOrbiterModel" 27 10 5 true (.array .int) := ⟨R_Mod, T_Mod, 27, ty_Mod, ci_Mod, by decide, rfl, rfl, rfl, Or.inl (tb_in 1097 (by decide +kernel) (by decide +kernel))⟩
set_option maxRecDepth 20000 in
theorem f_Mod_30 : FG "RelayOrbiterModel" 30 10 6 false .int := ⟨R_Mod, T_Mod, 27, ty_Mod, ci_Mod, by decide, rfl, rfl, rfl, Or.inl (tb_in 1098 (by decide +kernel) (by decide +kernel))⟩
set_option maxRecDepth 20000 in
theorem f_Mod_33 : FG "RelayOrbiterModel" 33 10 7 false .boolean := ⟨R_Mod, T_Mod, 27, ty_Mod, ci_Mod, by decide, rfl, rfl, rfl, Or.inl (tb_in 1099 (by decide +kernel) (by decide +kernel))⟩
set_option maxRecDepth 20000 in
theorem f_Mod_36 : FG "RelayOrbiterModel" 36 10 8 false .int := ⟨R_Mod, T_Mod, 27, ty_Mod, ci_Mod, by decide, rfl, rfl, rfl, Or.inl (tb_in 1100 (by decide +kernel) (by decide +kernel))⟩
set_option maxRecDepth 20000 in
theorem f_Mod_39 : FG "RelayOrbiterModel" 39 10 9 false .int := ⟨R_Mod, T_Mod, 27, ty_Mod, ci_Mod, by decide, rfl, rfl, rfl, Or.inl (tb_in 1101 (by decide +kernel) (by decide +kernel))⟩
set_option maxRecDepth 20000 in
theorem f_Mod_42 : FG "RelayOrbiterModel" 42 10 10 false .int := ⟨R_Mod, T_Mod, 27, ty_Mod, ci_Mod, by decide, rfl, rfl, rfl, Or.inl (tb_in 1102 (by decide +kernel) (by decide +kernel))⟩
set_option maxRecDepth 20000 in
theorem f_Mod_45 : FG "RelayOrbiterModel" 45 10 11 false .int := ⟨R_Mod, T_Mod, 27, ty_Mod, ci_Mod, by decide, rfl, rfl, rfl, Or.inl (tb_in 1103 (by decide +kernel) (by decide +kernel))⟩
set_option maxRecDepth 20000 in
theorem f_Mod_48 : FG "RelayOrbiterModel" 48 10 12 true (.array .boolean) := ⟨R_Mod, T_Mod, 27, ty_Mod, ci_Mod, by decide, rfl, rfl, rfl, Or.inl (tb_in 1104 (by decide +kernel) (by decide +kernel))⟩
set_option maxRecDepth 20000 in
theorem f_Mod_52 : FG "RelayOrbiterModel" 52 10 13 true (.array .int) := ⟨R_Mod, T_Mod, 27, ty_Mod, ci_Mod, by decide, rfl, rfl, rfl, Or.inl (tb_in 1105 (by decide +kernel) (by decide +kernel))⟩
set_option maxRecDepth 20000 in
theorem f_Mod_55 : FG "RelayOrbiterModel" 55 10 14 true (.array .int) := ⟨R_Mod, T_Mod, 27, ty_Mod, ci_Mod, by decide, rfl, rfl, rfl, Or.inl (tb_in 1106 (by decide +kernel) (by decide +kernel))⟩
set_option maxRecDepth 20000 in
theorem f_Mod_58 : FG "RelayOrbiterModel" 58 10 15 false .int := ⟨R_Mod, T_Mod, 27, ty_Mod, ci_Mod, by decide, rfl, rfl, rfl, Or.inl (tb_in 1107 (by decide +kernel) (by decide +kernel))⟩
set_option maxRecDepth 20000 in
theorem f_Mod_61 : FG "RelayOrbiterModel" 61 10 16 true (.array .int) := ⟨R_Mod, T_Mod, 27, ty_Mod, ci_Mod, by decide, rfl, rfl, rfl, Or.inl (tb_in 1108 (by decide +kernel) (by decide +kernel))⟩
set_option maxRecDepth 20000 in
theorem f_Mod_64 : FG "RelayOrbiterModel" 64 10 17 true (.array .int) := ⟨R_Mod, T_Mod, 27, ty_Mod, ci_Mod, by decide, rfl, rfl, rfl, Or.inl (tb_in 1109 (by decide +kernel) (by decide +kernel))⟩
set_option maxRecDepth 20000 in
theorem f_Mod_67 : FG "RelayOrbiterModel" 67 10 18 true (.array .int) := ⟨R_Mod, T_Mod, 27, ty_Mod, ci_Mod, by decide, rfl, rfl, rfl, Or.inl (tb_in 1110 (by decide +kernel) (by decide +kernel))⟩
set_option maxRecDepth 20000 in
theorem f_Mod_70 : FG "RelayOrbiterModel" 70 10 19 true (.array .int) := ⟨R_Mod, T_Mod, 27, ty_Mod, ci_Mod, by decide, rfl, rfl, rfl, Or.inl (tb_in 1111 (by decide +kernel) (by decide +kernel))⟩
set_option maxRecDepth 20000 in
theorem f_Mod_73 : FG "RelayOrbiterModel" 73 10 20 true (.array .int) := ⟨R_Mod, T_Mod, 27, ty_Mod, ci_Mod, by decide, rfl, rfl, rfl, Or.inl (tb_in 1112 (by decide +kernel) (by decide +kernel))⟩
set_option maxRecDepth 20000 in
theorem f_Mod_76 : FG "RelayOrbiterModel" 76 10 21 false .int := ⟨R_Mod, T_Mod, 27, ty_Mod, ci_Mod, by decide, rfl, rfl, rfl, Or.inl (tb_in 1113 (by decide +kernel) (by decide +kernel))⟩
set_option maxRecDepth 20000 in
theorem f_Mod_79 : FG "RelayOrbiterModel" 79 10 22 false .int := ⟨R_Mod, T_Mod, 27, ty_Mod, ci_Mod, by decide, rfl, rfl, rfl, Or.inl (tb_in 1114 (by decide +kernel) (by decide +kernel))⟩
set_option maxRecDepth 20000 in
theorem f_Mod_82 : FG "RelayOrbiterModel" 82 10 23 false .int := ⟨R_Mod, T_Mod, 27, ty_Mod, ci_Mod, by decide, rfl, rfl, rfl, Or.inl (tb_in 1115 (by decide +kernel) (by decide +kernel))⟩
set_option maxRecDepth 20000 in
theorem f_Mod_85 : FG "RelayOrbiterModel" 85 10 24 true (.array .int) := ⟨R_Mod, T_Mod, 27, ty_Mod, ci_Mod, by decide, rfl, rfl, rfl, Or.inl (tb_in 1116 (by decide +kernel) (by decide +kernel))⟩
set_option maxRecDepth 20000 in
theorem f_Mod_88 : FG "RelayOrbiterModel" 88 10 25 false .boolean := ⟨R_Mod, T_Mod, 27, ty_Mod, ci_Mod, by decide, rfl, rfl, rfl, Or.inl (tb_in 1117 (by decide +kernel) (by decide +kernel))⟩
set_option maxRecDepth 20000 in
theorem f_Mod_91 : FG "RelayOrbiterModel" 91 10 26 true (.array .int) := ⟨R_Mod, T_Mod, 27, ty_Mod, ci_Mod, by decide, rfl, rfl, rfl, Or.inl (tb_in 1118 (by decide +kernel) (by decide +kernel))⟩
set_option maxRecDepth 20000 in
theorem l_Law_66 : ML "RelayOrbiterLaw" 66 k_Mod_thrown 0 := ⟨Or.inl (tb_in 1174 (by decide +kernel) (by decide +kernel)), tb_in 1177 (by decide +kernel) (by decide +kernel), tb_in 55 (by decide +kernel) (by decide +kernel), ⟨by decide, by decide⟩, by decide +kernel⟩
set_option maxRecDepth 20000 in
theorem l_Law_65 : ML "RelayOrbiterLaw" 65 k_Mod_window 4 := ⟨Or.inl (tb_in 1178 (by decide +kernel) (by decide +kernel)), tb_in 1181 (by decide +kernel) (by decide +kernel), tb_in 55 (by decide +kernel) (by decide +kernel), ⟨by decide, by decide⟩, by decide +kernel⟩
set_option maxRecDepth 20000 in
theorem l_Law_72 : ML "RelayOrbiterLaw" 72 k_Mod_minute 1 := ⟨Or.inl (tb_in 1182 (by decide +kernel) (by decide +kernel)), tb_in 1185 (by decide +kernel) (by decide +kernel), tb_in 55 (by decide +kernel) (by decide +kernel), ⟨by decide, by decide⟩, by decide +kernel⟩
set_option maxRecDepth 20000 in
theorem l_Law_75 : ML "RelayOrbiterLaw" 75 k_Mod_seen 1 := ⟨Or.inl (tb_in 1186 (by decide +kernel) (by decide +kernel)), tb_in 1189 (by decide +kernel) (by decide +kernel), tb_in 55 (by decide +kernel) (by decide +kernel), ⟨by decide, by decide⟩, by decide +kernel⟩
set_option maxRecDepth 20000 in
theorem l_Mod_125 : ML "RelayOrbiterModel" 125 k_Mod_seenBy 1 := ⟨Or.inl (tb_in 1190 (by decide +kernel) (by decide +kernel)), tb_in 1193 (by decide +kernel) (by decide +kernel), tb_in 55 (by decide +kernel) (by decide +kernel), ⟨by decide, by decide⟩, by decide +kernel⟩
set_option maxRecDepth 20000 in
theorem l_Law_79 : ML "RelayOrbiterLaw" 79 k_Mod_receive 2 := ⟨Or.inl (tb_in 1194 (by decide +kernel) (by decide +kernel)), tb_in 1197 (by decide +kernel) (by decide +kernel), tb_in 55 (by decide +kernel) (by decide +kernel), ⟨by decide, by decide⟩, by decide +kernel⟩
set_option maxRecDepth 20000 in
theorem l_Mod_154 : ML "RelayOrbiterModel" 154 k_Mod_byteIn 1 := ⟨Or.inl (tb_in 1198 (by decide +kernel) (by decide +kernel)), tb_in 1201 (by decide +kernel) (by decide +kernel), tb_in 55 (by decide +kernel) (by decide +kernel), ⟨by decide, by decide⟩, by decide +kernel⟩
set_option maxRecDepth 20000 in
theorem l_Mod_143 : ML "RelayOrbiterModel" 143 k_Mod_look 0 := ⟨Or.inl (tb_in 1202 (by decide +kernel) (by decide +kernel)), tb_in 1205 (by decide +kernel) (by decide +kernel), tb_in 55 (by decide +kernel) (by decide +kernel), ⟨by decide, by decide⟩, by decide +kernel⟩
set_option maxRecDepth 20000 in
theorem l_Mod_140 : ML "RelayOrbiterModel" 140 k_Mod_checked 1 := ⟨Or.inl (tb_in 1206 (by decide +kernel) (by decide +kernel)), tb_in 1209 (by decide +kernel) (by decide +kernel), tb_in 55 (by decide +kernel) (by decide +kernel), ⟨by decide, by decide⟩, by decide +kernel⟩
set_option maxRecDepth 20000 in
theorem l_Mod_146 : ML "RelayOrbiterModel" 146 k_Mod_taken 1 := ⟨Or.inl (tb_in 1211 (by decide +kernel) (by decide +kernel)), tb_in 1214 (by decide +kernel) (by decide +kernel), tb_in 55 (by decide +kernel) (by decide +kernel), ⟨by decide, by decide⟩, by decide +kernel⟩
set_option maxRecDepth 20000 in
theorem l_Mod_128 : ML "RelayOrbiterModel" 128 k_Mod_directive 3 := ⟨Or.inl (tb_in 1215 (by decide +kernel) (by decide +kernel)), tb_in 1218 (by decide +kernel) (by decide +kernel), tb_in 55 (by decide +kernel) (by decide +kernel), ⟨by decide, by decide⟩, by decide +kernel⟩
set_option maxRecDepth 20000 in
theorem l_Mod_132 : ML "RelayOrbiterModel" 132 k_Mod_packetsIn 3 := ⟨Or.inl (tb_in 1219 (by decide +kernel) (by decide +kernel)), tb_in 1222 (by decide +kernel) (by decide +kernel), tb_in 55 (by decide +kernel) (by decide +kernel), ⟨by decide, by decide⟩, by decide +kernel⟩
set_option maxRecDepth 20000 in
theorem l_Mod_105 : ML "RelayOrbiterModel" 105 k_Mod_packetAt 3 := ⟨Or.inl (tb_in 1223 (by decide +kernel) (by decide +kernel)), tb_in 1225 (by decide +kernel) (by decide +kernel), tb_in 55 (by decide +kernel) (by decide +kernel), ⟨by decide, by decide⟩, by decide +kernel⟩
set_option maxRecDepth 20000 in
theorem l_Mod_109 : ML "RelayOrbiterModel" 109 k_Mod_blocksOf 1 := ⟨Or.inl (tb_in 1226 (by decide +kernel) (by decide +kernel)), tb_in 1228 (by decide +kernel) (by decide +kernel), tb_in 55 (by decide +kernel) (by decide +kernel), ⟨by decide, by decide⟩, by decide +kernel⟩
set_option maxRecDepth 20000 in
theorem l_Mod_113 : ML "RelayOrbiterModel" 113 k_Mod_freeBlocks 0 := ⟨Or.inl (tb_in 1229 (by decide +kernel) (by decide +kernel)), tb_in 1232 (by decide +kernel) (by decide +kernel), tb_in 55 (by decide +kernel) (by decide +kernel), ⟨by decide, by decide⟩, by decide +kernel⟩
set_option maxRecDepth 20000 in
theorem l_Mod_98 : ML "RelayOrbiterModel" 98 k_Mod_isFree 1 := ⟨Or.inl (tb_in 1233 (by decide +kernel) (by decide +kernel)), tb_in 1236 (by decide +kernel) (by decide +kernel), tb_in 55 (by decide +kernel) (by decide +kernel), ⟨by decide, by decide⟩, by decide +kernel⟩
set_option maxRecDepth 20000 in
theorem l_Mod_117 : ML "RelayOrbiterModel" 117 k_Mod_keepPacket 3 := ⟨Or.inl (tb_in 1237 (by decide +kernel) (by decide +kernel)), tb_in 1240 (by decide +kernel) (by decide +kernel), tb_in 55 (by decide +kernel) (by decide +kernel), ⟨by decide, by decide⟩, by decide +kernel⟩
set_option maxRecDepth 20000 in
theorem l_Mod_94 : ML "RelayOrbiterModel" 94 k_Mod_write 0 := ⟨Or.inl (tb_in 1241 (by decide +kernel) (by decide +kernel)), tb_in 1244 (by decide +kernel) (by decide +kernel), tb_in 55 (by decide +kernel) (by decide +kernel), ⟨by decide, by decide⟩, by decide +kernel⟩
set_option maxRecDepth 20000 in
theorem l_Mod_102 : ML "RelayOrbiterModel" 102 k_Mod_journal 0 := ⟨Or.inl (tb_in 1245 (by decide +kernel) (by decide +kernel)), tb_in 1248 (by decide +kernel) (by decide +kernel), tb_in 55 (by decide +kernel) (by decide +kernel), ⟨by decide, by decide⟩, by decide +kernel⟩
set_option maxRecDepth 20000 in
theorem l_Mod_136 : ML "RelayOrbiterModel" 136 k_Mod_segmentIn 3 := ⟨Or.inl (tb_in 1249 (by decide +kernel) (by decide +kernel)), tb_in 1252 (by decide +kernel) (by decide +kernel), tb_in 55 (by decide +kernel) (by decide +kernel), ⟨by decide, by decide⟩, by decide +kernel⟩
set_option maxRecDepth 20000 in
theorem l_Mod_121 : ML "RelayOrbiterModel" 121 k_Mod_goesOn 3 := ⟨Or.inl (tb_in 1253 (by decide +kernel) (by decide +kernel)), tb_in 1256 (by decide +kernel) (by decide +kernel), tb_in 55 (by decide +kernel) (by decide +kernel), ⟨by decide, by decide⟩, by decide +kernel⟩
set_option maxRecDepth 20000 in
theorem l_Mod_150 : ML "RelayOrbiterModel" 150 k_Mod_leave 1 := ⟨Or.inl (tb_in 1257 (by decide +kernel) (by decide +kernel)), tb_in 1260 (by decide +kernel) (by decide +kernel), tb_in 55 (by decide +kernel) (by decide +kernel), ⟨by decide, by decide⟩, by decide +kernel⟩
set_option maxRecDepth 20000 in
theorem l_Law_83 : ML "RelayOrbiterLaw" 83 k_Mod_report 0 := ⟨Or.inl (tb_in 1261 (by decide +kernel) (by decide +kernel)), tb_in 1264 (by decide +kernel) (by decide +kernel), tb_in 55 (by decide +kernel) (by decide +kernel), ⟨by decide, by decide⟩, by decide +kernel⟩
set_option maxRecDepth 20000 in
theorem l_Law_86 : ML "RelayOrbiterLaw" 86 k_Mod_send 1 := ⟨Or.inl (tb_in 1266 (by decide +kernel) (by decide +kernel)), tb_in 1269 (by decide +kernel) (by decide +kernel), tb_in 55 (by decide +kernel) (by decide +kernel), ⟨by decide, by decide⟩, by decide +kernel⟩
set_option maxRecDepth 20000 in
theorem l_Mod_159 : ML "RelayOrbiterModel" 159 k_Mod_fill 1 := ⟨Or.inl (tb_in 1271 (by decide +kernel) (by decide +kernel)), tb_in 1274 (by decide +kernel) (by decide +kernel), tb_in 55 (by decide +kernel) (by decide +kernel), ⟨by decide, by decide⟩, by decide +kernel⟩
set_option maxRecDepth 20000 in
theorem l_Mod_162 : ML "RelayOrbiterModel" 162 k_Mod_check16 0 := ⟨Or.inl (tb_in 1275 (by decide +kernel) (by decide +kernel)), tb_in 1278 (by decide +kernel) (by decide +kernel), tb_in 55 (by decide +kernel) (by decide +kernel), ⟨by decide, by decide⟩, by decide +kernel⟩
set_option maxRecDepth 20000 in
theorem l_Mod_165 : ML "RelayOrbiterModel" 165 k_Mod_drop 1 := ⟨Or.inl (tb_in 1280 (by decide +kernel) (by decide +kernel)), tb_in 1283 (by decide +kernel) (by decide +kernel), tb_in 55 (by decide +kernel) (by decide +kernel), ⟨by decide, by decide⟩, by decide +kernel⟩
set_option maxRecDepth 20000 in
theorem l_Law_89 : ML "RelayOrbiterLaw" 89 k_Mod_sent 1 := ⟨Or.inl (tb_in 1284 (by decide +kernel) (by decide +kernel)), tb_in 1287 (by decide +kernel) (by decide +kernel), tb_in 55 (by decide +kernel) (by decide +kernel), ⟨by decide, by decide⟩, by decide +kernel⟩
set_option maxRecDepth 20000 in
theorem l_Law_93 : ML "RelayOrbiterLaw" 93 k_Mod_fail 1 := ⟨Or.inl (tb_in 1288 (by decide +kernel) (by decide +kernel)), tb_in 1291 (by decide +kernel) (by decide +kernel), tb_in 55 (by decide +kernel) (by decide +kernel), ⟨by decide, by decide⟩, by decide +kernel⟩
set_option maxRecDepth 20000 in
theorem l_Law_97 : ML "RelayOrbiterLaw" 97 k_Mod_power 0 := ⟨Or.inl (tb_in 1292 (by decide +kernel) (by decide +kernel)), tb_in 1295 (by decide +kernel) (by decide +kernel), tb_in 55 (by decide +kernel) (by decide +kernel), ⟨by decide, by decide⟩, by decide +kernel⟩
set_option maxRecDepth 20000 in
theorem l_Law_102 : ML "RelayOrbiterLaw" 102 k_Mod_out 0 := ⟨Or.inl (tb_in 1296 (by decide +kernel) (by decide +kernel)), tb_in 1299 (by decide +kernel) (by decide +kernel), tb_in 55 (by decide +kernel) (by decide +kernel), ⟨by decide, by decide⟩, by decide +kernel⟩
set_option maxRecDepth 20000 in
theorem l_Law_105 : ML "RelayOrbiterLaw" 105 k_Mod_store 1 := ⟨Or.inl (tb_in 1300 (by decide +kernel) (by decide +kernel)), tb_in 1303 (by decide +kernel) (by decide +kernel), tb_in 55 (by decide +kernel) (by decide +kernel), ⟨by decide, by decide⟩, by decide +kernel⟩
set_option maxRecDepth 20000 in
theorem l_Law_108 : ML "RelayOrbiterLaw" 108 k_Mod_packet 2 := ⟨Or.inl (tb_in 1304 (by decide +kernel) (by decide +kernel)), tb_in 1307 (by decide +kernel) (by decide +kernel), tb_in 55 (by decide +kernel) (by decide +kernel), ⟨by decide, by decide⟩, by decide +kernel⟩
set_option maxRecDepth 20000 in
theorem l_Law_111 : ML "RelayOrbiterLaw" 111 k_Mod_content 2 := ⟨Or.inl (tb_in 1308 (by decide +kernel) (by decide +kernel)), tb_in 1311 (by decide +kernel) (by decide +kernel), tb_in 55 (by decide +kernel) (by decide +kernel), ⟨by decide, by decide⟩, by decide +kernel⟩
set_option maxRecDepth 20000 in
theorem s_Sto_blocksFor : Cond.static k_Sto_blocksFor.1 ∈ tb := tb_in 113 (by decide +kernel) (by decide +kernel)
set_option maxRecDepth 20000 in
theorem v_Orb_power : MV k_Orb_power 0 := ⟨tb_in 341 (by decide +kernel) (by decide +kernel), tb_in 342 (by decide +kernel) (by decide +kernel), T_Orb, 7, rfl⟩
set_option maxRecDepth 20000 in
theorem v_Sto_restart : MV k_Sto_restart 2 := ⟨tb_in 345 (by decide +kernel) (by decide +kernel), tb_in 346 (by decide +kernel) (by decide +kernel), T_Sto, 10, rfl⟩
set_option maxRecDepth 20000 in
theorem v_Ses_restart : MV k_Ses_restart 4 := ⟨tb_in 349 (by decide +kernel) (by decide +kernel), tb_in 350 (by decide +kernel) (by decide +kernel), T_Ses, 10, rfl⟩
set_option maxRecDepth 20000 in
theorem v_Ses_forgetSegments : MV k_Ses_forgetSegments 4 := ⟨tb_in 354 (by decide +kernel) (by decide +kernel), tb_in 0 (by decide +kernel) (by decide +kernel), T_Ses, 10, rfl⟩
set_option maxRecDepth 20000 in
theorem v_Str_forget : MV k_Str_forget 6 := ⟨tb_in 357 (by decide +kernel) (by decide +kernel), tb_in 358 (by decide +kernel) (by decide +kernel), T_Str, 3, rfl⟩
set_option maxRecDepth 20000 in
theorem v_Lan_forgetAll : MV k_Lan_forgetAll 7 := ⟨tb_in 361 (by decide +kernel) (by decide +kernel), tb_in 362 (by decide +kernel) (by decide +kernel), T_Lan, 3, rfl⟩
set_option maxRecDepth 20000 in
theorem v_Orb_out : MV k_Orb_out 0 := ⟨tb_in 365 (by decide +kernel) (by decide +kernel), tb_in 366 (by decide +kernel) (by decide +kernel), T_Orb, 7, rfl⟩
set_option maxRecDepth 20000 in
theorem v_Orb_window : MV k_Orb_window 0 := ⟨tb_in 373 (by decide +kernel) (by decide +kernel), tb_in 374 (by decide +kernel) (by decide +kernel), T_Orb, 7, rfl⟩
set_option maxRecDepth 20000 in
theorem s_Orb_isNoPair : Cond.static k_Orb_isNoPair.1 ∈ tb := tb_in 377 (by decide +kernel) (by decide +kernel)
set_option maxRecDepth 20000 in
theorem v_Orb_windowOf : MV k_Orb_windowOf 0 := ⟨tb_in 447 (by decide +kernel) (by decide +kernel), tb_in 2 (by decide +kernel) (by decide +kernel), T_Orb, 7, rfl⟩
set_option maxRecDepth 20000 in
theorem v_Win_set : MV k_Win_set 1 := ⟨tb_in 450 (by decide +kernel) (by decide +kernel), tb_in 451 (by decide +kernel) (by decide +kernel), T_Win, 3, rfl⟩
set_option maxRecDepth 20000 in
theorem v_Orb_minute : MV k_Orb_minute 0 := ⟨tb_in 457 (by decide +kernel) (by decide +kernel), tb_in 458 (by decide +kernel) (by decide +kernel), T_Orb, 7, rfl⟩
set_option maxRecDepth 20000 in
theorem v_Orb_seen : MV k_Orb_seen 0 := ⟨tb_in 464 (by decide +kernel) (by decide +kernel), tb_in 465 (by decide +kernel) (by decide +kernel), T_Orb, 7, rfl⟩
set_option maxRecDepth 20000 in
theorem v_Win_isOpen : MV k_Win_isOpen 1 := ⟨tb_in 468 (by decide +kernel) (by decide +kernel), tb_in 469 (by decide +kernel) (by decide +kernel), T_Win, 3, rfl⟩
set_option maxRecDepth 20000 in
theorem v_Orb_receive : MV k_Orb_receive 0 := ⟨tb_in 476 (by decide +kernel) (by decide +kernel), tb_in 477 (by decide +kernel) (by decide +kernel), T_Orb, 7, rfl⟩
set_option maxRecDepth 20000 in
theorem v_Lan_put : MV k_Lan_put 7 := ⟨tb_in 495 (by decide +kernel) (by decide +kernel), tb_in 496 (by decide +kernel) (by decide +kernel), T_Lan, 3, rfl⟩
set_option maxRecDepth 20000 in
theorem v_Orb_takeFrames : MV k_Orb_takeFrames 0 := ⟨tb_in 500 (by decide +kernel) (by decide +kernel), tb_in 3 (by decide +kernel) (by decide +kernel), T_Orb, 7, rfl⟩
set_option maxRecDepth 20000 in
theorem v_Lan_look : MV k_Lan_look 7 := ⟨tb_in 503 (by decide +kernel) (by decide +kernel), tb_in 504 (by decide +kernel) (by decide +kernel), T_Lan, 3, rfl⟩
set_option maxRecDepth 20000 in
theorem v_Lan_toldLength : MV k_Lan_toldLength 7 := ⟨tb_in 510 (by decide +kernel) (by decide +kernel), tb_in 4 (by decide +kernel) (by decide +kernel), T_Lan, 3, rfl⟩
set_option maxRecDepth 20000 in
theorem v_Lan_checkHolds : MV k_Lan_checkHolds 7 := ⟨tb_in 514 (by decide +kernel) (by decide +kernel), tb_in 5 (by decide +kernel) (by decide +kernel), T_Lan, 3, rfl⟩
set_option maxRecDepth 20000 in
theorem s_Orb_check : Cond.static k_Orb_check.1 ∈ tb := tb_in 518 (by decide +kernel) (by decide +kernel)
set_option maxRecDepth 20000 in
theorem v_Lan_giveUp : MV k_Lan_giveUp 7 := ⟨tb_in 521 (by decide +kernel) (by decide +kernel), tb_in 522 (by decide +kernel) (by decide +kernel), T_Lan, 3, rfl⟩
set_option maxRecDepth 20000 in
theorem v_Lan_takeFrame : MV k_Lan_takeFrame 7 := ⟨tb_in 531 (by decide +kernel) (by decide +kernel), tb_in 532 (by decide +kernel) (by decide +kernel), T_Lan, 3, rfl⟩
set_option maxRecDepth 20000 in
theorem v_Frm_copy : MV k_Frm_copy 8 := ⟨tb_in 535 (by decide +kernel) (by decide +kernel), tb_in 536 (by decide +kernel) (by decide +kernel), T_Frm, 2, rfl⟩
set_option maxRecDepth 20000 in
theorem v_Ses_heed : MV k_Ses_heed 4 := ⟨tb_in 545 (by decide +kernel) (by decide +kernel), tb_in 546 (by decide +kernel) (by decide +kernel), T_Ses, 10, rfl⟩
set_option maxRecDepth 20000 in
theorem v_Frm_spacecraft : MV k_Frm_spacecraft 8 := ⟨tb_in 549 (by decide +kernel) (by decide +kernel), tb_in 550 (by decide +kernel) (by decide +kernel), T_Frm, 2, rfl⟩
set_option maxRecDepth 20000 in
theorem v_Frm_isDirective : MV k_Frm_isDirective 8 := ⟨tb_in 553 (by decide +kernel) (by decide +kernel), tb_in 554 (by decide +kernel) (by decide +kernel), T_Frm, 2, rfl⟩
set_option maxRecDepth 20000 in
theorem v_Ses_obey : MV k_Ses_obey 4 := ⟨tb_in 558 (by decide +kernel) (by decide +kernel), tb_in 6 (by decide +kernel) (by decide +kernel), T_Ses, 10, rfl⟩
set_option maxRecDepth 20000 in
theorem v_Frm_dataLength : MV k_Frm_dataLength 8 := ⟨tb_in 561 (by decide +kernel) (by decide +kernel), tb_in 562 (by decide +kernel) (by decide +kernel), T_Frm, 2, rfl⟩
set_option maxRecDepth 20000 in
theorem v_Frm_data : MV k_Frm_data 8 := ⟨tb_in 565 (by decide +kernel) (by decide +kernel), tb_in 566 (by decide +kernel) (by decide +kernel), T_Frm, 2, rfl⟩
set_option maxRecDepth 20000 in
theorem v_Frm_channel : MV k_Frm_channel 8 := ⟨tb_in 569 (by decide +kernel) (by decide +kernel), tb_in 570 (by decide +kernel) (by decide +kernel), T_Frm, 2, rfl⟩
set_option maxRecDepth 20000 in
theorem v_Ses_begin : MV k_Ses_begin 4 := ⟨tb_in 574 (by decide +kernel) (by decide +kernel), tb_in 7 (by decide +kernel) (by decide +kernel), T_Ses, 10, rfl⟩
set_option maxRecDepth 20000 in
theorem v_Ses_isOnFor : MV k_Ses_isOnFor 4 := ⟨tb_in 578 (by decide +kernel) (by decide +kernel), tb_in 8 (by decide +kernel) (by decide +kernel), T_Ses, 10, rfl⟩
set_option maxRecDepth 20000 in
theorem v_Ses_gather : MV k_Ses_gather 4 := ⟨tb_in 582 (by decide +kernel) (by decide +kernel), tb_in 9 (by decide +kernel) (by decide +kernel), T_Ses, 10, rfl⟩
set_option maxRecDepth 20000 in
theorem v_Har_clear : MV k_Har_clear 5 := ⟨tb_in 585 (by decide +kernel) (by decide +kernel), tb_in 586 (by decide +kernel) (by decide +kernel), T_Har, 5, rfl⟩
set_option maxRecDepth 20000 in
theorem v_Frm_form : MV k_Frm_form 8 := ⟨tb_in 589 (by decide +kernel) (by decide +kernel), tb_in 590 (by decide +kernel) (by decide +kernel), T_Frm, 2, rfl⟩
set_option maxRecDepth 20000 in
theorem v_Ses_appendData : MV k_Ses_appendData 4 := ⟨tb_in 594 (by decide +kernel) (by decide +kernel), tb_in 10 (by decide +kernel) (by decide +kernel), T_Ses, 10, rfl⟩
set_option maxRecDepth 20000 in
theorem v_Har_append : MV k_Har_append 5 := ⟨tb_in 597 (by decide +kernel) (by decide +kernel), tb_in 598 (by decide +kernel) (by decide +kernel), T_Har, 5, rfl⟩
set_option maxRecDepth 20000 in
theorem v_Har_findPackets : MV k_Har_findPackets 5 := ⟨tb_in 601 (by decide +kernel) (by decide +kernel), tb_in 602 (by decide +kernel) (by decide +kernel), T_Har, 5, rfl⟩
set_option maxRecDepth 20000 in
theorem v_Har_packetLengthAt : MV k_Har_packetLengthAt 5 := ⟨tb_in 606 (by decide +kernel) (by decide +kernel), tb_in 11 (by decide +kernel) (by decide +kernel), T_Har, 5, rfl⟩
set_option maxRecDepth 20000 in
theorem v_Ses_gatherSegment : MV k_Ses_gatherSegment 4 := ⟨tb_in 610 (by decide +kernel) (by decide +kernel), tb_in 12 (by decide +kernel) (by decide +kernel), T_Ses, 10, rfl⟩
set_option maxRecDepth 20000 in
theorem v_Har_findOneWholePacket : MV k_Har_findOneWholePacket 5 := ⟨tb_in 613 (by decide +kernel) (by decide +kernel), tb_in 614 (by decide +kernel) (by decide +kernel), T_Har, 5, rfl⟩
set_option maxRecDepth 20000 in
theorem v_Frm_isExpedited : MV k_Frm_isExpedited 8 := ⟨tb_in 617 (by decide +kernel) (by decide +kernel), tb_in 618 (by decide +kernel) (by decide +kernel), T_Frm, 2, rfl⟩
set_option maxRecDepth 20000 in
theorem v_Ses_admitExpedited : MV k_Ses_admitExpedited 4 := ⟨tb_in 622 (by decide +kernel) (by decide +kernel), tb_in 13 (by decide +kernel) (by decide +kernel), T_Ses, 10, rfl⟩
set_option maxRecDepth 20000 in
theorem v_Frm_number : MV k_Frm_number 8 := ⟨tb_in 625 (by decide +kernel) (by decide +kernel), tb_in 626 (by decide +kernel) (by decide +kernel), T_Frm, 2, rfl⟩
set_option maxRecDepth 20000 in
theorem v_Ses_admitSequenced : MV k_Ses_admitSequenced 4 := ⟨tb_in 630 (by decide +kernel) (by decide +kernel), tb_in 14 (by decide +kernel) (by decide +kernel), T_Ses, 10, rfl⟩
set_option maxRecDepth 20000 in
theorem v_Har_blocksOfAll : MV k_Har_blocksOfAll 5 := ⟨tb_in 633 (by decide +kernel) (by decide +kernel), tb_in 634 (by decide +kernel) (by decide +kernel), T_Har, 5, rfl⟩
set_option maxRecDepth 20000 in
theorem v_Sto_hasRoom : MV k_Sto_hasRoom 2 := ⟨tb_in 638 (by decide +kernel) (by decide +kernel), tb_in 639 (by decide +kernel) (by decide +kernel), T_Sto, 10, rfl⟩
set_option maxRecDepth 20000 in
theorem v_Ses_settleStream : MV k_Ses_settleStream 4 := ⟨tb_in 643 (by decide +kernel) (by decide +kernel), tb_in 15 (by decide +kernel) (by decide +kernel), T_Ses, 10, rfl⟩
set_option maxRecDepth 20000 in
theorem v_Str_hold : MV k_Str_hold 6 := ⟨tb_in 646 (by decide +kernel) (by decide +kernel), tb_in 647 (by decide +kernel) (by decide +kernel), T_Str, 3, rfl⟩
set_option maxRecDepth 20000 in
theorem v_Ses_keepWhatFits : MV k_Ses_keepWhatFits 4 := ⟨tb_in 652 (by decide +kernel) (by decide +kernel), tb_in 16 (by decide +kernel) (by decide +kernel), T_Ses, 10, rfl⟩
set_option maxRecDepth 20000 in
theorem v_Sto_add : MV k_Sto_add 2 := ⟨tb_in 655 (by decide +kernel) (by decide +kernel), tb_in 656 (by decide +kernel) (by decide +kernel), T_Sto, 10, rfl⟩
set_option maxRecDepth 20000 in
theorem v_Sto_writeBlocks : MV k_Sto_writeBlocks 2 := ⟨tb_in 662 (by decide +kernel) (by decide +kernel), tb_in 17 (by decide +kernel) (by decide +kernel), T_Sto, 10, rfl⟩
set_option maxRecDepth 20000 in
theorem v_Sto_write : MV k_Sto_write 2 := ⟨tb_in 668 (by decide +kernel) (by decide +kernel), tb_in 18 (by decide +kernel) (by decide +kernel), T_Sto, 10, rfl⟩
set_option maxRecDepth 20000 in
theorem v_Sto_renewFullJournal : MV k_Sto_renewFullJournal 2 := ⟨tb_in 672 (by decide +kernel) (by decide +kernel), tb_in 19 (by decide +kernel) (by decide +kernel), T_Sto, 10, rfl⟩
set_option maxRecDepth 20000 in
theorem v_Sto_enterAdded : MV k_Sto_enterAdded 2 := ⟨tb_in 676 (by decide +kernel) (by decide +kernel), tb_in 20 (by decide +kernel) (by decide +kernel), T_Sto, 10, rfl⟩
set_option maxRecDepth 20000 in
theorem v_Sto_markBlocks : MV k_Sto_markBlocks 2 := ⟨tb_in 680 (by decide +kernel) (by decide +kernel), tb_in 21 (by decide +kernel) (by decide +kernel), T_Sto, 10, rfl⟩
set_option maxRecDepth 20000 in
theorem v_Orb_report : MV k_Orb_report 0 := ⟨tb_in 686 (by decide +kernel) (by decide +kernel), tb_in 687 (by decide +kernel) (by decide +kernel), T_Orb, 7, rfl⟩
set_option maxRecDepth 20000 in
theorem v_Ses_reportWord : MV k_Ses_reportWord 4 := ⟨tb_in 690 (by decide +kernel) (by decide +kernel), tb_in 691 (by decide +kernel) (by decide +kernel), T_Ses, 10, rfl⟩
set_option maxRecDepth 20000 in
theorem v_Orb_send : MV k_Orb_send 0 := ⟨tb_in 699 (by decide +kernel) (by decide +kernel), tb_in 700 (by decide +kernel) (by decide +kernel), T_Orb, 7, rfl⟩
set_option maxRecDepth 20000 in
theorem v_Ear_emit : MV k_Ear_emit 9 := ⟨tb_in 718 (by decide +kernel) (by decide +kernel), tb_in 719 (by decide +kernel) (by decide +kernel), T_Ear, 3, rfl⟩
set_option maxRecDepth 20000 in
theorem v_Ear_putNumber : MV k_Ear_putNumber 9 := ⟨tb_in 723 (by decide +kernel) (by decide +kernel), tb_in 22 (by decide +kernel) (by decide +kernel), T_Ear, 3, rfl⟩
set_option maxRecDepth 20000 in
theorem v_Ear_fillZone : MV k_Ear_fillZone 9 := ⟨tb_in 727 (by decide +kernel) (by decide +kernel), tb_in 23 (by decide +kernel) (by decide +kernel), T_Ear, 3, rfl⟩
set_option maxRecDepth 20000 in
theorem s_Ear_pointerWith : Cond.static k_Ear_pointerWith.1 ∈ tb := tb_in 1006 (by decide +kernel) (by decide +kernel)
set_option maxRecDepth 20000 in
theorem v_Ear_emitPart : MV k_Ear_emitPart 9 := ⟨tb_in 1010 (by decide +kernel) (by decide +kernel), tb_in 24 (by decide +kernel) (by decide +kernel), T_Ear, 3, rfl⟩
set_option maxRecDepth 20000 in
theorem v_Sto_byteOf : MV k_Sto_byteOf 2 := ⟨tb_in 1013 (by decide +kernel) (by decide +kernel), tb_in 1014 (by decide +kernel) (by decide +kernel), T_Sto, 10, rfl⟩
set_option maxRecDepth 20000 in
theorem v_Sto_dropEmitted : MV k_Sto_dropEmitted 2 := ⟨tb_in 1019 (by decide +kernel) (by decide +kernel), tb_in 1020 (by decide +kernel) (by decide +kernel), T_Sto, 10, rfl⟩
set_option maxRecDepth 20000 in
theorem v_Sto_enterDropped : MV k_Sto_enterDropped 2 := ⟨tb_in 1024 (by decide +kernel) (by decide +kernel), tb_in 25 (by decide +kernel) (by decide +kernel), T_Sto, 10, rfl⟩
set_option maxRecDepth 20000 in
theorem v_Orb_sent : MV k_Orb_sent 0 := ⟨tb_in 1031 (by decide +kernel) (by decide +kernel), tb_in 1032 (by decide +kernel) (by decide +kernel), T_Orb, 7, rfl⟩
set_option maxRecDepth 20000 in
theorem v_Ear_hasByte : MV k_Ear_hasByte 9 := ⟨tb_in 1035 (by decide +kernel) (by decide +kernel), tb_in 1036 (by decide +kernel) (by decide +kernel), T_Ear, 3, rfl⟩
set_option maxRecDepth 20000 in
theorem v_Orb_fail : MV k_Orb_fail 0 := ⟨tb_in 1057 (by decide +kernel) (by decide +kernel), tb_in 1058 (by decide +kernel) (by decide +kernel), T_Orb, 7, rfl⟩
set_option maxRecDepth 20000 in
theorem v_Orb_store : MV k_Orb_store 0 := ⟨tb_in 1064 (by decide +kernel) (by decide +kernel), tb_in 1065 (by decide +kernel) (by decide +kernel), T_Orb, 7, rfl⟩
set_option maxRecDepth 20000 in
theorem v_Orb_packet : MV k_Orb_packet 0 := ⟨tb_in 1071 (by decide +kernel) (by decide +kernel), tb_in 1072 (by decide +kernel) (by decide +kernel), T_Orb, 7, rfl⟩
set_option maxRecDepth 20000 in
theorem v_Sto_has : MV k_Sto_has 2 := ⟨tb_in 1075 (by decide +kernel) (by decide +kernel), tb_in 1076 (by decide +kernel) (by decide +kernel), T_Sto, 10, rfl⟩
set_option maxRecDepth 20000 in
theorem v_Orb_content : MV k_Orb_content 0 := ⟨tb_in 1082 (by decide +kernel) (by decide +kernel), tb_in 1083 (by decide +kernel) (by decide +kernel), T_Orb, 7, rfl⟩
set_option maxRecDepth 20000 in
theorem v_Mod_thrown : MV k_Mod_thrown 10 := ⟨tb_in 1175 (by decide +kernel) (by decide +kernel), tb_in 1176 (by decide +kernel) (by decide +kernel), T_Mod, 27, rfl⟩
set_option maxRecDepth 20000 in
theorem v_Mod_window : MV k_Mod_window 10 := ⟨tb_in 1179 (by decide +kernel) (by decide +kernel), tb_in 1180 (by decide +kernel) (by decide +kernel), T_Mod, 27, rfl⟩
set_option maxRecDepth 20000 in
theorem v_Mod_minute : MV k_Mod_minute 10 := ⟨tb_in 1183 (by decide +kernel) (by decide +kernel), tb_in 1184 (by decide +kernel) (by decide +kernel), T_Mod, 27, rfl⟩
set_option maxRecDepth 20000 in
theorem v_Mod_seen : MV k_Mod_seen 10 := ⟨tb_in 1187 (by decide +kernel) (by decide +kernel), tb_in 1188 (by decide +kernel) (by decide +kernel), T_Mod, 27, rfl⟩
set_option maxRecDepth 20000 in
theorem v_Mod_seenBy : MV k_Mod_seenBy 10 := ⟨tb_in 1192 (by decide +kernel) (by decide +kernel), tb_in 26 (by decide +kernel) (by decide +kernel), T_Mod, 27, rfl⟩
set_option maxRecDepth 20000 in
theorem v_Mod_receive : MV k_Mod_receive 10 := ⟨tb_in 1195 (by decide +kernel) (by decide +kernel), tb_in 1196 (by decide +kernel) (by decide +kernel), T_Mod, 27, rfl⟩
set_option maxRecDepth 20000 in
theorem v_Mod_byteIn : MV k_Mod_byteIn 10 := ⟨tb_in 1200 (by decide +kernel) (by decide +kernel), tb_in 27 (by decide +kernel) (by decide +kernel), T_Mod, 27, rfl⟩
set_option maxRecDepth 20000 in
theorem v_Mod_look : MV k_Mod_look 10 := ⟨tb_in 1204 (by decide +kernel) (by decide +kernel), tb_in 28 (by decide +kernel) (by decide +kernel), T_Mod, 27, rfl⟩
set_option maxRecDepth 20000 in
theorem v_Mod_checked : MV k_Mod_checked 10 := ⟨tb_in 1208 (by decide +kernel) (by decide +kernel), tb_in 29 (by decide +kernel) (by decide +kernel), T_Mod, 27, rfl⟩
set_option maxRecDepth 20000 in
theorem v_Mod_taken : MV k_Mod_taken 10 := ⟨tb_in 1213 (by decide +kernel) (by decide +kernel), tb_in 30 (by decide +kernel) (by decide +kernel), T_Mod, 27, rfl⟩
set_option maxRecDepth 20000 in
theorem v_Mod_directive : MV k_Mod_directive 10 := ⟨tb_in 1217 (by decide +kernel) (by decide +kernel), tb_in 31 (by decide +kernel) (by decide +kernel), T_Mod, 27, rfl⟩
set_option maxRecDepth 20000 in
theorem v_Mod_packetsIn : MV k_Mod_packetsIn 10 := ⟨tb_in 1221 (by decide +kernel) (by decide +kernel), tb_in 32 (by decide +kernel) (by decide +kernel), T_Mod, 27, rfl⟩
set_option maxRecDepth 20000 in
theorem s_Mod_packetAt : Cond.static k_Mod_packetAt.1 ∈ tb := tb_in 1224 (by decide +kernel) (by decide +kernel)
set_option maxRecDepth 20000 in
theorem s_Mod_blocksOf : Cond.static k_Mod_blocksOf.1 ∈ tb := tb_in 1227 (by decide +kernel) (by decide +kernel)
set_option maxRecDepth 20000 in
theorem v_Mod_freeBlocks : MV k_Mod_freeBlocks 10 := ⟨tb_in 1231 (by decide +kernel) (by decide +kernel), tb_in 33 (by decide +kernel) (by decide +kernel), T_Mod, 27, rfl⟩
set_option maxRecDepth 20000 in
theorem v_Mod_isFree : MV k_Mod_isFree 10 := ⟨tb_in 1235 (by decide +kernel) (by decide +kernel), tb_in 34 (by decide +kernel) (by decide +kernel), T_Mod, 27, rfl⟩
set_option maxRecDepth 20000 in
theorem v_Mod_keepPacket : MV k_Mod_keepPacket 10 := ⟨tb_in 1239 (by decide +kernel) (by decide +kernel), tb_in 35 (by decide +kernel) (by decide +kernel), T_Mod, 27, rfl⟩
set_option maxRecDepth 20000 in
theorem v_Mod_write : MV k_Mod_write 10 := ⟨tb_in 1243 (by decide +kernel) (by decide +kernel), tb_in 36 (by decide +kernel) (by decide +kernel), T_Mod, 27, rfl⟩
set_option maxRecDepth 20000 in
theorem v_Mod_journal : MV k_Mod_journal 10 := ⟨tb_in 1247 (by decide +kernel) (by decide +kernel), tb_in 37 (by decide +kernel) (by decide +kernel), T_Mod, 27, rfl⟩
set_option maxRecDepth 20000 in
theorem v_Mod_segmentIn : MV k_Mod_segmentIn 10 := ⟨tb_in 1251 (by decide +kernel) (by decide +kernel), tb_in 38 (by decide +kernel) (by decide +kernel), T_Mod, 27, rfl⟩
set_option maxRecDepth 20000 in
theorem v_Mod_goesOn : MV k_Mod_goesOn 10 := ⟨tb_in 1255 (by decide +kernel) (by decide +kernel), tb_in 39 (by decide +kernel) (by decide +kernel), T_Mod, 27, rfl⟩
set_option maxRecDepth 20000 in
theorem v_Mod_leave : MV k_Mod_leave 10 := ⟨tb_in 1259 (by decide +kernel) (by decide +kernel), tb_in 40 (by decide +kernel) (by decide +kernel), T_Mod, 27, rfl⟩
set_option maxRecDepth 20000 in
theorem v_Mod_report : MV k_Mod_report 10 := ⟨tb_in 1262 (by decide +kernel) (by decide +kernel), tb_in 1263 (by decide +kernel) (by decide +kernel), T_Mod, 27, rfl⟩
set_option maxRecDepth 20000 in
theorem v_Mod_send : MV k_Mod_send 10 := ⟨tb_in 1267 (by decide +kernel) (by decide +kernel), tb_in 1268 (by decide +kernel) (by decide +kernel), T_Mod, 27, rfl⟩
set_option maxRecDepth 20000 in
theorem v_Mod_fill : MV k_Mod_fill 10 := ⟨tb_in 1273 (by decide +kernel) (by decide +kernel), tb_in 41 (by decide +kernel) (by decide +kernel), T_Mod, 27, rfl⟩
set_option maxRecDepth 20000 in
theorem v_Mod_check16 : MV k_Mod_check16 10 := ⟨tb_in 1277 (by decide +kernel) (by decide +kernel), tb_in 42 (by decide +kernel) (by decide +kernel), T_Mod, 27, rfl⟩
set_option maxRecDepth 20000 in
theorem v_Mod_drop : MV k_Mod_drop 10 := ⟨tb_in 1282 (by decide +kernel) (by decide +kernel), tb_in 43 (by decide +kernel) (by decide +kernel), T_Mod, 27, rfl⟩
set_option maxRecDepth 20000 in
theorem v_Mod_sent : MV k_Mod_sent 10 := ⟨tb_in 1285 (by decide +kernel) (by decide +kernel), tb_in 1286 (by decide +kernel) (by decide +kernel), T_Mod, 27, rfl⟩
set_option maxRecDepth 20000 in
theorem v_Mod_fail : MV k_Mod_fail 10 := ⟨tb_in 1289 (by decide +kernel) (by decide +kernel), tb_in 1290 (by decide +kernel) (by decide +kernel), T_Mod, 27, rfl⟩
set_option maxRecDepth 20000 in
theorem v_Mod_power : MV k_Mod_power 10 := ⟨tb_in 1293 (by decide +kernel) (by decide +kernel), tb_in 1294 (by decide +kernel) (by decide +kernel), T_Mod, 27, rfl⟩
set_option maxRecDepth 20000 in
theorem v_Mod_out : MV k_Mod_out 10 := ⟨tb_in 1297 (by decide +kernel) (by decide +kernel), tb_in 1298 (by decide +kernel) (by decide +kernel), T_Mod, 27, rfl⟩
set_option maxRecDepth 20000 in
theorem v_Mod_store : MV k_Mod_store 10 := ⟨tb_in 1301 (by decide +kernel) (by decide +kernel), tb_in 1302 (by decide +kernel) (by decide +kernel), T_Mod, 27, rfl⟩
set_option maxRecDepth 20000 in
theorem v_Mod_packet : MV k_Mod_packet 10 := ⟨tb_in 1305 (by decide +kernel) (by decide +kernel), tb_in 1306 (by decide +kernel) (by decide +kernel), T_Mod, 27, rfl⟩
set_option maxRecDepth 20000 in
theorem v_Mod_content : MV k_Mod_content 10 := ⟨tb_in 1309 (by decide +kernel) (by decide +kernel), tb_in 1310 (by decide +kernel) (by decide +kernel), T_Mod, 27, rfl⟩
theorem g_mark : Cond.fieldLink "RelayOrbiter$LanderLink" 36 "RelayOrbiter$LanderLink" "MARK" "[I" ∈ tb := tb_in 506 (by decide +kernel) (by decide +kernel)
set_option maxRecDepth 20000 in
theorem c_Lan_55 : Cond.constant "RelayOrbiter$LanderLink" 55 10487813 ∈ tb := tb_in 516 (by decide +kernel) (by decide +kernel)
set_option maxRecDepth 20000 in
theorem c_Ses_56 : Cond.constant "RelayOrbiter$Session" 56 32768 ∈ tb := tb_in 693 (by decide +kernel) (by decide +kernel)
set_option maxRecDepth 20000 in
theorem c_Ear_30 : Cond.constant "RelayOrbiter$EarthLink" 30 65535 ∈ tb := tb_in 1016 (by decide +kernel) (by decide +kernel)
set_option maxRecDepth 20000 in
theorem c_Mod_139 : Cond.constant "RelayOrbiterModel" 139 10487813 ∈ tb := tb_in 1210 (by decide +kernel) (by decide +kernel)
set_option maxRecDepth 20000 in
theorem c_Mod_157 : Cond.constant "RelayOrbiterModel" 157 32768 ∈ tb := tb_in 1265 (by decide +kernel) (by decide +kernel)
set_option maxRecDepth 20000 in
theorem c_Mod_158 : Cond.constant "RelayOrbiterModel" 158 16777215 ∈ tb := tb_in 1270 (by decide +kernel) (by decide +kernel)
set_option maxRecDepth 20000 in
theorem c_Mod_153 : Cond.constant "RelayOrbiterModel" 153 65535 ∈ tb := tb_in 1279 (by decide +kernel) (by decide +kernel)
end
section
def zQp (ad0 : Nat → Nat) (r : Value) : Array Value → State → Outcome → State → Prop := fun _ st o t => o = .returned (some (zV ad0 r)) ∧ t.heap = st.heap
/-- A CONTRACT THAT ONLY READS: the answer is r -/
def PT (l : Launch) (D : va_G) (dA : Nat → ClassId) (k : zK) (d n : Nat) (as : List Value) (h : Nat → va_E) (r : Value) : Prop :=
  ∀ (ad0 : Nat → Nat) (sz : Nat), Met l k.1 [Cond.code k.1 k.2.1 k.2.2.1 k.2.2.2] (zR d 0 0) (zPc D dA ad0 h n sz as) (zQp ad0 r) 0 0 (fun _ => False)
section ZX
variable {D : va_G} {dA : Nat → ClassId} {A : Nat → Prop} {Φ : Heap → List Loc → Prop} {ad0 : Nat → Nat} {n0 nL : Nat} {p : Program} {l : Launch} {e : Env} {R : Room} {s : State} {m : MethodId} {args : Array Value} {below : List Frame} {meth : Method} {c : Code} {Q : State → Prop} {pc : Nat} {lv : List (Option Value)} {st : List Value} {h : Nat → va_E} {n kc ks : Nat} {own : String} {cc : ByteArray}
theorem zEnter {k : zK} {d mc ms n sz : Nat} {as : List Value} {ad0 : Nat → Nat} {args : Array Value} {s₁ : State} {S : Spec} (hS : S.room = zR d mc ms) (B : BodyLoose p l k.1 S k.2.1 k.2.2.1 k.2.2.2 e s m args below meth c s₁) (hml : c.maxLocals = k.2.2.1) (hv : zPc D dA ad0 h n sz as args s) :
    args = (as.map (zV ad0)).toArray ∧ va_P D cls (wl dA ad0 h n) s.heap ∧ va_D (zA ad0 n s.heap.size) (wl dA ad0 h n) ∧ Cx D dA (zA ad0 n s.heap.size) ad0 k.1.cls k.2.1 k.2.2.1 p (zR d mc ms) s m args meth c := by
  obtain ⟨rfl, hsz, hP, hD0, hK, hT, hRO⟩ := hv
  subst hsz
  have hown : s.vm.findClass k.1.cls = some m.cls := findClass_of_methodNamed B.named
  refine ⟨rfl, hP, ⟨hD0.1, fun i q hq => ?_⟩, B.exec, B.bytes, hml, hown, hT.use _, hK, fun q hq => Or.inr hq, B.notSynchronized, hRO, hT, by unfold zR; simp; omega, by unfold zR; simp; omega⟩
  obtain ⟨hi, rfl⟩ := wl_lt hq
  exact Or.inl ⟨i, hi, rfl⟩
theorem PT.of {k : zK} {d : Nat} {as : List Value} {r : Value} (hy : plainName k.1.cls = true) (hl : as.length ≤ k.2.2.1) (hc : ∀ v ∈ as, v.category = 1)
    (body : ∀ (A : Nat → Prop) (ad0 : Nat → Nat) (p : Program) (e : Env) (s : State) (m : MethodId) (args : Array Value) (below : List Frame) (meth : Method) (c : Code), Cx D dA A ad0 k.1.cls k.2.1 k.2.2.1 p (zR d 0 0) s m args meth c → meth.sig.returnType = k.2.2.2 →
      J D dA A (fun H locs => H = s.heap ∧ locs = []) ad0 n k.2.2.1 p l e (zR d 0 0) s m args below meth c (MQ below (zQp ad0 r) args s 0 0 (fun _ => False)) 0 (zLv as k.2.2.1) [] h n 0 0) : PT l D dA k d n as h r := by
  intro ad0 sz
  refine Met.ofW (cc := k.2.1) (maxL := k.2.2.1) (ret := k.2.2.2) (ws' := []) hy rfl ?_
  intro p e s m args below meth c s₁ B hml hv
  obtain ⟨rfl, hP, hD, C⟩ := zEnter (d := d) (mc := 0) (ms := 0) rfl B hml hv
  rw [lg_entry_eq]
  exact body _ ad0 p e s m _ below meth c C B.returns ad0 s.heap [] _ (fun _ _ => rfl) hP hD va_S.rf ⟨rfl, rfl⟩ (LV.entry hc hl)
theorem P_iret (C : Cx D dA A ad0 own cc nL p R s m args meth c) {v : Int32} (hr : meth.sig.returnType = some .int) (hd : decode cc pc = .ok (.ireturn, 1)) : J D dA A (fun H locs => H = s.heap ∧ locs = []) ad0 n nL p l e R s m args below meth c (MQ below (zQp ad0 (.int v)) args s 0 0 (fun _ => False)) (pc) (lv) ([.int v]) (h) n 0 0 := by
  intro ad H locs ls h0 hP hD hS hF hL
  obtain ⟨rfl, rfl⟩ := hF
  exact W.iret C.1 C.2.1 hr (fun t ht hW => ⟨rfl, ht⟩) (fun q hq => by cases hq) hd (hlocks := C.2.2.2.2.2.2.2.1)
theorem P_zret (C : Cx D dA A ad0 own cc nL p R s m args meth c) {v : Int32} (hr : meth.sig.returnType = some .boolean) (hv : v = 0 ∨ v = 1) (hd : decode cc pc = .ok (.ireturn, 1)) : J D dA A (fun H locs => H = s.heap ∧ locs = []) ad0 n nL p l e R s m args below meth c (MQ below (zQp ad0 (.int v)) args s 0 0 (fun _ => False)) (pc) (lv) ([.int v]) (h) n 0 0 := by
  intro ad H locs ls h0 hP hD hS hF hL
  obtain ⟨rfl, rfl⟩ := hF
  exact W.zret C.1 C.2.1 hr (by rcases hv with rfl | rfl <;> rfl) (fun t ht hW => ⟨rfl, ht⟩) (fun q hq => by cases hq) hd (hlocks := C.2.2.2.2.2.2.2.1)
theorem P_aret (C : Cx D dA A ad0 own cc nL p R s m args meth c) {x : Nat} {T : String} (hr : meth.sig.returnType = some (.object T)) (hd : decode cc pc = .ok (.areturn, 1)) : J D dA A (fun H locs => H = s.heap ∧ locs = []) ad0 n nL p l e R s m args below meth c (MQ below (zQp ad0 (.ref x)) args s 0 0 (fun _ => False)) (pc) (lv) ([.ref x]) (h) n 0 0 := by
  intro ad H locs ls h0 hP hD hS hF hL
  obtain ⟨rfl, rfl⟩ := hF
  obtain rfl : ad = ad0 := funext fun k => h0 k (Nat.lt_or_ge k n)
  exact W.aret C.1 C.2.1 hr (Or.inl ⟨T, rfl⟩) (Or.inr ⟨_, rfl⟩) (fun t ht hW => ⟨rfl, ht⟩) (fun q hq => by cases hq) hd (hlocks := C.2.2.2.2.2.2.2.1)
theorem zAfterP {ls : Array Slot} {as rest : List Value} {r : Value} {ad : Nat → Nat} {H : Heap} {locs : List Loc} {av : Array Value} (hrun : va_Run p l e R s m args below meth c H locs kc ks 0 0 (F0 m pc ls as) rest (zQp ad r av) (fun _ => False))
    (kk : W p l e R s m args below meth c H locs kc ks Q (F0 m (pc + 3) ls (zV ad r :: rest))) : W p l e R s m args below meth c H locs kc ks Q (F0 m pc ls as) := by
  intro T hT X
  obtain ⟨v, st₀, t, T', L, e0, X', hL', e1, e2, ⟨hv, hh⟩, st⟩ := hrun T hT X
  cases hv
  obtain ⟨t2, a1, b1⟩ := kk T' (by rw [e1, hh, e0]) (Stand.forget X' (fun q h => (hL' q h).elim))
  exact ⟨t2, st t2 a1, b1⟩
theorem P_callV (C : Cx D dA A ad0 own cc nL p R s m args meth c) {k : zK} {idx d np ci b : Nat} {as fs : List Value} {r : Value} (hM : PT l D dA k d n (.ref b :: as) h r) (hl : ML own idx k np) (hv : MV k ci) (hb : b < n) (he : h b = .inr (ci, fs)) (hn : as.length = np) (hn1 : n ≤ 1000) (hR : d + 11 ≤ R.frames ∧ k.2.2.1 + 319 + 60 * d ≤ R.locals) (hcap : kc + 0 ≤ R.cells ∧ ks + 0 ≤ R.slots) (hst : zCat st ≤ 8) (hd : decode cc pc = .ok (.invokevirtual idx, 3))
    (kk : J D dA A Φ ad0 n0 nL p l e R s m args below meth c Q (pc + 3) (lv) (r :: st) (h) n kc ks) : J D dA A Φ ad0 n0 nL p l e R s m args below meth c Q (pc) (lv) (as.reverse ++ .ref b :: st) (h) n kc ks := by
  intro ad H locs ls h0 hP hD hS hF hL
  have hpre := zPre (as := .ref b :: as) C h0 hn1 hP hD hS
  have hstk : (as.reverse ++ .ref b :: st).map (zV ad) = (as.map (zV ad)).reverse ++ .ref (ad b) :: st.map (zV ad) := by simp [zV]
  have hrun : va_Run p l e R s m args below meth c H locs kc ks 0 0 (F0 m pc ls ((as.reverse ++ .ref b :: st).map (zV ad))) (st.map (zV ad)) (zQp ad r (Value.ref (ad b) :: as.map (zV ad)).toArray) (fun _ => False) := by
    rcases hl.1 with hlk | ⟨host, hlk⟩
    · exact va_runV (C := k.1.cls) (b := ad b) ⟨C.1, C.2.1, C.2.2.1, C.2.2.2.1, C.2.2.2.2.1⟩ (hM ad H.size) ⟨zCb C hl.2 hlk hR, C.2.2.2.2.1 _ hv.1, C.2.2.2.2.1 _ hv.2.1⟩ ⟨zPc_blind, zRecv C hv.2.2 hb he hP, hpre⟩ rfl (by rw [List.length_map]; exact hn) hL.1 hstk (lv_room (by rw [zCat_map]; exact hst)) hd hcap
    · exact va_runVN (C := k.1.cls) (b := ad b) ⟨C.1, C.2.1, C.2.2.1, C.2.2.2.1, C.2.2.2.2.1⟩ (hM ad H.size) ⟨zCn C hl.2 hlk hR, C.2.2.2.2.1 _ hv.1, C.2.2.2.2.1 _ hv.2.1⟩ ⟨zPc_blind, zRecv C hv.2.2 hb he hP, hpre⟩ rfl (by rw [List.length_map]; exact hn) hL.1 hstk (lv_room (by rw [zCat_map]; exact hst)) hd hcap
  exact zAfterP hrun (kk ad H locs ls h0 hP hD hS hF hL)
theorem P_callS (C : Cx D dA A ad0 own cc nL p R s m args meth c) {k : zK} {idx d np : Nat} {as : List Value} {r : Value} (hM : PT l D dA k d n as h r) (hl : ML own idx k np) (hv : Cond.static k.1 ∈ tb) (hn : as.length = np) (hn1 : n ≤ 1000) (hR : d + 11 ≤ R.frames ∧ k.2.2.1 + 319 + 60 * d ≤ R.locals) (hcap : kc + 0 ≤ R.cells ∧ ks + 0 ≤ R.slots) (hst : zCat st ≤ 8) (hd : decode cc pc = .ok (.invokestatic idx, 3))
    (kk : J D dA A Φ ad0 n0 nL p l e R s m args below meth c Q (pc + 3) (lv) (r :: st) (h) n kc ks) : J D dA A Φ ad0 n0 nL p l e R s m args below meth c Q (pc) (lv) (as.reverse ++ st) (h) n kc ks := by
  intro ad H locs ls h0 hP hD hS hF hL
  have hpre := zPre (as := as) C h0 hn1 hP hD hS
  have hstk : (as.reverse ++ st).map (zV ad) = (as.map (zV ad)).reverse ++ st.map (zV ad) := by simp
  have hrun : va_Run p l e R s m args below meth c H locs kc ks 0 0 (F0 m pc ls ((as.reverse ++ st).map (zV ad))) (st.map (zV ad)) (zQp ad r (as.map (zV ad)).toArray) (fun _ => False) := by
    rcases hl.1 with hlk | ⟨host, hlk⟩
    · exact va_runS ⟨C.1, C.2.1, C.2.2.1, C.2.2.2.1, C.2.2.2.2.1⟩ (hM ad H.size) ⟨zCb C hl.2 hlk hR, C.2.2.2.2.1 _ hv⟩ ⟨zPc_blind, hpre⟩ rfl (by rw [List.length_map]; exact hn) hL.1 hstk (lv_room (by rw [zCat_map]; exact hst)) hd hcap
    · exact va_runSN ⟨C.1, C.2.1, C.2.2.1, C.2.2.2.1, C.2.2.2.2.1⟩ (hM ad H.size) ⟨zCn C hl.2 hlk hR, C.2.2.2.2.1 _ hv, trivial⟩ ⟨zPc_blind, hpre⟩ rfl (by rw [List.length_map]; exact hn) hL.1 hstk (lv_room (by rw [zCat_map]; exact hst)) hd hcap
  exact zAfterP hrun (kk ad H locs ls h0 hP hD hS hF hL)
-- throwing
def zQx (X : String) : Array Value → State → Outcome → State → Prop := fun _ st o t => ∃ (a : Addr) (ce : Cell), o = .threw a ∧ st.WarmedH t.vm ∧ st.sameButNew ({ t with vm := st.vm } : State) [] 1 6 ∧ t.heap[a]? = some ce ∧ st.vm.findClass X = some ce.cls ∧ ce.vm = .none
def XT (l : Launch) (D : va_G) (dA : Nat → ClassId) (k : zK) (d n : Nat) (as : List Value) (h : Nat → va_E) (X : String) : Prop :=
  ∀ (ad0 : Nat → Nat) (sz : Nat), MetFree l k.1 (headSpec [Cond.code k.1 k.2.1 k.2.2.1 k.2.2.2] (zR d 1 6)) (zPc D dA ad0 h n sz as) (fun _ _ _ _ _ => True) (zQx X)
def MX (below : List Frame) (X : String) (args : Array Value) (s : State) : State → Prop := fun t => ∃ o, t.status = .running ∧ Ended t below o ∧ zQx X args s o t
theorem XT.of {k : zK} {d : Nat} {as : List Value} {X : String} (hy : plainName k.1.cls = true) (hl : as.length ≤ k.2.2.1) (hc : ∀ v ∈ as, v.category = 1)
    (body : ∀ (A : Nat → Prop) (ad0 : Nat → Nat) (p : Program) (e : Env) (s : State) (m : MethodId) (args : Array Value) (below : List Frame) (meth : Method) (c : Code), Cx D dA A ad0 k.1.cls k.2.1 k.2.2.1 p (zR d 1 6) s m args meth c → c.exceptionTable.isEmpty = true →
      J D dA A (fun H locs => H = s.heap ∧ locs = []) ad0 n k.2.2.1 p l e (zR d 1 6) s m args below meth c (MX below X args s) 0 (zLv as k.2.2.1) [] h n 0 0) : XT l D dA k d n as h X := by
  intro ad0 sz
  refine MetFree.of_bodyS (code := k.2.1) (maxLocals := k.2.2.1) (ret := k.2.2.2) hy ?_ ?_
  · intro args s m h hn
    obtain ⟨meth, c, h1, h2, h3, h4, h5, h6, -, -⟩ := Cond.code_spec hn (atoms_spec (ws := [Cond.code k.1 k.2.1 k.2.2.1 k.2.2.2]) h _ List.mem_cons_self)
    exact ⟨meth, c, h1, h2, h3, h4, h5, h6⟩
  · intro p e s m args below meth c s₁ B hml hv _
    have hnoh := BodyLoose.noHandlers B (atoms_spec (ws := [Cond.code k.1 k.2.1 k.2.2.1 k.2.2.2]) B.pre _ List.mem_cons_self)
    obtain ⟨rfl, hP, hD, C⟩ := zEnter (d := d) (mc := 1) (ms := 6) rfl B hml hv
    have b := body _ ad0 p e s m _ below meth c C hnoh ad0 s.heap [] _ (fun _ _ => rfl) hP hD va_S.rf ⟨rfl, rfl⟩ (LV.entry hc hl)
    rw [lg_entry_eq]
    have hh0 : s₁.heap = s.heap := by rw [B.state]; rfl
    obtain ⟨t, a1, o, b1, b2, b3⟩ := b s₁ hh0 (Stand.of_body B)
    exact ⟨t, o, a1, b1, b2, b3⟩
def zIsSC (w : Cond) : Bool := match w with
  | .laysStatic a b d => (a == "java/lang/Throwable") && ((b == "UNASSIGNED_STACK" && d == "[Ljava/lang/StackTraceElement;") || (b == "SUPPRESSED_SENTINEL" && d == "Ljava/util/List;"))
  | .isRef (.static a b d) => (a == "java/lang/Throwable") && ((b == "UNASSIGNED_STACK" && d == "[Ljava/lang/StackTraceElement;") || (b == "SUPPRESSED_SENTINEL" && d == "Ljava/util/List;"))
  | _ => false
theorem zSC_word (C : Cx D dA A ad0 own cc nL p R s m args meth c) {w : Cond} (h : zIsSC w = true) : w.before args s = true := by
  have hRO := C.2.2.2.2.2.2.2.2.1
  unfold zIsSC at h
  split at h
  · simp only [Bool.and_eq_true, Bool.or_eq_true, beq_iff_eq] at h
    obtain ⟨rfl, ⟨rfl, rfl⟩ | ⟨rfl, rfl⟩⟩ := h
    · exact hRO.2.2.1.lays
    · exact hRO.2.2.2.lays
  · simp only [Bool.and_eq_true, Bool.or_eq_true, beq_iff_eq] at h
    obtain ⟨rfl, ⟨rfl, rfl⟩ | ⟨rfl, rfl⟩⟩ := h
    · exact hRO.2.2.1.isRef
    · exact hRO.2.2.2.isRef
  · cases h
theorem J_throw (C : Cx D dA A ad0 own cc nL p R s m args meth c) {d idx ic : Nat} {X : String} {names : List String} (hfl : l.flags = pinnedFlags ++ [noTraceFlag]) (hRR : R = zR d 1 6) (hnoh : c.exceptionTable.isEmpty = true) (hcl : Cond.classLink own idx X ∈ tb) (hins : Cond.instantiable X 6 ∈ tb) (hini : Cond.initialized X ∈ tb) (hX : Bundle.fit X = true) (hnm : ∀ n ∈ names, Bundle.fit n = true) (hat : ∀ w ∈ Bundle.ownAtoms0 own ic X names, w ∈ tb ∨ zIsSC w = true) (hlen : names.length ≤ 3) (hst : zCat st ≤ 8)
    (hd0 : decode cc pc = .ok (.new idx, 3)) (hd1 : decode cc (pc + 3) = .ok (.dup, 1)) (hd2 : decode cc (pc + 4) = .ok (.invokespecial ic, 3)) (hd3 : decode cc (pc + 7) = .ok (.athrow, 1)) :
    J D dA A (fun H locs => H = s.heap ∧ locs = []) ad0 n nL p l e R s m args below meth c (MX below X args s) pc lv st h n 0 0 := by
  intro ad H locs ls h0 hP hD hS hF hL
  obtain ⟨rfl, rfl⟩ := hF
  subst hRR
  refine W.newc C.1 C.2.1 C.2.2.2.1 (C.2.2.2.2.1 _ hcl) (C.2.2.2.2.1 _ hins) (C.2.2.2.2.1 _ hini) rfl hd0 (by show 0 + 1 ≤ 1; omega) (by show 0 + 6 ≤ 6; omega) (fun cC kC hf hk hord hsz => ?_)
  refine W.eq (g2 := F0 m (pc + 3) ls (.ref s.heap.size :: st.map (zV ad))) rfl ?_
  refine lv_dup C.1 C.2.1 hd1 rfl ?_
  intro T hT Y
  have hcell : T.heap[s.heap.size]? = some (freshCell cC kC) := by rw [hT, Array.getElem?_push_size]
  have hemp : c.exceptionTable.toList = [] := by
    have h1 : c.exceptionTable.size = 0 := by simpa [Array.isEmpty] using hnoh
    exact List.eq_nil_of_length_eq_zero (by simpa using h1)
  have hcat : (((Value.ref s.heap.size :: st.map (zV ad)).map fun v => v.category).sum) ≤ 9 := by
    rw [List.map_cons, List.sum_cons, zCat_map]
    show 1 + zCat st ≤ 9
    omega
  obtain ⟨U, st1, hrun, hend, hW, hsame, ce, hce, hoc⟩ := Y.ctorThrow0 C.1 (Launch.traces_off hfl Y.admits) C.2.2.2.1 hX hnm
    (fun a ha => (hat a ha).elim (fun q => C.2.2.2.2.1 _ q) (fun q => zSC_word C q)) (fun x hx => by cases hx) hf hk hcell (Nat.le_refl _)
    (g := F0 m (pc + 3 + 1) ls (.ref s.heap.size :: .ref s.heap.size :: st.map (zV ad))) rfl (by rw [C.2.2.1]; exact hL.1) rfl rfl rfl (by rw [C.2.1]; exact hd2) (by rw [C.2.1]; exact hd3) (by rw [hemp]; intro x hx; cases hx)
    (by show names.length + 3 < 10 + d; omega) (by show 2 * 0 + _ + (13 * (names.length + 1) + 41) ≤ 300 + 60 * d; omega) (hlocks := C.2.2.2.2.2.2.2.1)
  exact ⟨U, st1, .threw _, hrun, hend, _, ce, rfl, hW, hsame, hce, hoc.cls, hoc.vm⟩
end ZX
end
section
/-- what the search for a handler gives, and the tables that it leaves -/
def zFT (e : Env) (S : State) (f : JFrame) (a : Addr) (hd : Handler) (vm' : Vm) : Prop := ∀ (Q : Handler → Pre) (E : CtlPost) (d : Bool) (acts : List Action), wp (findHandler f a) Q E e d acts S ↔ Q hd d acts (S.setVm vm')
theorem zGoL {e : Env} {S : State} {f : JFrame} {a : Addr} {Q : Handler → Pre} {E : CtlPost} {d : Bool} {acts : List Action} {x : ExceptionTableEntry} {t : List ExceptionTableEntry} {c : ClassId} {cell : Cell} (b : Bool) (hx : covers x f.pc = true) (h0 : x.catchType ≠ 0) (hl : S.vm.ClassLinks e.platform f.method.cls x.catchType c) (hcell : S.heap[a]? = some cell) (hobj : ∀ k, cell.vm ≠ .statics k) (hk : ∃ k, S.vm.classes[cell.cls]? = some k) (hc : ∃ k, S.vm.classes[c]? = some k) (hb : S.vm.assignable cell.cls c = b) :
    wp (findHandler.go f a (x :: t)) Q E e d acts S ↔ (if b = true then Q (.found x.handlerPc) d acts (S.setVm (S.vm.noted f.method.cls x.catchType (.cls c))) else wp (findHandler.go f a t) Q E e d acts (S.setVm (S.vm.noted f.method.cls x.catchType (.cls c)))) := by
  simp only [covers] at hx
  obtain ⟨ha, ht⟩ := (resolveClass_links e.toSetting hl).op (op := VmOp.resolveClass f.method.cls x.catchType) rfl
  have hal : S.vm.Alike (S.vm.noted f.method.cls x.catchType (.cls c)) := (Vm.Alike.refl S.vm).noted _ _ _
  obtain ⟨k1, hk1⟩ := hk
  obtain ⟨k2, hk2⟩ := hc
  obtain ⟨k1', hk1', -⟩ := hal.2.2 _ _ hk1
  obtain ⟨k2', hk2', -⟩ := hal.2.2 _ _ hk2
  have hfit : (S.vm.noted f.method.cls x.catchType (.cls c)).assignable cell.cls c = b := by rw [hal.assignable]; exact hb
  cases b <;> simp [findHandler.go, hx, h0, ha, ht, hcell, hobj, hk1', hk2', hfit, VmOp.dirties, VmOp.acts]
/-- an entry that is passed: it covers the place, its class links, the thrown class can't be cast to it -/
def zPs (pl : Platform) (s₀ : State) (d : ClassId) (pc : Nat) (th : ClassId) (y : ExceptionTableEntry) : Prop := covers y pc = true ∧ y.catchType ≠ 0 ∧ ∃ c, s₀.vm.ClassLinks pl d y.catchType c ∧ s₀.vm.assignable th c = false
theorem zGoAll {e : Env} {s₀ : State} {f : JFrame} {a : Addr} {cell : Cell} {c : ClassId} (hobj : ∀ k, cell.vm ≠ .statics k) (hk0 : ∃ k, s₀.vm.classes[cell.cls]? = some k) (x : ExceptionTableEntry) (rest : List ExceptionTableEntry) (hx : covers x f.pc = true) (h0 : x.catchType ≠ 0) (hl : s₀.vm.ClassLinks e.platform f.method.cls x.catchType c) (hfit : s₀.vm.assignable cell.cls c = true) :
    ∀ (pre : List ExceptionTableEntry) (S : State), s₀.WarmedH S.vm → S.heap[a]? = some cell → (∀ y ∈ pre, zPs e.platform s₀ f.method.cls f.pc cell.cls y) → ∃ vm', s₀.WarmedH vm' ∧ ∀ (Q : Handler → Pre) (E : CtlPost) (d : Bool) (acts : List Action), wp (findHandler.go f a (pre ++ x :: rest)) Q E e d acts S ↔ Q (.found x.handlerPc) d acts (S.setVm vm') := by
  obtain ⟨k0, hk0⟩ := hk0
  intro pre
  induction pre with
  | nil =>
    intro S hW hcell _
    obtain ⟨k0', hk0', -⟩ := hW.alike.2.2 _ _ hk0
    obtain ⟨dk, _, _, kt, hd, _, _, _, _, hkt, _, hopen⟩ := hl.here
    obtain ⟨kt', hkt', -⟩ := hW.alike.2.2 _ _ hkt
    refine ⟨_, hW.noted hd hopen (State.rightAt_cls hl), fun Q E d acts => ?_⟩
    rw [List.nil_append, zGoL true hx h0 (hW.classLinks hl) hcell hobj ⟨k0', hk0'⟩ ⟨kt', hkt'⟩ (by rw [hW.alike.assignable]; exact hfit), if_pos rfl]
  | cons y ys ih =>
    intro S hW hcell hpass
    obtain ⟨k0', hk0', -⟩ := hW.alike.2.2 _ _ hk0
    obtain ⟨hcov, hy0, cy, hly, hno⟩ := hpass y List.mem_cons_self
    obtain ⟨dk, _, _, kt, hd, _, _, _, _, hkt, _, hopen⟩ := hly.here
    obtain ⟨kt', hkt', -⟩ := hW.alike.2.2 _ _ hkt
    obtain ⟨vm', hW', hq⟩ := ih (S.setVm (S.vm.noted f.method.cls y.catchType (.cls cy))) (hW.noted hd hopen (State.rightAt_cls hly)) hcell (fun z hz => hpass z (List.mem_cons_of_mem _ hz))
    refine ⟨vm', hW', fun Q E d acts => ?_⟩
    rw [List.cons_append, zGoL false hcov hy0 (hW.classLinks hly) hcell hobj ⟨k0', hk0'⟩ ⟨kt', hkt'⟩ (by rw [hW.alike.assignable]; exact hno), if_neg (by decide)]
    exact hq Q E d acts
theorem zStepCatch {e : Env} {S : State} {a : Addr} {f : JFrame} {r : List Frame} {pc : Nat} {vm' : Vm} (hf : zFT e S f a (.found pc) vm') : (stepThrowing e S a (.java f :: r)).Is ((S.setVm vm').setFrames (.java { f with pc := pc, stack := [.ref a] } :: r)) [] := by
  simp only [stepThrowing, searchFrame, vmDo]
  generalize hr : Sem.go _ e false [] S = res
  obtain ⟨as, rfl, ha⟩ := Sem.eq_ok_of hr (a := Handler.found pc) (s' := S.setVm vm') (acts' := []) (by simp [hf _ _ _ _])
  exact ⟨rfl, ha⟩
section ZY
variable {D : va_G} {dA : Nat → ClassId} {A : Nat → Prop} {Φ : Heap → List Loc → Prop} {ad0 : Nat → Nat} {n0 nL : Nat} {p : Program} {l : Launch} {e : Env} {R : Room} {s : State} {m : MethodId} {args : Array Value} {below : List Frame} {meth : Method} {c : Code} {Q : State → Prop} {pc : Nat} {lv : List (Option Value)} {st : List Value} {h : Nat → va_E} {n kc ks : Nat} {own : String} {cc : ByteArray}
theorem zCaught {T : State} {locs : List Loc} (X : Stand p l e R s m args below meth c T locs kc ks) (a : Addr) {g : JFrame} (hg : g.method = m) {cell : Cell} (hcell : T.heap[a]? = some cell) (hobj : cell.vm = .none) (hk0 : ∃ k, s.vm.classes[cell.cls]? = some k) (pre : List ExceptionTableEntry) (x : ExceptionTableEntry) (rest : List ExceptionTableEntry) (hsplit : c.exceptionTable.toList = pre ++ x :: rest) (hpass : ∀ y ∈ pre, zPs e.platform s m.cls g.pc cell.cls y) (hx : covers x g.pc = true) (h0 : x.catchType ≠ 0) {cX : ClassId} (hl : s.vm.ClassLinks e.platform m.cls x.catchType cX) (hfit : s.vm.assignable cell.cls cX = true) :
    ∃ vm', Stand p l e R s m args below meth c (T.setVm vm') locs kc ks ∧ ∀ target, Steps p.tables e below ((T.setVm vm').setTop { g with pc := x.handlerPc, stack := [.ref a] }) target → Steps p.tables e below ((T.setTop g).pushFrame (.throwing a)) target := by
  subst hg
  have hob : ∀ k, cell.vm ≠ .statics k := fun k hk => by rw [hobj] at hk; cases hk
  obtain ⟨vm', hW', hq⟩ := zGoAll (e := e) (f := g) (a := a) hob hk0 x rest hx h0 hl hfit pre ((T.setTop g).pushFrame (.throwing a)) X.warmed hcell hpass
  have hf : zFT e ((T.setTop g).pushFrame (.throwing a)) g a (.found x.handlerPc) vm' := fun Q E d acts => by
    rw [W.findHandler_eq (s := (T.setTop g).pushFrame (.throwing a)) (meth := meth) (code := c) X.method' X.code, hsplit]
    exact hq Q E d acts
  refine ⟨vm', X.noted hW', fun target hrest => ?_⟩
  have h : At T g.method c below := X.here
  obtain ⟨hgo, hw⟩ := h.throwing a
  refine Steps.head hgo hw ?_
  rw [stepThread_throwing (frames_entered h.top _), (zStepCatch (S := (T.setTop g).pushFrame (.throwing a)) hf).1]
  obtain ⟨g₀, hg0⟩ := Option.isSome_iff_exists.mp h.top
  obtain ⟨r, hr⟩ := State.topJava?_eq_some.mp hg0
  have hr' : (T.setVm vm').frames = .java g₀ :: r := hr
  rw [State.setTop_of_frames _ hr'] at hrest
  have e1 : ∀ (u : State) (F G : List Frame), ((u.setFrames F).setVm vm').setFrames G = (u.setVm vm').setFrames G := fun u F G => by
    rw [show (u.setFrames F).setVm vm' = (u.setVm vm').setFrames F from rfl, State.setFrames_setFrames]
  rw [hr, List.tail_cons, State.pushFrame, e1, State.setTop_of_frames _ hr, e1]
  exact hrest
/-- the callee throws: where the walk stands then -/
theorem zThrown {U : State} {locs : List Loc} (X : Stand p l e R s m args below meth c U locs kc ks) {k : zK} {d len : Nat} {Pc : Array Value → State → Prop} {X0 : String} (hM : MetFree l k.1 (headSpec [Cond.code k.1 k.2.1 k.2.2.1 k.2.2.2] (zR d 1 6)) Pc (fun _ _ _ _ _ => True) (zQx X0)) (hbl : FrameBlind Pc) {g : JFrame} (hg : g.method = m) (hsize : g.locals.size = c.maxLocals) {ig : Instr} (hdg : decode c.code g.pc = .ok (ig, len)) {mk : MethodId} {av : Array Value} (hn : U.methodNamed? k.1 = some mk) (hcode : (Cond.code k.1 k.2.1 k.2.2.1 k.2.2.2).before av U = true) (hini : (Cond.initialized k.1.cls).before av U = true) (hP : Pc av U) (hW : 2 * g.monitorRoom + (g.stack.map fun v => v.category).sum ≤ 8) (hR : d + 11 ≤ R.frames ∧ k.2.2.1 + 319 + 60 * d ≤ R.locals) (hcap : kc + 1 ≤ R.cells ∧ ks + 6 ≤ R.slots) :
    ∃ (a : Addr) (ce : Cell) (T' : State), Stand p l e R s m args below meth c T' locs (kc + 1) (ks + 6) ∧ U.heap.size ≤ T'.heap.size ∧ (∀ q, q < U.heap.size → T'.heap[q]? = U.heap[q]?) ∧ T'.heap[a]? = some ce ∧ U.vm.findClass X0 = some ce.cls ∧ ce.vm = .none ∧ Steps p.tables e below (doInvoke e (U.setTop g) [] mk av).1 ((T'.setTop g).pushFrame (.throwing a)) := by
  obtain ⟨methY, cY, hmY, hcY, -, hlY, -, -, -, -⟩ := Cond.code_spec hn hcode
  obtain ⟨kY, hkY, -⟩ := className_of_methodNamed hn
  have hinitY : kY.init = .initialized := Cond.initialized_spec (findClass_of_methodNamed hn) hkY hini
  have h : At U g.method c below := by rw [hg]; exact X.here
  have happ : (headSpec [Cond.code k.1 k.2.1 k.2.2.1 k.2.2.2] (zR d 1 6)).appliesLoose k.1 e.platform (U.calling g mk av) = true :=
    Spec.appliesLoose_calling (g := g) h hdg hn hkY hinitY
      (X.room_calling (g := g) (R' := zR d 1 6) hsize hmY hcY (by show 10 + d + 1 ≤ _; omega) (by rw [hlY]; show _ + (k.2.2.1 + 11) + (300 + 60 * d) ≤ _; omega) hcap.1 hcap.2)
      (atoms_intro (fun w hw => by rw [List.mem_singleton.mp hw]; exact hcode))
  obtain ⟨mid, hmid⟩ := h.above
  have hfr : (U.setTop g).frames = (.java g :: mid) ++ below := by rw [State.frames_setTop' g h.top, hmid]; rfl
  obtain ⟨o, s₂, hsteps, -, hend, hq⟩ := Steps.callFree hM p X.admits X.cas X.clock (acts := []) hfr happ (hbl _ _ _ _ hP) trivial
  rw [State.frames_setTop' g h.top] at hend
  have hq' : zQx X0 av (U.calling g mk av) o s₂ := hq
  obtain ⟨a, ce, rfl, hW₂, hsame0, hce, hfc, hvm⟩ := hq'
  obtain ⟨e2, q2, q3, q4, q5, q6⟩ := id hsame0
  have e3 : s₂ = ({ (U.calling g mk av).setFrames s₂.frames with heap := s₂.heap, slotsUsed := s₂.slotsUsed } : State).setVm s₂.vm := by
    have : s₂ = ({ s₂ with vm := (U.calling g mk av).vm } : State).setVm s₂.vm := rfl
    rw [e2] at this
    exact this
  have hf₂ : s₂.frames = .throwing a :: .java g :: U.frames.tail := hend
  have hW' : U.WarmedH s₂.vm := hW₂
  obtain ⟨g₀, hg0⟩ := Option.isSome_iff_exists.mp h.top
  obtain ⟨r, hr⟩ := State.topJava?_eq_some.mp hg0
  have hs₂ : s₂ = ((({ U with heap := s₂.heap, slotsUsed := s₂.slotsUsed } : State).setVm s₂.vm).setTop g).pushFrame (.throwing a) := by
    have hr' : (({ U with heap := s₂.heap, slotsUsed := s₂.slotsUsed } : State).setVm s₂.vm).frames = .java g₀ :: r := hr
    refine e3.trans ?_
    rw [hf₂, State.calling_eq h.top, State.setFrames_setFrames, State.pushFrame, State.frames_setTop _ hr', State.setTop_of_frames _ hr', State.setFrames_setFrames, hr]
    rfl
  have hsame : U.sameButNew ({ U with heap := s₂.heap, slotsUsed := s₂.slotsUsed } : State) [] 1 6 := by
    refine ⟨?_, q2, q3, q4, q5, q6⟩
    obtain ⟨t, ht, -⟩ := State.frames_cons hr
    show ({ U with heap := s₂.heap, slotsUsed := s₂.slotsUsed } : State) = { U.setFrames U.frames with heap := s₂.heap, slotsUsed := s₂.slotsUsed }
    rw [State.setFrames_self ht]
  subst hg
  refine ⟨a, ce, (({ U with heap := s₂.heap, slotsUsed := s₂.slotsUsed } : State).setVm s₂.vm), ?_, q2, ?_, hce, hfc, hvm, ?_⟩
  · have hs9 := X.same.trans (hsame.setVm s.vm)
    rw [List.append_nil] at hs9
    exact ⟨X.admits, X.cas, X.clock, X.frames, X.room, X.hears, X.method, X.code, (X.here.setHeapUsed s₂.heap s₂.slotsUsed).setVm hW'.alike, X.tail, State.WarmedH.trans X.warmed hW', X.limits, X.bytes, hs9⟩
  · intro q hq
    show s₂.heap[q]? = U.heap[q]?
    have hq1 : U.heap[q]? = some U.heap[q] := Array.getElem?_eq_getElem hq
    obtain ⟨c', h1, h2, h3, h4⟩ := q6 q _ hq1
    rw [hq1]
    have h5 : c'.slots = U.heap[q].slots := by
      apply Array.ext_getElem?
      intro i
      exact h4 i (by simp)
    have h6 : c' = U.heap[q] := by rw [h2, h5]
    rw [← h6]
    exact h1
  · show Steps p.tables e below _ (((({ U with heap := s₂.heap, slotsUsed := s₂.slotsUsed } : State).setVm s₂.vm).setTop g).pushFrame (.throwing a))
    rw [← hs₂]
    exact hsteps
/-- a call that throws, caught; the handler's first instruction puts the exception away into the place i -/
theorem J_catchV (C : Cx D dA A ad0 own cc nL p R s m args meth c) {k : zK} {idx d np ci b i : Nat} {as fs : List Value} {X0 : String} (hM : XT l D dA k d n (.ref b :: as) h X0) (hl : ML own idx k np) (hlk : Cond.methodLink own idx k.1 ∈ tb) (hv : MV k ci) (hb : b < n) (he : h b = .inr (ci, fs)) (hn : as.length = np) (hn1 : n ≤ 1000) (hR : d + 11 ≤ R.frames ∧ k.2.2.1 + 319 + 60 * d ≤ R.locals) (hcap : kc + 1 ≤ R.cells ∧ ks + 6 ≤ R.slots) (hst : zCat st ≤ 8) (hd : decode cc pc = .ok (.invokevirtual idx, 3))
    (pre : List (ExceptionTableEntry × String)) (x : ExceptionTableEntry) (rest : List ExceptionTableEntry) (hex : c.exceptionTable.toList = pre.map (·.1) ++ x :: rest) (hpre : ∀ y ∈ pre, covers y.1 pc = true ∧ y.1.catchType ≠ 0 ∧ Cond.classLink own y.1.catchType y.2 ∈ tb ∧ Cond.not (.castable X0 y.2) ∈ tb) (hx : covers x pc = true) (hx0 : x.catchType ≠ 0) (hxl : Cond.classLink own x.catchType X0 ∈ tb) (hself : Cond.castable X0 X0 ∈ tb)
    {hpc pc' : Nat} (hh : x.handlerPc = hpc) (hds : (∃ kf : Fin 4, (kf : Nat) = i ∧ decode cc hpc = .ok (.astore_n kf, 1) ∧ pc' = hpc + 1) ∨ (decode cc hpc = .ok (.astore i, 2) ∧ pc' = hpc + 2)) (hi : i < nL) (hz : zNL lv i = true) (hΦ : ∀ H locs, Φ H locs := by intros; trivial)
    (kk : J D dA A Φ ad0 n0 nL p l e R s m args below meth c Q (pc') (lv.set i none) ([]) (h) n (kc + 1) (ks + 6)) : J D dA A Φ ad0 n0 nL p l e R s m args below meth c Q (pc) (lv) (as.reverse ++ .ref b :: st) (h) n kc ks := by
  intro ad H locs ls h0 hP hD hS hF hL
  have hpr := zPre (as := .ref b :: as) C h0 hn1 hP hD hS
  have hstk : (as.reverse ++ .ref b :: st).map (zV ad) = (as.map (zV ad)).reverse ++ .ref (ad b) :: st.map (zV ad) := by simp [zV]
  rw [hstk]
  obtain ⟨cellB, hcB, hoB, hclB⟩ := zRecv C hv.2.2 hb he hP
  intro T hT Y
  have hts := C.2.2.2.2.1
  obtain ⟨mk, methM, hnamed, hmethM, hstM, habM⟩ := Cond.instanceMethod_spec (hts _ hv.1)
  obtain ⟨methM', cM, hmethM', -, -, -, -, -, -, hsigM⟩ := Cond.code_spec hnamed (hts _ hl.2.1)
  cases hmethM.symm.trans hmethM'
  obtain ⟨c2, r2, m2, q1, q2, q3, q4, kP, hkP, hkPi⟩ := Cond.selects_spec (hts _ hv.2.1)
  cases hclB.symm.trans q1
  cases (State.methodFound?_of_named hnamed hl.2.2.2.1).symm.trans q2
  cases hnamed.symm.trans q3
  have hselP : selectMethod e.platform s.vm cellB.cls mk = .method mk := by rw [Launch.admits_selectMethod Y.admits]; exact q4
  have hlen : (as.map (zV ad)).length = methM.sig.parameters.length := by
    have h2 := hl.2.2.2.2
    rw [hsigM] at h2
    rw [List.length_map, hn]
    exact (Option.some.inj h2).symm
  obtain ⟨vm₁, Y₁, hstep₁⟩ := Y.invokevirtual C.1 C.2.2.2.1 (hts _ hlk) hnamed hmethM hstM hkP hkPi hl.2.2.2.1 (a := ad b) (cell := cellB) (by rw [hT]; exact hcB)
    (fun z hz => by rw [hz] at hoB; cases hoB) hselP hmethM habM hkP hkPi (g := F0 m pc ls ((as.map (zV ad)).reverse ++ .ref (ad b) :: st.map (zV ad))) rfl (argsL := as.map (zV ad)) (rest := st.map (zV ad)) hlen rfl (by rw [C.2.1]; exact hd)
  have hwarm : s.WarmedH (T.setVm vm₁).vm := Y₁.warmed
  obtain ⟨a, ce, T', Y2, hsz, hold, hce, hfc, hvm, hst2⟩ := zThrown (g := F0 m pc ls (st.map (zV ad))) Y₁ (hM ad H.size) zPc_blind rfl (by rw [C.2.2.1]; exact hL.1) (by rw [C.2.1]; exact hd) (mk := mk) (av := (Value.ref (ad b) :: as.map (zV ad)).toArray) (Y₁.named hnamed)
    (zw_move (tb_ok hl.2.1) hwarm (hts _ hl.2.1)) (zw_move (tb_ok hl.2.2.1) hwarm (hts _ hl.2.2.1)) (hpr (T.setVm vm₁) hT hwarm) (lv_room (by rw [zCat_map]; exact hst)) hR hcap
  have hfcs : s.vm.findClass X0 = some ce.cls := by rw [← hwarm.alike.findClass]; exact hfc
  have hpl : e.platform.magicAccessors = ({} : Platform).magicAccessors := by rw [Y.admits.platform]
  obtain ⟨cX, hcX, hclX⟩ := Cond.classLink_spec C.2.2.2.1 (hts _ hxl) e.platform hpl
  cases hfcs.symm.trans hcX
  have hfit : s.vm.assignable ce.cls ce.cls = true := by
    obtain ⟨c3, c4, hc3, hc4, hasg⟩ := Cond.castable_spec (hts _ hself)
    cases hc3.symm.trans hfcs
    cases hc4.symm.trans hfcs
    exact hasg
  have hk0 : ∃ k, s.vm.classes[ce.cls]? = some k := Vm.classAt_of_findClass hfcs
  obtain ⟨vm', Y3, hgo⟩ := zCaught (g := F0 m pc ls (st.map (zV ad))) Y2 a rfl hce hvm hk0 (pre.map (·.1)) x rest hex (fun y hy => by
      obtain ⟨z, hz, rfl⟩ := List.mem_map.mp hy
      obtain ⟨g1, g2, g3, g4⟩ := hpre z hz
      obtain ⟨cy, hcy, hly⟩ := Cond.classLink_spec C.2.2.2.1 (hts _ g3) e.platform hpl
      refine ⟨g1, g2, cy, hly, ?_⟩
      have h9 := Cond.holds_not_iff.mp (hts _ g4)
      simp only [Cond.value, hfcs, hcy] at h9
      exact Option.some.inj h9) hx hx0 hclX hfit
  have hTU : (T.setVm vm₁).heap = H := hT
  rw [hTU] at hsz hold
  have hold' : ∀ q, q < H.size → T'.heap[q]? = H[q]? := hold
  have hP1 : va_P D cls (wl dA ad h n) T'.heap := hP.kept (fun j q hq => hold' q.1 (hP j q hq).lt)
  have hS1 : va_S A s.heap T'.heap locs := ⟨Nat.le_trans hS.1 hsz, fun q h1 h2 => by rw [hold' q (Nat.lt_of_lt_of_le h1 hS.1)]; exact hS.2.1 q h1 h2, hS.2.2⟩
  have key : ∀ ls' : Array Slot, lv_has ls' nL ((i, Value.ref a) :: (zAl ad lv).filter (fun q => !(q.1 == i) && !(q.1 + 1 == i && q.2.category == 2))) → W p l e R s m args below meth c T'.heap locs (kc + 1) (ks + 6) Q (F0 m pc' ls' []) := by
    intro ls' h'
    refine kk ad T'.heap locs ls' h0 hP1 hD hS1 (hΦ _ _) ⟨h'.1, h'.2.1, fun j v hj => ?_⟩
    have hji : j ≠ i := by
      rintro rfl
      rw [List.getElem?_set] at hj
      rw [if_pos rfl] at hj
      split at hj <;> simp at hj
    rw [List.getElem?_set_ne (Ne.symm hji)] at hj
    refine h'.2.2 (j, zV ad v) (List.mem_cons_of_mem _ (List.mem_filter.mpr ⟨zAl_mem.mpr ⟨v, hj, rfl⟩, ?_⟩))
    have h1 : (j == i) = false := by simpa using hji
    simp only [h1, Bool.not_false, Bool.true_and, Bool.not_eq_true', Bool.and_eq_false_iff]
    by_cases h2 : j + 1 = i
    · right
      subst h2
      simp only [zNL, hj] at hz
      rw [zV_cat]
      cases v <;> simp_all [Value.category]
    · left; simpa using h2
  have hfin : W p l e R s m args below meth c T'.heap locs (kc + 1) (ks + 6) Q (F0 m hpc ls [.ref a]) := by
    rcases hds with ⟨kf, hkf, hdk, rfl⟩ | ⟨hdk, rfl⟩
    · exact lv_astore_n C.1 C.2.1 hdk hkf hL.has hi rfl key
    · exact lv_astore C.1 C.2.1 hdk hL.has hi rfl key
  obtain ⟨t, b1, b2⟩ := hfin (T'.setVm vm') rfl Y3
  refine ⟨t, hstep₁ _ (fun acts => ?_), b2⟩
  rw [doInvoke_state]
  subst hh
  exact hst2.trans (hgo t b1)
end ZY
end
section
section ZN
variable {D : va_G} {dA : Nat → ClassId} {A : Nat → Prop} {Φ : Heap → List Loc → Prop} {ad0 : Nat → Nat} {n0 nL : Nat} {p : Program} {l : Launch} {e : Env} {R : Room} {s : State} {m : MethodId} {args : Array Value} {below : List Frame} {meth : Method} {c : Code} {Q : State → Prop} {pc : Nat} {lv : List (Option Value)} {st : List Value} {h : Nat → va_E} {n kc ks : Nat} {own : String} {cc : ByteArray} {M : Mem}
theorem J_val {x y : Int32} (hv : x = y) (k : J D dA A Φ ad0 n0 nL p l e R s m args below meth c Q (pc) (lv) (.int y :: st) (h) n kc ks) : J D dA A Φ ad0 n0 nL p l e R s m args below meth c Q (pc) (lv) (.int x :: st) (h) n kc ks := by subst hv; exact k
theorem J_mem {M1 M2 : Mem} (hv : M1 = M2) (k : J D dA A Φ ad0 n0 nL p l e R s m args below meth c Q (pc) (lv) (st) (E M2) 90 kc ks) : J D dA A Φ ad0 n0 nL p l e R s m args below meth c Q (pc) (lv) (st) (E M1) 90 kc ks := by subst hv; exact k
theorem J_ifN_eq (C : Cx D dA A ad0 own cc nL p R s m args meth c) {a : Nat} {off : Int} (tgt : Nat) (hd : decode cc pc = .ok (.ifCond .eq off, 3)) (ht : (pc : Int) + off = (tgt : Int)) (ha : a < 2 ^ 31) (kt : a = 0 → J D dA A Φ ad0 n0 nL p l e R s m args below meth c Q (tgt) (lv) (st) (h) n kc ks) (kf : ¬ a = 0 → J D dA A Φ ad0 n0 nL p l e R s m args below meth c Q (pc + 3) (lv) (st) (h) n kc ks) : J D dA A Φ ad0 n0 nL p l e R s m args below meth c Q (pc) (lv) (.int (nI a) :: st) (h) n kc ks := J_if_eq C tgt hd ht (fun q => kt ((nI_eq ha (by decide)).mp q)) (fun q => kf (fun w => q ((nI_eq ha (by decide)).mpr w)))
theorem J_ifN_ne (C : Cx D dA A ad0 own cc nL p R s m args meth c) {a : Nat} {off : Int} (tgt : Nat) (hd : decode cc pc = .ok (.ifCond .ne off, 3)) (ht : (pc : Int) + off = (tgt : Int)) (ha : a < 2 ^ 31) (kt : ¬ a = 0 → J D dA A Φ ad0 n0 nL p l e R s m args below meth c Q (tgt) (lv) (st) (h) n kc ks) (kf : a = 0 → J D dA A Φ ad0 n0 nL p l e R s m args below meth c Q (pc + 3) (lv) (st) (h) n kc ks) : J D dA A Φ ad0 n0 nL p l e R s m args below meth c Q (pc) (lv) (.int (nI a) :: st) (h) n kc ks := J_if_ne C tgt hd ht (fun q => kt (fun w => q ((nI_eq ha (by decide)).mpr w))) (fun q => kf ((nI_eq ha (by decide)).mp q))
theorem J_ifN_gt (C : Cx D dA A ad0 own cc nL p R s m args meth c) {a : Nat} {off : Int} (tgt : Nat) (hd : decode cc pc = .ok (.ifCond .gt off, 3)) (ht : (pc : Int) + off = (tgt : Int)) (ha : a < 2 ^ 31) (kt : 0 < a → J D dA A Φ ad0 n0 nL p l e R s m args below meth c Q (tgt) (lv) (st) (h) n kc ks) (kf : a = 0 → J D dA A Φ ad0 n0 nL p l e R s m args below meth c Q (pc + 3) (lv) (st) (h) n kc ks) : J D dA A Φ ad0 n0 nL p l e R s m args below meth c Q (pc) (lv) (.int (nI a) :: st) (h) n kc ks := J_if_gt C tgt hd ht (fun q => kt ((nI_ltI (by decide) ha).mp q)) (fun q => kf (Nat.eq_zero_of_not_pos fun w => q ((nI_ltI (by decide) ha).mpr w)))
theorem J_ifN_le (C : Cx D dA A ad0 own cc nL p R s m args meth c) {a : Nat} {off : Int} (tgt : Nat) (hd : decode cc pc = .ok (.ifCond .le off, 3)) (ht : (pc : Int) + off = (tgt : Int)) (ha : a < 2 ^ 31) (kt : a = 0 → J D dA A Φ ad0 n0 nL p l e R s m args below meth c Q (tgt) (lv) (st) (h) n kc ks) (kf : 0 < a → J D dA A Φ ad0 n0 nL p l e R s m args below meth c Q (pc + 3) (lv) (st) (h) n kc ks) : J D dA A Φ ad0 n0 nL p l e R s m args below meth c Q (pc) (lv) (.int (nI a) :: st) (h) n kc ks := J_if_le C tgt hd ht (fun q => kt (Nat.le_zero.mp ((nI_leI ha (by decide)).mp q))) (fun q => kf (Nat.pos_of_ne_zero fun w => q ((nI_leI ha (by decide)).mpr (Nat.le_zero.mpr w))))
theorem J_ifN_lt (C : Cx D dA A ad0 own cc nL p R s m args meth c) {a : Nat} {off : Int} (hd : decode cc pc = .ok (.ifCond .lt off, 3)) (tgt : Nat) (ht : (pc : Int) + off = (tgt : Int)) (ha : a < 2 ^ 31) (kf : J D dA A Φ ad0 n0 nL p l e R s m args below meth c Q (pc + 3) (lv) (st) (h) n kc ks) : J D dA A Φ ad0 n0 nL p l e R s m args below meth c Q (pc) (lv) (.int (nI a) :: st) (h) n kc ks := J_if_lt C tgt hd ht (fun q => absurd q (nI_pos ha)) (fun _ => kf)
theorem J_ifN_ge (C : Cx D dA A ad0 own cc nL p R s m args meth c) {a : Nat} {off : Int} (hd : decode cc pc = .ok (.ifCond .ge off, 3)) (tgt : Nat) (ht : (pc : Int) + off = (tgt : Int)) (ha : a < 2 ^ 31) (kt : J D dA A Φ ad0 n0 nL p l e R s m args below meth c Q (tgt) (lv) (st) (h) n kc ks) : J D dA A Φ ad0 n0 nL p l e R s m args below meth c Q (pc) (lv) (.int (nI a) :: st) (h) n kc ks := J_if_ge C tgt hd ht (fun _ => kt) (fun q => absurd (nI_pos' ha) q)
/-- a functional contract: the answer r, the memory M' -/
def CF (l : Launch) (D : va_G) (dA : Nat → ClassId) (k : zK) (d : Nat) (as : List Value) (M : Mem) (r : Option Value) (M' : Mem) : Prop := CM l D dA k d as M (fun v M1 => v = r ∧ M1 = M')
theorem F_callV (C : Cx D dA A ad0 own cc nL p R s m args meth c) {k : zK} {idx d np ci b : Nat} {as fs : List Value} {r : Option Value} {M' : Mem} (hM : CF l D dA k d (.ref b :: as) M r M') (hl : ML own idx k np) (hv : MV k ci) (hb : b < 90) (he : E M b = .inr (ci, fs)) (hn : as.length = np) (hR : d + 11 ≤ R.frames ∧ k.2.2.1 + 319 + 60 * d ≤ R.locals) (hcap : kc + 0 ≤ R.cells ∧ ks + 0 ≤ R.slots) (hst : zCat st ≤ 8) (hd : decode cc pc = .ok (.invokevirtual idx, 3)) (hΦ : ∀ H locs, Φ H locs := by intros; trivial)
    (kk : J D dA A Φ ad0 n0 nL p l e R s m args below meth c Q (pc + 3) (lv) (r.toList ++ st) (E M') 90 kc ks) : J D dA A Φ ad0 n0 nL p l e R s m args below meth c Q (pc) (lv) (as.reverse ++ .ref b :: st) (E M) 90 kc ks :=
  K_callV C hM hl hv hb he hn hR hcap hst hd hΦ (fun v M1 q => by obtain ⟨rfl, rfl⟩ := q; exact kk)
theorem F_callS (C : Cx D dA A ad0 own cc nL p R s m args meth c) {k : zK} {idx d np : Nat} {as : List Value} {r : Option Value} {M' : Mem} (hM : CF l D dA k d as M r M') (hl : ML own idx k np) (hv : Cond.static k.1 ∈ tb) (hn : as.length = np) (hR : d + 11 ≤ R.frames ∧ k.2.2.1 + 319 + 60 * d ≤ R.locals) (hcap : kc + 0 ≤ R.cells ∧ ks + 0 ≤ R.slots) (hst : zCat st ≤ 8) (hd : decode cc pc = .ok (.invokestatic idx, 3)) (hΦ : ∀ H locs, Φ H locs := by intros; trivial)
    (kk : J D dA A Φ ad0 n0 nL p l e R s m args below meth c Q (pc + 3) (lv) (r.toList ++ st) (E M') 90 kc ks) : J D dA A Φ ad0 n0 nL p l e R s m args below meth c Q (pc) (lv) (as.reverse ++ st) (E M) 90 kc ks :=
  K_callS C hM hl hv hn hR hcap hst hd hΦ (fun v M1 q => by obtain ⟨rfl, rfl⟩ := q; exact kk)
/-- its body -/
abbrev FQ (D : va_G) (dA : Nat → ClassId) (A : Nat → Prop) (ad0 : Nat → Nat) (below : List Frame) (args : Array Value) (s : State) (r : Option Value) (M' : Mem) : State → Prop := MQ below (zQc D dA A ad0 90 (fun v h' n' => n' = 90 ∧ ∃ M1, h' = E M1 ∧ (v = r ∧ M1 = M'))) args s 0 0 A
theorem CF.of {k : zK} {d : Nat} {as : List Value} {r : Option Value} {M' : Mem} (hy : plainName k.1.cls = true) (hl : as.length ≤ k.2.2.1) (hc : ∀ v ∈ as, v.category = 1)
    (body : ∀ (A : Nat → Prop) (ad0 : Nat → Nat) (p : Program) (e : Env) (s : State) (m : MethodId) (args : Array Value) (below : List Frame) (meth : Method) (c : Code), Cx D dA A ad0 k.1.cls k.2.1 k.2.2.1 p (zR d 0 0) s m args meth c → meth.sig.returnType = k.2.2.2 →
      J D dA A (fun _ _ => True) ad0 90 k.2.2.1 p l e (zR d 0 0) s m args below meth c (FQ D dA A ad0 below args s r M') 0 (zLv as k.2.2.1) [] (E M) 90 0 0) : CF l D dA k d as M r M' :=
  CT.of hy hl hc (fun A ad0 p e s m args below meth c C hr _ => body A ad0 p e s m args below meth c C hr)

theorem F_iret (C : Cx D dA A ad0 own cc nL p R s m args meth c) {v w : Int32} {M' : Mem} (hr : meth.sig.returnType = some .int) (hv : v = w) (hM : M = M') (hd : decode cc pc = .ok (.ireturn, 1)) : J D dA A Φ ad0 90 nL p l e R s m args below meth c (FQ D dA A ad0 below args s (some (.int w)) M') pc lv ([.int v]) (E M) 90 0 0 := by subst hv; exact J_ireturn C hr (Nat.le_refl _) ⟨rfl, M, rfl, rfl, hM⟩ hd
theorem F_zret (C : Cx D dA A ad0 own cc nL p R s m args meth c) {v w : Int32} {M' : Mem} (hr : meth.sig.returnType = some .boolean) (hb : v = 0 ∨ v = 1) (hv : v = w) (hM : M = M') (hd : decode cc pc = .ok (.ireturn, 1)) : J D dA A Φ ad0 90 nL p l e R s m args below meth c (FQ D dA A ad0 below args s (some (.int w)) M') pc lv ([.int v]) (E M) 90 0 0 := by subst hv; exact J_zreturn C hr hb (Nat.le_refl _) ⟨rfl, M, rfl, rfl, hM⟩ hd
theorem F_ret (C : Cx D dA A ad0 own cc nL p R s m args meth c) {M' : Mem} (hr : meth.sig.returnType = none) (hM : M = M') (hd : decode cc pc = .ok (.return_, 1)) : J D dA A Φ ad0 90 nL p l e R s m args below meth c (FQ D dA A ad0 below args s (none) M') pc lv ([]) (E M) 90 0 0 := J_return C hr (Nat.le_refl _) ⟨rfl, M, rfl, rfl, hM⟩ hd
theorem P_iretE (C : Cx D dA A ad0 own cc nL p R s m args meth c) {v w : Int32} (hr : meth.sig.returnType = some .int) (hv : v = w) (hd : decode cc pc = .ok (.ireturn, 1)) : J D dA A (fun H locs => H = s.heap ∧ locs = []) ad0 n nL p l e R s m args below meth c (MQ below (zQp ad0 (.int w)) args s 0 0 (fun _ => False)) (pc) (lv) ([.int v]) (h) n 0 0 := by subst hv; exact P_iret C hr hd
theorem P_zretE (C : Cx D dA A ad0 own cc nL p R s m args meth c) {v w : Int32} (hr : meth.sig.returnType = some .boolean) (hb : v = 0 ∨ v = 1) (hv : v = w) (hd : decode cc pc = .ok (.ireturn, 1)) : J D dA A (fun H locs => H = s.heap ∧ locs = []) ad0 n nL p l e R s m args below meth c (MQ below (zQp ad0 (.int w)) args s 0 0 (fun _ => False)) (pc) (lv) ([.int v]) (h) n 0 0 := by subst hv; exact P_zret C hr hb hd
theorem P_aretE (C : Cx D dA A ad0 own cc nL p R s m args meth c) {x y : Nat} {T : String} (hr : meth.sig.returnType = some (.object T)) (hv : x = y) (hd : decode cc pc = .ok (.areturn, 1)) : J D dA A (fun H locs => H = s.heap ∧ locs = []) ad0 n nL p l e R s m args below meth c (MQ below (zQp ad0 (.ref y)) args s 0 0 (fun _ => False)) (pc) (lv) ([.ref x]) (h) n 0 0 := by subst hv; exact P_aret C hr hd
theorem J_mmin (C : Cx D dA A ad0 own cc nL p R s m args meth c) {x y : Int32} {i : Nat} (hl : Cond.methodLink own i Lib.Math.min.name ∈ tb) (hs : Cond.static Lib.Math.min.name ∈ tb) (hi : Cond.initialized "java/lang/Math" ∈ tb) (hco : Cond.code Lib.Math.min.name Lib.Math.min.code 2 (some .int) ∈ tb) (hst : zCat st ≤ 8) (hcap : kc ≤ R.cells ∧ ks ≤ R.slots) (hd : decode cc pc = .ok (.invokestatic i, 3)) (k : J D dA A Φ ad0 n0 nL p l e R s m args below meth c Q (pc + 3) (lv) (.int (if y < x then y else x) :: st) (h) n kc ks) : J D dA A Φ ad0 n0 nL p l e R s m args below meth c Q (pc) (lv) (.int y :: .int x :: st) (h) n kc ks := by
  intro ad H locs ls h0 hP hD hS hF hL
  have hc2 : ((st.map (zV ad)).map fun v => v.category).sum ≤ 8 := by rw [zCat_map]; exact hst
  refine va_mmin C.1 C.2.1 (by rw [C.2.2.1]; exact hL.1.symm) C.2.2.2.1 (C.2.2.2.2.1 _ hl) (C.2.2.2.2.1 _ hs) (C.2.2.2.2.1 _ hi) (C.2.2.2.2.1 _ hco) (Nat.le_trans (by decide) C.2.2.2.2.2.2.2.2.2.2.1) (Nat.le_trans (by omega) C.2.2.2.2.2.2.2.2.2.2.2) hcap.1 hcap.2 hd ?_
  exact k ad H locs ls h0 hP hD hS hF hL
theorem J_mmax (C : Cx D dA A ad0 own cc nL p R s m args meth c) {x y : Int32} {i : Nat} (hl : Cond.methodLink own i Lib.Math.max.name ∈ tb) (hs : Cond.static Lib.Math.max.name ∈ tb) (hi : Cond.initialized "java/lang/Math" ∈ tb) (hco : Cond.code Lib.Math.max.name Lib.Math.max.code 2 (some .int) ∈ tb) (hst : zCat st ≤ 8) (hcap : kc ≤ R.cells ∧ ks ≤ R.slots) (hd : decode cc pc = .ok (.invokestatic i, 3)) (k : J D dA A Φ ad0 n0 nL p l e R s m args below meth c Q (pc + 3) (lv) (.int (if x < y then y else x) :: st) (h) n kc ks) : J D dA A Φ ad0 n0 nL p l e R s m args below meth c Q (pc) (lv) (.int y :: .int x :: st) (h) n kc ks := by
  intro ad H locs ls h0 hP hD hS hF hL
  have hc2 : ((st.map (zV ad)).map fun v => v.category).sum ≤ 8 := by rw [zCat_map]; exact hst
  refine va_mmax C.1 C.2.1 (by rw [C.2.2.1]; exact hL.1.symm) C.2.2.2.1 (C.2.2.2.2.1 _ hl) (C.2.2.2.2.1 _ hs) (C.2.2.2.2.1 _ hi) (C.2.2.2.2.1 _ hco) (Nat.le_trans (by decide) C.2.2.2.2.2.2.2.2.2.2.1) (Nat.le_trans (by omega) C.2.2.2.2.2.2.2.2.2.2.2) hcap.1 hcap.2 hd ?_
  exact k ad H locs ls h0 hP hD hS hF hL
theorem K_copy (C : Cx D dA A ad0 own cc nL p R s m args meth c) {p0 p1 l0 l1 sp dp cn i : Nat} (hl : Cond.methodLink own i arraycopyName ∈ tb) (hna : Cond.native arraycopyName ∈ tb) (hs : Cond.static arraycopyName ∈ tb) (hi : Cond.initialized "java/lang/System" ∈ tb) (a0 : isI p0 l0) (a1 : isI p1 l1) (h4 : sp + cn ≤ l0) (h5 : dp + cn ≤ l1) (hst : zCat st ≤ 8) (hd : decode cc pc = .ok (.invokestatic i, 3)) (hΦ : ∀ H locs, Φ H locs := by intros; trivial) (k : J D dA A Φ ad0 n0 nL p l e R s m args below meth c Q (pc + 3) (lv) (st) (E (ma M p1 (va_cpy (M p0) (M p1) sp dp cn))) 90 kc ks) : J D dA A Φ ad0 n0 nL p l e R s m args below meth c Q (pc) (lv) (.int (nI cn) :: .int (nI dp) :: .ref p1 :: .int (nI sp) :: .ref p0 :: st) (E M) 90 kc ks := by
  intro ad H locs ls h0 hP hD hS hF hL
  have hc2 : ((st.map (zV ad)).map fun v => v.category).sum ≤ 8 := by rw [zCat_map]; exact hst
  have hw0 := wl_get (dA := dA) (ad := ad) (h := E M) a0.1
  rw [show E M p0 = .inl (0, l0, .inl (M p0)) from a0.2.2 _] at hw0
  have hw1 := wl_get (dA := dA) (ad := ad) (h := E M) a1.1
  rw [show E M p1 = .inl (0, l1, .inl (M p1)) from a1.2.2 _] at hw1
  have b0 := a0.2.1
  have b1 := a1.2.1
  have n1 : (nI sp).toNatClampNeg = sp := nI_clamp (by omega)
  have n2 : (nI dp).toNatClampNeg = dp := nI_clamp (by omega)
  have n3 : (nI cn).toNatClampNeg = cn := nI_clamp (by omega)
  refine va_copyi (rest := st.map (zV ad)) (ty := .int) C.1 C.2.1 (by rw [C.2.2.1]; exact hL.1.symm) C.2.2.2.1 (C.2.2.2.2.1 _ hl) (C.2.2.2.2.1 _ hna) (C.2.2.2.2.1 _ hs) (C.2.2.2.2.1 _ hi) C.2.2.2.2.2.1 hP hD hS p0 p1 0 0 hw0 hw1 rfl rfl rfl (nI_pos (by omega)) (nI_pos (by omega)) (nI_pos (by omega)) (by rw [n1, n3]; exact h4) (by rw [n2, n3]; exact h5) (fun _ _ => rfl) (Nat.le_trans (by decide) C.2.2.2.2.2.2.2.2.2.2.1) (Nat.le_trans (Nat.add_le_add_right hc2 _) (Nat.le_trans (by decide) C.2.2.2.2.2.2.2.2.2.2.2)) hd ?_
  rw [n1, n2, n3]
  intro H1 locs1 hP1 hD1 hS1
  have e1 := wl_set (dA := dA) (ad := ad) (h := E M) (.inl (0, l1, .inl (va_cpy (M p0) (M p1) sp dp cn))) a1.1
  rw [show zE dA ad (.inl (0, l1, .inl (va_cpy (M p0) (M p1) sp dp cn))) = .inl (dA 0, l1, .inl (va_cpy (M p0) (M p1) sp dp cn)) from rfl] at e1
  rw [e1, ← a1.2.2, ← E_ma] at hP1 hD1
  exact k ad H1 locs1 ls h0 hP1 hD1 hS1 (hΦ H1 locs1) hL
end ZN
end
section
set_option maxRecDepth 20000 in
theorem m_Lan_24 : Cond.methodLink "RelayOrbiter$LanderLink" 24 Lib.Math.min.name ∈ tb := tb_in 524 (by decide +kernel) (by decide +kernel)
set_option maxRecDepth 20000 in
theorem m_Lan_30 : Cond.methodLink "RelayOrbiter$LanderLink" 30 arraycopyName ∈ tb := tb_in 527 (by decide +kernel) (by decide +kernel)
set_option maxRecDepth 20000 in
theorem m_Frm_17 : Cond.methodLink "RelayOrbiter$Frame" 17 Lib.Math.min.name ∈ tb := tb_in 538 (by decide +kernel) (by decide +kernel)
set_option maxRecDepth 20000 in
theorem m_Frm_23 : Cond.methodLink "RelayOrbiter$Frame" 23 Lib.Math.max.name ∈ tb := tb_in 539 (by decide +kernel) (by decide +kernel)
set_option maxRecDepth 20000 in
theorem m_Frm_26 : Cond.methodLink "RelayOrbiter$Frame" 26 arraycopyName ∈ tb := tb_in 542 (by decide +kernel) (by decide +kernel)
set_option maxRecDepth 20000 in
theorem m_Str_29 : Cond.methodLink "RelayOrbiter$Stream" 29 arraycopyName ∈ tb := tb_in 649 (by decide +kernel) (by decide +kernel)
set_option maxRecDepth 20000 in
theorem m_Sto_82 : Cond.methodLink "RelayOrbiter$Store" 82 Lib.Math.min.name ∈ tb := tb_in 664 (by decide +kernel) (by decide +kernel)
set_option maxRecDepth 20000 in
theorem m_Sto_88 : Cond.methodLink "RelayOrbiter$Store" 88 arraycopyName ∈ tb := tb_in 665 (by decide +kernel) (by decide +kernel)
set_option maxRecDepth 20000 in
theorem ms_min : Cond.static Lib.Math.min.name ∈ tb := tb_in 525 (by decide +kernel) (by decide +kernel)
set_option maxRecDepth 20000 in
theorem mc_min : Cond.code Lib.Math.min.name Lib.Math.min.code 2 (some .int) ∈ tb := tb_in 526 (by decide +kernel) (by decide +kernel)
set_option maxRecDepth 20000 in
theorem ms_max : Cond.static Lib.Math.max.name ∈ tb := tb_in 540 (by decide +kernel) (by decide +kernel)
set_option maxRecDepth 20000 in
theorem mc_max : Cond.code Lib.Math.max.name Lib.Math.max.code 2 (some .int) ∈ tb := tb_in 541 (by decide +kernel) (by decide +kernel)
set_option maxRecDepth 20000 in
theorem mi_Math : Cond.initialized "java/lang/Math" ∈ tb := tb_in 61 (by decide +kernel) (by decide +kernel)
set_option maxRecDepth 20000 in
theorem mi_Sys : Cond.initialized "java/lang/System" ∈ tb := tb_in 62 (by decide +kernel) (by decide +kernel)
set_option maxRecDepth 20000 in
theorem mn_copy : Cond.native arraycopyName ∈ tb := tb_in 529 (by decide +kernel) (by decide +kernel)
set_option maxRecDepth 20000 in
theorem ms_copy : Cond.static arraycopyName ∈ tb := tb_in 528 (by decide +kernel) (by decide +kernel)
set_option maxRecDepth 20000 in
theorem xin_IllegalArgumentException : Cond.instantiable "java/lang/IllegalArgumentException" 6 ∈ tb := tb_in 380 (by decide +kernel) (by decide +kernel)
set_option maxRecDepth 20000 in
theorem xini_IllegalArgumentException : Cond.initialized "java/lang/IllegalArgumentException" ∈ tb := tb_in 59 (by decide +kernel) (by decide +kernel)
set_option maxRecDepth 20000 in
theorem xself_IllegalArgumentException : Cond.castable "java/lang/IllegalArgumentException" "java/lang/IllegalArgumentException" ∈ tb := tb_in 381 (by decide +kernel) (by decide +kernel)
set_option maxRecDepth 20000 in
theorem xcl_Law_13 : Cond.classLink "RelayOrbiterLaw" 13 "java/lang/IllegalArgumentException" ∈ tb := tb_in 371 (by decide +kernel) (by decide +kernel)
set_option maxRecDepth 20000 in
theorem xcl_Orb_57 : Cond.classLink "RelayOrbiter" 57 "java/lang/IllegalArgumentException" ∈ tb := tb_in 379 (by decide +kernel) (by decide +kernel)
set_option maxRecDepth 20000 in
theorem xab_Orb_59 : (Bundle.ownAtoms0 "RelayOrbiter" 59 "java/lang/IllegalArgumentException" ["java/lang/RuntimeException", "java/lang/Exception"]).all (fun w => decide (w ∈ tb) || zIsSC w) = true := by decide +kernel
theorem xat_Orb_59 : ∀ w ∈ Bundle.ownAtoms0 "RelayOrbiter" 59 "java/lang/IllegalArgumentException" ["java/lang/RuntimeException", "java/lang/Exception"], w ∈ tb ∨ zIsSC w = true := fun w hw => by
  have h := List.all_eq_true.mp xab_Orb_59 w hw
  rw [Bool.or_eq_true, decide_eq_true_eq] at h
  exact h
set_option maxRecDepth 20000 in
theorem xin_UnsupportedOperationException : Cond.instantiable "java/lang/UnsupportedOperationException" 6 ∈ tb := tb_in 480 (by decide +kernel) (by decide +kernel)
set_option maxRecDepth 20000 in
theorem xini_UnsupportedOperationException : Cond.initialized "java/lang/UnsupportedOperationException" ∈ tb := tb_in 60 (by decide +kernel) (by decide +kernel)
set_option maxRecDepth 20000 in
theorem xself_UnsupportedOperationException : Cond.castable "java/lang/UnsupportedOperationException" "java/lang/UnsupportedOperationException" ∈ tb := tb_in 481 (by decide +kernel) (by decide +kernel)
set_option maxRecDepth 20000 in
theorem xcl_Law_27 : Cond.classLink "RelayOrbiterLaw" 27 "java/lang/UnsupportedOperationException" ∈ tb := tb_in 474 (by decide +kernel) (by decide +kernel)
set_option maxRecDepth 20000 in
theorem xcl_Orb_75 : Cond.classLink "RelayOrbiter" 75 "java/lang/UnsupportedOperationException" ∈ tb := tb_in 479 (by decide +kernel) (by decide +kernel)
set_option maxRecDepth 20000 in
theorem xab_Orb_77 : (Bundle.ownAtoms0 "RelayOrbiter" 77 "java/lang/UnsupportedOperationException" ["java/lang/RuntimeException", "java/lang/Exception"]).all (fun w => decide (w ∈ tb) || zIsSC w) = true := by decide +kernel
theorem xat_Orb_77 : ∀ w ∈ Bundle.ownAtoms0 "RelayOrbiter" 77 "java/lang/UnsupportedOperationException" ["java/lang/RuntimeException", "java/lang/Exception"], w ∈ tb ∨ zIsSC w = true := fun w hw => by
  have h := List.all_eq_true.mp xab_Orb_77 w hw
  rw [Bool.or_eq_true, decide_eq_true_eq] at h
  exact h
set_option maxRecDepth 20000 in
theorem xin_IllegalStateException : Cond.instantiable "java/lang/IllegalStateException" 6 ∈ tb := tb_in 703 (by decide +kernel) (by decide +kernel)
set_option maxRecDepth 20000 in
theorem xini_IllegalStateException : Cond.initialized "java/lang/IllegalStateException" ∈ tb := tb_in 63 (by decide +kernel) (by decide +kernel)
set_option maxRecDepth 20000 in
theorem xself_IllegalStateException : Cond.castable "java/lang/IllegalStateException" "java/lang/IllegalStateException" ∈ tb := tb_in 704 (by decide +kernel) (by decide +kernel)
set_option maxRecDepth 20000 in
theorem xcl_Law_36 : Cond.classLink "RelayOrbiterLaw" 36 "java/lang/IllegalStateException" ∈ tb := tb_in 697 (by decide +kernel) (by decide +kernel)
set_option maxRecDepth 20000 in
theorem xcl_Orb_89 : Cond.classLink "RelayOrbiter" 89 "java/lang/IllegalStateException" ∈ tb := tb_in 702 (by decide +kernel) (by decide +kernel)
set_option maxRecDepth 20000 in
theorem xab_Orb_91 : (Bundle.ownAtoms0 "RelayOrbiter" 91 "java/lang/IllegalStateException" ["java/lang/RuntimeException", "java/lang/Exception"]).all (fun w => decide (w ∈ tb) || zIsSC w) = true := by decide +kernel
theorem xat_Orb_91 : ∀ w ∈ Bundle.ownAtoms0 "RelayOrbiter" 91 "java/lang/IllegalStateException" ["java/lang/RuntimeException", "java/lang/Exception"], w ∈ tb ∨ zIsSC w = true := fun w hw => by
  have h := List.all_eq_true.mp xab_Orb_91 w hw
  rw [Bool.or_eq_true, decide_eq_true_eq] at h
  exact h
set_option maxRecDepth 20000 in
theorem xin_IndexOutOfBoundsException : Cond.instantiable "java/lang/IndexOutOfBoundsException" 6 ∈ tb := tb_in 1039 (by decide +kernel) (by decide +kernel)
set_option maxRecDepth 20000 in
theorem xini_IndexOutOfBoundsException : Cond.initialized "java/lang/IndexOutOfBoundsException" ∈ tb := tb_in 73 (by decide +kernel) (by decide +kernel)
set_option maxRecDepth 20000 in
theorem xself_IndexOutOfBoundsException : Cond.castable "java/lang/IndexOutOfBoundsException" "java/lang/IndexOutOfBoundsException" ∈ tb := tb_in 1040 (by decide +kernel) (by decide +kernel)
set_option maxRecDepth 20000 in
theorem xcl_Law_41 : Cond.classLink "RelayOrbiterLaw" 41 "java/lang/IndexOutOfBoundsException" ∈ tb := tb_in 1029 (by decide +kernel) (by decide +kernel)
set_option maxRecDepth 20000 in
theorem xcl_Orb_99 : Cond.classLink "RelayOrbiter" 99 "java/lang/IndexOutOfBoundsException" ∈ tb := tb_in 1038 (by decide +kernel) (by decide +kernel)
set_option maxRecDepth 20000 in
theorem xab_Orb_101 : (Bundle.ownAtoms0 "RelayOrbiter" 101 "java/lang/IndexOutOfBoundsException" ["java/lang/RuntimeException", "java/lang/Exception"]).all (fun w => decide (w ∈ tb) || zIsSC w) = true := by decide +kernel
theorem xat_Orb_101 : ∀ w ∈ Bundle.ownAtoms0 "RelayOrbiter" 101 "java/lang/IndexOutOfBoundsException" ["java/lang/RuntimeException", "java/lang/Exception"], w ∈ tb ∨ zIsSC w = true := fun w hw => by
  have h := List.all_eq_true.mp xab_Orb_101 w hw
  rw [Bool.or_eq_true, decide_eq_true_eq] at h
  exact h
set_option maxRecDepth 20000 in
theorem xno_IllegalArgumentException_UnsupportedOperationException : Cond.not (.castable "java/lang/IllegalArgumentException" "java/lang/UnsupportedOperationException") ∈ tb := tb_in 1323 (by decide +kernel) (by decide +kernel)
set_option maxRecDepth 20000 in
theorem xno_IllegalStateException_UnsupportedOperationException : Cond.not (.castable "java/lang/IllegalStateException" "java/lang/UnsupportedOperationException") ∈ tb := tb_in 1324 (by decide +kernel) (by decide +kernel)
set_option maxRecDepth 20000 in
theorem xno_IllegalStateException_IllegalArgumentException : Cond.not (.castable "java/lang/IllegalStateException" "java/lang/IllegalArgumentException") ∈ tb := tb_in 1325 (by decide +kernel) (by decide +kernel)
set_option maxRecDepth 20000 in
theorem xno_IllegalArgumentException_IndexOutOfBoundsException : Cond.not (.castable "java/lang/IllegalArgumentException" "java/lang/IndexOutOfBoundsException") ∈ tb := tb_in 1326 (by decide +kernel) (by decide +kernel)
end
section
abbrev y_Arr_fill : MethodName := ⟨"java/util/Arrays", "fill", "([IIII)V"⟩
abbrev k_Arr_fill : zK := (y_Arr_fill, prog_30_method_104_code, 5, none)
set_option maxRecDepth 20000 in
theorem s_Arr_fill : Cond.static k_Arr_fill.1 ∈ tb := tb_in 730 (by decide +kernel) (by decide +kernel)
theorem d_Arr_fill_0 : decode prog_30_method_104_code 0 = .ok (.aload_n 0, 1) := by decide +kernel
theorem d_Arr_fill_1 : decode prog_30_method_104_code 1 = .ok (.arraylength, 1) := by decide +kernel
theorem d_Arr_fill_2 : decode prog_30_method_104_code 2 = .ok (.iload_n 1, 1) := by decide +kernel
theorem d_Arr_fill_3 : decode prog_30_method_104_code 3 = .ok (.iload_n 2, 1) := by decide +kernel
theorem d_Arr_fill_4 : decode prog_30_method_104_code 4 = .ok (.invokestatic 13, 3) := by decide +kernel
theorem d_Arr_fill_7 : decode prog_30_method_104_code 7 = .ok (.iload_n 1, 1) := by decide +kernel
theorem d_Arr_fill_8 : decode prog_30_method_104_code 8 = .ok (.istore 4, 2) := by decide +kernel
theorem d_Arr_fill_10 : decode prog_30_method_104_code 10 = .ok (.iload 4, 2) := by decide +kernel
theorem d_Arr_fill_12 : decode prog_30_method_104_code 12 = .ok (.iload_n 2, 1) := by decide +kernel
theorem d_Arr_fill_13 : decode prog_30_method_104_code 13 = .ok (.if_icmp .ge (14), 3) := by decide +kernel
theorem d_Arr_fill_16 : decode prog_30_method_104_code 16 = .ok (.aload_n 0, 1) := by decide +kernel
theorem d_Arr_fill_17 : decode prog_30_method_104_code 17 = .ok (.iload 4, 2) := by decide +kernel
theorem d_Arr_fill_19 : decode prog_30_method_104_code 19 = .ok (.iload_n 3, 1) := by decide +kernel
theorem d_Arr_fill_20 : decode prog_30_method_104_code 20 = .ok (.iastore, 1) := by decide +kernel
theorem d_Arr_fill_21 : decode prog_30_method_104_code 21 = .ok (.iinc 4 (1), 3) := by decide +kernel
theorem d_Arr_fill_24 : decode prog_30_method_104_code 24 = .ok (.goto (-14), 3) := by decide +kernel
theorem d_Arr_fill_27 : decode prog_30_method_104_code 27 = .ok (.return_, 1) := by decide +kernel
abbrev y_Arr_rangeCheck : MethodName := ⟨"java/util/Arrays", "rangeCheck", "(III)V"⟩
abbrev k_Arr_rangeCheck : zK := (y_Arr_rangeCheck, prog_30_method_30_code, 3, none)
set_option maxRecDepth 20000 in
theorem s_Arr_rangeCheck : Cond.static k_Arr_rangeCheck.1 ∈ tb := tb_in 733 (by decide +kernel) (by decide +kernel)
theorem d_Arr_rangeCheck_0 : decode prog_30_method_30_code 0 = .ok (.iload_n 1, 1) := by decide +kernel
theorem d_Arr_rangeCheck_1 : decode prog_30_method_30_code 1 = .ok (.iload_n 2, 1) := by decide +kernel
theorem d_Arr_rangeCheck_2 : decode prog_30_method_30_code 2 = .ok (.if_icmp .le (44), 3) := by decide +kernel
theorem d_Arr_rangeCheck_8 : decode prog_30_method_30_code 8 = .ok (.dup, 1) := by decide +kernel
theorem d_Arr_rangeCheck_12 : decode prog_30_method_30_code 12 = .ok (.dup, 1) := by decide +kernel
theorem d_Arr_rangeCheck_18 : decode prog_30_method_30_code 18 = .ok (.invokevirtual 50, 3) := by decide +kernel
theorem d_Arr_rangeCheck_21 : decode prog_30_method_30_code 21 = .ok (.iload_n 1, 1) := by decide +kernel
theorem d_Arr_rangeCheck_22 : decode prog_30_method_30_code 22 = .ok (.invokevirtual 54, 3) := by decide +kernel
theorem d_Arr_rangeCheck_27 : decode prog_30_method_30_code 27 = .ok (.invokevirtual 50, 3) := by decide +kernel
theorem d_Arr_rangeCheck_30 : decode prog_30_method_30_code 30 = .ok (.iload_n 2, 1) := by decide +kernel
theorem d_Arr_rangeCheck_31 : decode prog_30_method_30_code 31 = .ok (.invokevirtual 54, 3) := by decide +kernel
theorem d_Arr_rangeCheck_36 : decode prog_30_method_30_code 36 = .ok (.invokevirtual 50, 3) := by decide +kernel
theorem d_Arr_rangeCheck_39 : decode prog_30_method_30_code 39 = .ok (.invokevirtual 61, 3) := by decide +kernel
theorem d_Arr_rangeCheck_46 : decode prog_30_method_30_code 46 = .ok (.iload_n 1, 1) := by decide +kernel
theorem d_Arr_rangeCheck_47 : decode prog_30_method_30_code 47 = .ok (.ifCond .ge (12), 3) := by decide +kernel
theorem d_Arr_rangeCheck_53 : decode prog_30_method_30_code 53 = .ok (.dup, 1) := by decide +kernel
theorem d_Arr_rangeCheck_54 : decode prog_30_method_30_code 54 = .ok (.iload_n 1, 1) := by decide +kernel
theorem d_Arr_rangeCheck_59 : decode prog_30_method_30_code 59 = .ok (.iload_n 2, 1) := by decide +kernel
theorem d_Arr_rangeCheck_60 : decode prog_30_method_30_code 60 = .ok (.iload_n 0, 1) := by decide +kernel
theorem d_Arr_rangeCheck_61 : decode prog_30_method_30_code 61 = .ok (.if_icmp .le (12), 3) := by decide +kernel
theorem d_Arr_rangeCheck_67 : decode prog_30_method_30_code 67 = .ok (.dup, 1) := by decide +kernel
theorem d_Arr_rangeCheck_68 : decode prog_30_method_30_code 68 = .ok (.iload_n 2, 1) := by decide +kernel
theorem d_Arr_rangeCheck_73 : decode prog_30_method_30_code 73 = .ok (.return_, 1) := by decide +kernel
set_option maxRecDepth 20000 in
theorem l_Ear_40 : ML "RelayOrbiter$EarthLink" 40 k_Arr_fill 4 := ⟨Or.inl (tb_in 729 (by decide +kernel) (by decide +kernel)), tb_in 731 (by decide +kernel) (by decide +kernel), tb_in 64 (by decide +kernel) (by decide +kernel), ⟨by decide, by decide⟩, by decide +kernel⟩
set_option maxRecDepth 20000 in
theorem l_Arr_13 : ML "java/util/Arrays" 13 k_Arr_rangeCheck 3 := ⟨Or.inl (tb_in 732 (by decide +kernel) (by decide +kernel)), tb_in 734 (by decide +kernel) (by decide +kernel), tb_in 64 (by decide +kernel) (by decide +kernel), ⟨by decide, by decide⟩, by decide +kernel⟩
end
section
def fOpen (t sh pe le : Int32) : Int32 := if 0 ≤ lg_cmp (t.toInt64 + sh.toInt64 - (t.toInt64 + sh.toInt64) / pe.toInt64 * pe.toInt64) le.toInt64 then 0 else 1
set_option maxHeartbeats 4000000 in
set_option maxRecDepth 100000 in
theorem p_isOpen_1 (l : Launch) (D : va_G) (dA : Nat → ClassId) (M : Mem) (t : Int32) (hp : ¬ (M 1 1).toInt64 = 0) : PT l D dA k_Win_isOpen 0 90 [.ref 1, .int t] (E M) (.int (fOpen t (M 1 0) (M 1 1) (M 1 2))) := by
  refine PT.of (by decide +kernel) (Nat.le_of_ble_eq_true rfl) (by intro v hv; simp only [List.mem_cons, List.not_mem_nil, or_false] at hv; rcases hv with rfl | rfl <;> rfl) ?_
  intro A ad0 p e s m args below meth c C hr
  refine J_iload_n C 1 d_Win_isOpen_0 rfl rfl ?_
  refine J_i2l C d_Win_isOpen_1 ?_
  refine J_aload_n C 0 d_Win_isOpen_2 rfl rfl ?_
  refine J_get C f_Win_7 (by decide) (e_1 _) rfl d_Win_isOpen_3 ?_
  refine J_i2l C d_Win_isOpen_6 ?_
  refine J_ladd C d_Win_isOpen_7 ?_
  refine J_aload_n C 0 d_Win_isOpen_8 rfl rfl ?_
  refine J_get C f_Win_13 (by decide) (e_1 _) rfl d_Win_isOpen_9 ?_
  refine J_i2l C d_Win_isOpen_12 ?_
  refine J_lrem C d_Win_isOpen_13 (by assumption) ?_
  refine J_aload_n C 0 d_Win_isOpen_14 rfl rfl ?_
  refine J_get C f_Win_16 (by decide) (e_1 _) rfl d_Win_isOpen_15 ?_
  refine J_i2l C d_Win_isOpen_18 ?_
  refine J_lcmp C d_Win_isOpen_19 ?_
  refine J_if_ge C 27 d_Win_isOpen_20 (by decide) (fun hc20 => ?_) (fun hc20 => ?_)
  · refine J_iconst C d_Win_isOpen_27 (v := nI 0) rfl ?_
    exact P_zretE C hr (Or.inl rfl) (by simp only [fOpen, hc20, if_true, if_false]; rfl) d_Win_isOpen_28
  · refine J_iconst C d_Win_isOpen_23 (v := nI 1) rfl ?_
    refine J_goto C 28 d_Win_isOpen_24 (by decide) ?_
    exact P_zretE C hr (Or.inr rfl) (by simp only [fOpen, hc20, if_true, if_false]; rfl) d_Win_isOpen_28

set_option maxHeartbeats 4000000 in
set_option maxRecDepth 100000 in
theorem f_set_1 (l : Launch) (D : va_G) (dA : Nat → ClassId) (M : Mem) (a b z : Int32) : CF l D dA k_Win_set 0 [.ref 1, .int a, .int b, .int z] M (none) (mu (mu (mu M 1 0 a) 1 1 b) 1 2 z) := by
  refine CF.of (by decide +kernel) (Nat.le_of_ble_eq_true rfl) (by intro v hv; simp only [List.mem_cons, List.not_mem_nil, or_false] at hv; rcases hv with rfl | rfl | rfl | rfl <;> rfl) ?_
  intro A ad0 p e s m args below meth c C hr
  refine J_aload_n C 0 d_Win_set_0 rfl rfl ?_
  refine J_iload_n C 1 d_Win_set_1 rfl rfl ?_
  refine K_putI C f_Win_7 (by decide) (e_1 _) (Nat.le_of_ble_eq_true rfl) rfl d_Win_set_2 (kk := ?_)
  refine J_aload_n C 0 d_Win_set_5 rfl rfl ?_
  refine J_iload_n C 2 d_Win_set_6 rfl rfl ?_
  refine K_putI C f_Win_13 (by decide) (e_1 _) (Nat.le_of_ble_eq_true rfl) rfl d_Win_set_7 (kk := ?_)
  refine J_aload_n C 0 d_Win_set_10 rfl rfl ?_
  refine J_iload_n C 3 d_Win_set_11 rfl rfl ?_
  refine K_putI C f_Win_16 (by decide) (e_1 _) (Nat.le_of_ble_eq_true rfl) rfl d_Win_set_12 (kk := ?_)
  exact F_ret C hr rfl d_Win_set_15

set_option maxHeartbeats 4000000 in
set_option maxRecDepth 100000 in
theorem p_isOpen_2 (l : Launch) (D : va_G) (dA : Nat → ClassId) (M : Mem) (t : Int32) (hp : ¬ (M 2 1).toInt64 = 0) : PT l D dA k_Win_isOpen 0 90 [.ref 2, .int t] (E M) (.int (fOpen t (M 2 0) (M 2 1) (M 2 2))) := by
  refine PT.of (by decide +kernel) (Nat.le_of_ble_eq_true rfl) (by intro v hv; simp only [List.mem_cons, List.not_mem_nil, or_false] at hv; rcases hv with rfl | rfl <;> rfl) ?_
  intro A ad0 p e s m args below meth c C hr
  refine J_iload_n C 1 d_Win_isOpen_0 rfl rfl ?_
  refine J_i2l C d_Win_isOpen_1 ?_
  refine J_aload_n C 0 d_Win_isOpen_2 rfl rfl ?_
  refine J_get C f_Win_7 (by decide) (e_2 _) rfl d_Win_isOpen_3 ?_
  refine J_i2l C d_Win_isOpen_6 ?_
  refine J_ladd C d_Win_isOpen_7 ?_
  refine J_aload_n C 0 d_Win_isOpen_8 rfl rfl ?_
  refine J_get C f_Win_13 (by decide) (e_2 _) rfl d_Win_isOpen_9 ?_
  refine J_i2l C d_Win_isOpen_12 ?_
  refine J_lrem C d_Win_isOpen_13 (by assumption) ?_
  refine J_aload_n C 0 d_Win_isOpen_14 rfl rfl ?_
  refine J_get C f_Win_16 (by decide) (e_2 _) rfl d_Win_isOpen_15 ?_
  refine J_i2l C d_Win_isOpen_18 ?_
  refine J_lcmp C d_Win_isOpen_19 ?_
  refine J_if_ge C 27 d_Win_isOpen_20 (by decide) (fun hc20 => ?_) (fun hc20 => ?_)
  · refine J_iconst C d_Win_isOpen_27 (v := nI 0) rfl ?_
    exact P_zretE C hr (Or.inl rfl) (by simp only [fOpen, hc20, if_true, if_false]; rfl) d_Win_isOpen_28
  · refine J_iconst C d_Win_isOpen_23 (v := nI 1) rfl ?_
    refine J_goto C 28 d_Win_isOpen_24 (by decide) ?_
    exact P_zretE C hr (Or.inr rfl) (by simp only [fOpen, hc20, if_true, if_false]; rfl) d_Win_isOpen_28

set_option maxHeartbeats 4000000 in
set_option maxRecDepth 100000 in
theorem f_set_2 (l : Launch) (D : va_G) (dA : Nat → ClassId) (M : Mem) (a b z : Int32) : CF l D dA k_Win_set 0 [.ref 2, .int a, .int b, .int z] M (none) (mu (mu (mu M 2 0 a) 2 1 b) 2 2 z) := by
  refine CF.of (by decide +kernel) (Nat.le_of_ble_eq_true rfl) (by intro v hv; simp only [List.mem_cons, List.not_mem_nil, or_false] at hv; rcases hv with rfl | rfl | rfl | rfl <;> rfl) ?_
  intro A ad0 p e s m args below meth c C hr
  refine J_aload_n C 0 d_Win_set_0 rfl rfl ?_
  refine J_iload_n C 1 d_Win_set_1 rfl rfl ?_
  refine K_putI C f_Win_7 (by decide) (e_2 _) (Nat.le_of_ble_eq_true rfl) rfl d_Win_set_2 (kk := ?_)
  refine J_aload_n C 0 d_Win_set_5 rfl rfl ?_
  refine J_iload_n C 2 d_Win_set_6 rfl rfl ?_
  refine K_putI C f_Win_13 (by decide) (e_2 _) (Nat.le_of_ble_eq_true rfl) rfl d_Win_set_7 (kk := ?_)
  refine J_aload_n C 0 d_Win_set_10 rfl rfl ?_
  refine J_iload_n C 3 d_Win_set_11 rfl rfl ?_
  refine K_putI C f_Win_16 (by decide) (e_2 _) (Nat.le_of_ble_eq_true rfl) rfl d_Win_set_12 (kk := ?_)
  exact F_ret C hr rfl d_Win_set_15
end
section
set_option maxHeartbeats 4000000 in
set_option maxRecDepth 100000 in
theorem p_isExpedited (l : Launch) (D : va_G) (dA : Nat → ClassId) (M : Mem) : PT l D dA k_Frm_isExpedited 0 90 [.ref 71] (E M) (.int (if (M 72 0 &&& nI 32) = 0 then 0 else 1)) := by
  refine PT.of (by decide +kernel) (Nat.le_of_ble_eq_true rfl) (by intro v hv; simp only [List.mem_cons, List.not_mem_nil, or_false] at hv; rcases hv with rfl <;> rfl) ?_
  intro A ad0 p e s m args below meth c C hr
  refine J_aload_n C 0 d_Frm_isExpedited_0 rfl rfl ?_
  refine J_get C f_Frm_9 (by decide) (e_71 _) rfl d_Frm_isExpedited_1 ?_
  refine J_iconst C d_Frm_isExpedited_4 (v := nI 0) rfl ?_
  refine K_ial C a_72 (j := 0) rfl (by omega) d_Frm_isExpedited_5 ?_
  refine J_bipush C d_Frm_isExpedited_6 (v := nI 32) rfl ?_
  refine J_iand C d_Frm_isExpedited_8 ?_
  refine J_if_eq C 16 d_Frm_isExpedited_9 (by decide) (fun hc9 => ?_) (fun hc9 => ?_)
  · refine J_iconst C d_Frm_isExpedited_16 (v := nI 0) rfl ?_
    exact P_zretE C hr (Or.inl rfl) (by simp only [hc9, if_true, if_false, if_pos, if_neg, not_false_eq_true]; try rfl) d_Frm_isExpedited_17
  · refine J_iconst C d_Frm_isExpedited_12 (v := nI 1) rfl ?_
    refine J_goto C 17 d_Frm_isExpedited_13 (by decide) ?_
    exact P_zretE C hr (Or.inr rfl) (by simp only [hc9, if_true, if_false, if_pos, if_neg, not_false_eq_true]; try rfl) d_Frm_isExpedited_17

set_option maxHeartbeats 4000000 in
set_option maxRecDepth 100000 in
theorem p_isDirective (l : Launch) (D : va_G) (dA : Nat → ClassId) (M : Mem) : PT l D dA k_Frm_isDirective 0 90 [.ref 71] (E M) (.int (if (M 72 0 &&& nI 16) = 0 then 0 else 1)) := by
  refine PT.of (by decide +kernel) (Nat.le_of_ble_eq_true rfl) (by intro v hv; simp only [List.mem_cons, List.not_mem_nil, or_false] at hv; rcases hv with rfl <;> rfl) ?_
  intro A ad0 p e s m args below meth c C hr
  refine J_aload_n C 0 d_Frm_isDirective_0 rfl rfl ?_
  refine J_get C f_Frm_9 (by decide) (e_71 _) rfl d_Frm_isDirective_1 ?_
  refine J_iconst C d_Frm_isDirective_4 (v := nI 0) rfl ?_
  refine K_ial C a_72 (j := 0) rfl (by omega) d_Frm_isDirective_5 ?_
  refine J_bipush C d_Frm_isDirective_6 (v := nI 16) rfl ?_
  refine J_iand C d_Frm_isDirective_8 ?_
  refine J_if_eq C 16 d_Frm_isDirective_9 (by decide) (fun hc9 => ?_) (fun hc9 => ?_)
  · refine J_iconst C d_Frm_isDirective_16 (v := nI 0) rfl ?_
    exact P_zretE C hr (Or.inl rfl) (by simp only [hc9, if_true, if_false, if_pos, if_neg, not_false_eq_true]; try rfl) d_Frm_isDirective_17
  · refine J_iconst C d_Frm_isDirective_12 (v := nI 1) rfl ?_
    refine J_goto C 17 d_Frm_isDirective_13 (by decide) ?_
    exact P_zretE C hr (Or.inr rfl) (by simp only [hc9, if_true, if_false, if_pos, if_neg, not_false_eq_true]; try rfl) d_Frm_isDirective_17

set_option maxHeartbeats 4000000 in
set_option maxRecDepth 100000 in
theorem p_form (l : Launch) (D : va_G) (dA : Nat → ClassId) (M : Mem) : PT l D dA k_Frm_form 0 90 [.ref 71] (E M) (.int ((M 72 0 >>> (nI 2 &&& 31)) &&& nI 3)) := by
  refine PT.of (by decide +kernel) (Nat.le_of_ble_eq_true rfl) (by intro v hv; simp only [List.mem_cons, List.not_mem_nil, or_false] at hv; rcases hv with rfl <;> rfl) ?_
  intro A ad0 p e s m args below meth c C hr
  refine J_aload_n C 0 d_Frm_form_0 rfl rfl ?_
  refine J_get C f_Frm_9 (by decide) (e_71 _) rfl d_Frm_form_1 ?_
  refine J_iconst C d_Frm_form_4 (v := nI 0) rfl ?_
  refine K_ial C a_72 (j := 0) rfl (by omega) d_Frm_form_5 ?_
  refine J_iconst C d_Frm_form_6 (v := nI 2) rfl ?_
  refine J_ishr C d_Frm_form_7 ?_
  refine J_iconst C d_Frm_form_8 (v := nI 3) rfl ?_
  refine J_iand C d_Frm_form_9 ?_
  exact P_iretE C hr rfl d_Frm_form_10

set_option maxHeartbeats 4000000 in
set_option maxRecDepth 100000 in
theorem p_spacecraft (l : Launch) (D : va_G) (dA : Nat → ClassId) (M : Mem) : PT l D dA k_Frm_spacecraft 0 90 [.ref 71] (E M) (.int ((M 72 0 &&& nI 3) * nI 256 + M 72 1)) := by
  refine PT.of (by decide +kernel) (Nat.le_of_ble_eq_true rfl) (by intro v hv; simp only [List.mem_cons, List.not_mem_nil, or_false] at hv; rcases hv with rfl <;> rfl) ?_
  intro A ad0 p e s m args below meth c C hr
  refine J_aload_n C 0 d_Frm_spacecraft_0 rfl rfl ?_
  refine J_get C f_Frm_9 (by decide) (e_71 _) rfl d_Frm_spacecraft_1 ?_
  refine J_iconst C d_Frm_spacecraft_4 (v := nI 0) rfl ?_
  refine K_ial C a_72 (j := 0) rfl (by omega) d_Frm_spacecraft_5 ?_
  refine J_iconst C d_Frm_spacecraft_6 (v := nI 3) rfl ?_
  refine J_iand C d_Frm_spacecraft_7 ?_
  refine J_sipush C d_Frm_spacecraft_8 (v := nI 256) rfl ?_
  refine J_imul C d_Frm_spacecraft_11 ?_
  refine J_aload_n C 0 d_Frm_spacecraft_12 rfl rfl ?_
  refine J_get C f_Frm_9 (by decide) (e_71 _) rfl d_Frm_spacecraft_13 ?_
  refine J_iconst C d_Frm_spacecraft_16 (v := nI 1) rfl ?_
  refine K_ial C a_72 (j := 1) rfl (by omega) d_Frm_spacecraft_17 ?_
  refine J_iadd C d_Frm_spacecraft_18 ?_
  exact P_iretE C hr rfl d_Frm_spacecraft_19

set_option maxHeartbeats 4000000 in
set_option maxRecDepth 100000 in
theorem p_channel (l : Launch) (D : va_G) (dA : Nat → ClassId) (M : Mem) : PT l D dA k_Frm_channel 0 90 [.ref 71] (E M) (.int (M 72 2 >>> (nI 7 &&& 31))) := by
  refine PT.of (by decide +kernel) (Nat.le_of_ble_eq_true rfl) (by intro v hv; simp only [List.mem_cons, List.not_mem_nil, or_false] at hv; rcases hv with rfl <;> rfl) ?_
  intro A ad0 p e s m args below meth c C hr
  refine J_aload_n C 0 d_Frm_channel_0 rfl rfl ?_
  refine J_get C f_Frm_9 (by decide) (e_71 _) rfl d_Frm_channel_1 ?_
  refine J_iconst C d_Frm_channel_4 (v := nI 2) rfl ?_
  refine K_ial C a_72 (j := 2) rfl (by omega) d_Frm_channel_5 ?_
  refine J_bipush C d_Frm_channel_6 (v := nI 7) rfl ?_
  refine J_ishr C d_Frm_channel_8 ?_
  exact P_iretE C hr rfl d_Frm_channel_9

set_option maxHeartbeats 4000000 in
set_option maxRecDepth 100000 in
theorem p_number (l : Launch) (D : va_G) (dA : Nat → ClassId) (M : Mem) : PT l D dA k_Frm_number 0 90 [.ref 71] (E M) (.int (M 72 4)) := by
  refine PT.of (by decide +kernel) (Nat.le_of_ble_eq_true rfl) (by intro v hv; simp only [List.mem_cons, List.not_mem_nil, or_false] at hv; rcases hv with rfl <;> rfl) ?_
  intro A ad0 p e s m args below meth c C hr
  refine J_aload_n C 0 d_Frm_number_0 rfl rfl ?_
  refine J_get C f_Frm_9 (by decide) (e_71 _) rfl d_Frm_number_1 ?_
  refine J_iconst C d_Frm_number_4 (v := nI 4) rfl ?_
  refine K_ial C a_72 (j := 4) rfl (by omega) d_Frm_number_5 ?_
  exact P_iretE C hr rfl d_Frm_number_6

set_option maxHeartbeats 4000000 in
set_option maxRecDepth 100000 in
theorem p_dataLength (l : Launch) (D : va_G) (dA : Nat → ClassId) (M : Mem) (L : Nat) (hL : M 71 1 = nI L) (h5 : 5 ≤ L) : PT l D dA k_Frm_dataLength 0 90 [.ref 71] (E M) (.int (nI (L - 5))) := by
  refine PT.of (by decide +kernel) (Nat.le_of_ble_eq_true rfl) (by intro v hv; simp only [List.mem_cons, List.not_mem_nil, or_false] at hv; rcases hv with rfl <;> rfl) ?_
  intro A ad0 p e s m args below meth c C hr
  refine J_aload_n C 0 d_Frm_dataLength_0 rfl rfl ?_
  refine J_get C f_Frm_13 (by decide) (e_71 _) rfl d_Frm_dataLength_1 ?_
  refine J_val (y := nI L) hL ?_
  refine J_iconst C d_Frm_dataLength_4 (v := nI 5) rfl ?_
  refine J_isubN C d_Frm_dataLength_5 (by omega) ?_
  exact P_iretE C hr rfl d_Frm_dataLength_6

set_option maxHeartbeats 4000000 in
set_option maxRecDepth 100000 in
theorem p_data (l : Launch) (D : va_G) (dA : Nat → ClassId) (M : Mem) (L k : Nat) (hL : M 71 1 = nI L) (h5 : 5 ≤ L) (h64 : L ≤ 64) (hk : k < 1000) : PT l D dA k_Frm_data 0 90 [.ref 71, .int (nI k)] (E M) (.int (if L - 5 ≤ k then 0 else M 72 (5 + k))) := by
  refine PT.of (by decide +kernel) (Nat.le_of_ble_eq_true rfl) (by intro v hv; simp only [List.mem_cons, List.not_mem_nil, or_false] at hv; rcases hv with rfl | rfl <;> rfl) ?_
  intro A ad0 p e s m args below meth c C hr
  refine J_iload_n C 1 d_Frm_data_0 rfl rfl ?_
  refine J_ifN_lt C d_Frm_data_1 25 (by decide) (by omega) ?_
  refine J_iload_n C 1 d_Frm_data_4 rfl rfl ?_
  refine J_aload_n C 0 d_Frm_data_5 rfl rfl ?_
  refine J_get C f_Frm_13 (by decide) (e_71 _) rfl d_Frm_data_6 ?_
  refine J_val (y := nI L) hL ?_
  refine J_iconst C d_Frm_data_9 (v := nI 5) rfl ?_
  refine J_isubN C d_Frm_data_10 (by omega) ?_
  refine J_icmpN_ge C 25 d_Frm_data_11 (by decide) (by omega) (by omega) (fun hc11 => ?_) (fun hc11 => ?_)
  · refine J_iconst C d_Frm_data_25 (v := nI 0) rfl ?_
    exact P_iretE C hr (by first | (rw [if_pos (by omega)]; rfl) | (rw [if_neg (by omega)])) d_Frm_data_26
  · refine J_aload_n C 0 d_Frm_data_14 rfl rfl ?_
    refine J_get C f_Frm_9 (by decide) (e_71 _) rfl d_Frm_data_15 ?_
    refine J_iconst C d_Frm_data_18 (v := nI 5) rfl ?_
    refine J_iload_n C 1 d_Frm_data_19 rfl rfl ?_
    refine J_iaddN C d_Frm_data_20 ?_
    refine K_ial C a_72 (j := 5 + k) rfl (by omega) d_Frm_data_21 ?_
    refine J_goto C 26 d_Frm_data_22 (by decide) ?_
    exact P_iretE C hr (by first | (rw [if_pos (by omega)]; rfl) | (rw [if_neg (by omega)])) d_Frm_data_26

set_option maxHeartbeats 4000000 in
set_option maxRecDepth 100000 in
theorem p_blocksFor (l : Launch) (D : va_G) (dA : Nat → ClassId) (M : Mem) (n : Nat) (hn : n < 1000) : PT l D dA k_Sto_blocksFor 0 90 [.int (nI n)] (E M) (.int (nI ((n + 20 - 1) / 20))) := by
  refine PT.of (by decide +kernel) (Nat.le_of_ble_eq_true rfl) (by intro v hv; simp only [List.mem_cons, List.not_mem_nil, or_false] at hv; rcases hv with rfl <;> rfl) ?_
  intro A ad0 p e s m args below meth c C hr
  refine J_iload_n C 0 d_Sto_blocksFor_0 rfl rfl ?_
  refine J_bipush C d_Sto_blocksFor_1 (v := nI 20) rfl ?_
  refine J_iaddN C d_Sto_blocksFor_3 ?_
  refine J_iconst C d_Sto_blocksFor_4 (v := nI 1) rfl ?_
  refine J_isubN C d_Sto_blocksFor_5 (by omega) ?_
  refine J_bipush C d_Sto_blocksFor_6 (v := nI 20) rfl ?_
  refine J_idivN C d_Sto_blocksFor_8 (by omega) (by omega) (by omega) ?_
  exact P_iretE C hr rfl d_Sto_blocksFor_9

set_option maxHeartbeats 4000000 in
set_option maxRecDepth 100000 in
theorem p_hasRoom (l : Launch) (D : va_G) (dA : Nat → ClassId) (M : Mem) (b f : Nat) (hf : M 3 4 = nI f) (hb : b < 1000) (hf2 : f < 1000) : PT l D dA k_Sto_hasRoom 0 90 [.ref 3, .int (nI b)] (E M) (.int (if f < b then 0 else 1)) := by
  refine PT.of (by decide +kernel) (Nat.le_of_ble_eq_true rfl) (by intro v hv; simp only [List.mem_cons, List.not_mem_nil, or_false] at hv; rcases hv with rfl | rfl <;> rfl) ?_
  intro A ad0 p e s m args below meth c C hr
  refine J_iload_n C 1 d_Sto_hasRoom_0 rfl rfl ?_
  refine J_aload_n C 0 d_Sto_hasRoom_1 rfl rfl ?_
  refine J_get C f_Sto_27 (by decide) (e_3 _) rfl d_Sto_hasRoom_2 ?_
  refine J_val (y := nI f) hf ?_
  refine J_icmpN_gt C 12 d_Sto_hasRoom_5 (by decide) (by omega) (by omega) (fun hc5 => ?_) (fun hc5 => ?_)
  · refine J_iconst C d_Sto_hasRoom_12 (v := nI 0) rfl ?_
    exact P_zretE C hr (Or.inl rfl) (by first | (rw [if_pos (by omega)]; rfl) | (rw [if_neg (by omega)]; rfl)) d_Sto_hasRoom_13
  · refine J_iconst C d_Sto_hasRoom_8 (v := nI 1) rfl ?_
    refine J_goto C 13 d_Sto_hasRoom_9 (by decide) ?_
    exact P_zretE C hr (Or.inr rfl) (by first | (rw [if_pos (by omega)]; rfl) | (rw [if_neg (by omega)]; rfl)) d_Sto_hasRoom_13

set_option maxHeartbeats 4000000 in
set_option maxRecDepth 100000 in
theorem p_has (l : Launch) (D : va_G) (dA : Nat → ClassId) (M : Mem) (i : Int32) : PT l D dA k_Sto_has 0 90 [.ref 3, .int i] (E M) (.int (if i < 0 then 0 else if M 3 3 ≤ i then 0 else 1)) := by
  refine PT.of (by decide +kernel) (Nat.le_of_ble_eq_true rfl) (by intro v hv; simp only [List.mem_cons, List.not_mem_nil, or_false] at hv; rcases hv with rfl | rfl <;> rfl) ?_
  intro A ad0 p e s m args below meth c C hr
  refine J_iload_n C 1 d_Sto_has_0 rfl rfl ?_
  refine J_if_lt C 16 d_Sto_has_1 (by decide) (fun hc1 => ?_) (fun hc1 => ?_)
  · refine J_iconst C d_Sto_has_16 (v := nI 0) rfl ?_
    exact P_zretE C hr (Or.inl rfl) (by simp only [hc1, if_true, if_false, if_pos, if_neg, not_false_eq_true]; try rfl) d_Sto_has_17
  · refine J_iload_n C 1 d_Sto_has_4 rfl rfl ?_
    refine J_aload_n C 0 d_Sto_has_5 rfl rfl ?_
    refine J_get C f_Sto_23 (by decide) (e_3 _) rfl d_Sto_has_6 ?_
    refine J_icmp_ge C 16 d_Sto_has_9 (by decide) (fun hc9 => ?_) (fun hc9 => ?_)
    · refine J_iconst C d_Sto_has_16 (v := nI 0) rfl ?_
      exact P_zretE C hr (Or.inl rfl) (by simp only [hc1, hc9, if_true, if_false, if_pos, if_neg, not_false_eq_true]; try rfl) d_Sto_has_17
    · refine J_iconst C d_Sto_has_12 (v := nI 1) rfl ?_
      refine J_goto C 17 d_Sto_has_13 (by decide) ?_
      exact P_zretE C hr (Or.inr rfl) (by simp only [hc1, hc9, if_true, if_false, if_pos, if_neg, not_false_eq_true]; try rfl) d_Sto_has_17

set_option maxHeartbeats 4000000 in
set_option maxRecDepth 100000 in
theorem p_byteOf (l : Launch) (D : va_G) (dA : Nat → ClassId) (M : Mem) (j k b : Nat) (hj : j < 24) (hk : k < 60) (hb : M (8 + 2 * j) (k / 20) = nI b) (hb2 : b < 24) : PT l D dA k_Sto_byteOf 0 90 [.ref 3, .ref (7 + 2 * j), .int (nI k)] (E M) (.int (M 4 (b * 20 + k % 20))) := by
  refine PT.of (by decide +kernel) (Nat.le_of_ble_eq_true rfl) (by intro v hv; simp only [List.mem_cons, List.not_mem_nil, or_false] at hv; rcases hv with rfl | rfl | rfl <;> rfl) ?_
  intro A ad0 p e s m args below meth c C hr
  refine J_aload_n C 0 d_Sto_byteOf_0 rfl rfl ?_
  refine J_get C f_Sto_9 (by decide) (e_3 _) rfl d_Sto_byteOf_1 ?_
  refine J_aload_n C 1 d_Sto_byteOf_4 rfl rfl ?_
  refine J_get C f_Sto_47 (by omega) (e_pk _ (by omega)) rfl d_Sto_byteOf_5 ?_
  refine J_iload_n C 2 d_Sto_byteOf_8 rfl rfl ?_
  refine J_bipush C d_Sto_byteOf_9 (v := nI 20) rfl ?_
  refine J_idivN C d_Sto_byteOf_11 (by omega) (by omega) (by omega) ?_
  refine K_ial C (a_pb (by omega)) (j := k / 20) rfl (by omega) d_Sto_byteOf_12 ?_
  refine J_val (y := nI b) hb ?_
  refine J_bipush C d_Sto_byteOf_13 (v := nI 20) rfl ?_
  refine J_imulN C d_Sto_byteOf_15 ?_
  refine J_iload_n C 2 d_Sto_byteOf_16 rfl rfl ?_
  refine J_bipush C d_Sto_byteOf_17 (v := nI 20) rfl ?_
  refine J_iremN C d_Sto_byteOf_19 (by omega) (by omega) (by omega) ?_
  refine J_iaddN C d_Sto_byteOf_20 ?_
  refine K_ial C a_4 (j := (b * 20) + (k % 20)) rfl (by omega) d_Sto_byteOf_21 ?_
  exact P_iretE C hr rfl d_Sto_byteOf_22

def fPla (f : Nat → Int32) (n a : Nat) : Int32 :=
  if n - a < 7 then 0 else if f a < nI 8 then 0 else if f a ≤ nI 15 then (if nI (n - a) < f (a + 4) * nI 256 + f (a + 5) + nI 7 then 0 else f (a + 4) * nI 256 + f (a + 5) + nI 7) else 0
set_option maxHeartbeats 4000000 in
set_option maxRecDepth 100000 in
theorem p_packetLengthAt (l : Launch) (D : va_G) (dA : Nat → ClassId) (M : Mem) (n a : Nat) (hn : M 56 3 = nI n) (hn2 : n ≤ 60) (ha : a ≤ n) : PT l D dA k_Har_packetLengthAt 0 90 [.ref 56, .int (nI a)] (E M) (.int (fPla (M 57) n a)) := by
  refine PT.of (by decide +kernel) (Nat.le_of_ble_eq_true rfl) (by intro v hv; simp only [List.mem_cons, List.not_mem_nil, or_false] at hv; rcases hv with rfl | rfl <;> rfl) ?_
  intro A ad0 p e s m args below meth c C hr
  refine J_aload_n C 0 d_Har_packetLengthAt_0 rfl rfl ?_
  refine J_get C f_Har_21 (by decide) (e_56 _) rfl d_Har_packetLengthAt_1 ?_
  refine J_val (y := nI n) hn ?_
  refine J_iload_n C 1 d_Har_packetLengthAt_4 rfl rfl ?_
  refine J_isubN C d_Har_packetLengthAt_5 (by omega) ?_
  refine J_bipush C d_Har_packetLengthAt_6 (v := nI 7) rfl ?_
  refine J_icmpN_lt C 33 d_Har_packetLengthAt_8 (by decide) (by omega) (by omega) (fun hc8 => ?_) (fun hc8 => ?_)
  · refine J_iconst C d_Har_packetLengthAt_33 (v := nI 0) rfl ?_
    exact P_iretE C hr (by simp only [fPla]; first | (rw [if_pos (by omega)]; rfl) | (rw [if_neg (by omega)]; simp only [hc8, if_true, if_false, not_false_eq_true]; try rfl)) d_Har_packetLengthAt_34
  · refine J_aload_n C 0 d_Har_packetLengthAt_11 rfl rfl ?_
    refine J_get C f_Har_9 (by decide) (e_56 _) rfl d_Har_packetLengthAt_12 ?_
    refine J_iload_n C 1 d_Har_packetLengthAt_15 rfl rfl ?_
    refine K_ial C a_57 (j := a) rfl (by omega) d_Har_packetLengthAt_16 ?_
    refine J_bipush C d_Har_packetLengthAt_17 (v := nI 8) rfl ?_
    refine J_icmp_lt C 33 d_Har_packetLengthAt_19 (by decide) (fun hc19 => ?_) (fun hc19 => ?_)
    · refine J_iconst C d_Har_packetLengthAt_33 (v := nI 0) rfl ?_
      exact P_iretE C hr (by simp only [fPla]; first | (rw [if_pos (by omega)]; rfl) | (rw [if_neg (by omega)]; simp only [hc8, hc19, if_true, if_false, not_false_eq_true]; try rfl)) d_Har_packetLengthAt_34
    · refine J_aload_n C 0 d_Har_packetLengthAt_22 rfl rfl ?_
      refine J_get C f_Har_9 (by decide) (e_56 _) rfl d_Har_packetLengthAt_23 ?_
      refine J_iload_n C 1 d_Har_packetLengthAt_26 rfl rfl ?_
      refine K_ial C a_57 (j := a) rfl (by omega) d_Har_packetLengthAt_27 ?_
      refine J_bipush C d_Har_packetLengthAt_28 (v := nI 15) rfl ?_
      refine J_icmp_le C 35 d_Har_packetLengthAt_30 (by decide) (fun hc30 => ?_) (fun hc30 => ?_)
      · refine J_aload_n C 0 d_Har_packetLengthAt_35 rfl rfl ?_
        refine J_get C f_Har_9 (by decide) (e_56 _) rfl d_Har_packetLengthAt_36 ?_
        refine J_iload_n C 1 d_Har_packetLengthAt_39 rfl rfl ?_
        refine J_iconst C d_Har_packetLengthAt_40 (v := nI 4) rfl ?_
        refine J_iaddN C d_Har_packetLengthAt_41 ?_
        refine K_ial C a_57 (j := a + 4) rfl (by omega) d_Har_packetLengthAt_42 ?_
        refine J_sipush C d_Har_packetLengthAt_43 (v := nI 256) rfl ?_
        refine J_imul C d_Har_packetLengthAt_46 ?_
        refine J_aload_n C 0 d_Har_packetLengthAt_47 rfl rfl ?_
        refine J_get C f_Har_9 (by decide) (e_56 _) rfl d_Har_packetLengthAt_48 ?_
        refine J_iload_n C 1 d_Har_packetLengthAt_51 rfl rfl ?_
        refine J_iconst C d_Har_packetLengthAt_52 (v := nI 5) rfl ?_
        refine J_iaddN C d_Har_packetLengthAt_53 ?_
        refine K_ial C a_57 (j := a + 5) rfl (by omega) d_Har_packetLengthAt_54 ?_
        refine J_iadd C d_Har_packetLengthAt_55 ?_
        refine J_bipush C d_Har_packetLengthAt_56 (v := nI 7) rfl ?_
        refine J_iadd C d_Har_packetLengthAt_58 ?_
        refine J_istore_n C 2 d_Har_packetLengthAt_59 rfl (by decide) rfl ?_
        refine J_iload_n C 2 d_Har_packetLengthAt_60 rfl rfl ?_
        refine J_aload_n C 0 d_Har_packetLengthAt_61 rfl rfl ?_
        refine J_get C f_Har_21 (by decide) (e_56 _) rfl d_Har_packetLengthAt_62 ?_
        refine J_val (y := nI n) hn ?_
        refine J_iload_n C 1 d_Har_packetLengthAt_65 rfl rfl ?_
        refine J_isubN C d_Har_packetLengthAt_66 (by omega) ?_
        refine J_icmp_gt C 74 d_Har_packetLengthAt_67 (by decide) (fun hc67 => ?_) (fun hc67 => ?_)
        · refine J_iconst C d_Har_packetLengthAt_74 (v := nI 0) rfl ?_
          exact P_iretE C hr (by simp only [fPla]; first | (rw [if_pos (by omega)]; rfl) | (rw [if_neg (by omega)]; simp only [hc8, hc19, hc30, hc67, if_true, if_false, not_false_eq_true]; try rfl)) d_Har_packetLengthAt_75
        · refine J_iload_n C 2 d_Har_packetLengthAt_70 rfl rfl ?_
          refine J_goto C 75 d_Har_packetLengthAt_71 (by decide) ?_
          exact P_iretE C hr (by simp only [fPla]; first | (rw [if_pos (by omega)]; rfl) | (rw [if_neg (by omega)]; simp only [hc8, hc19, hc30, hc67, if_true, if_false, not_false_eq_true]; try rfl)) d_Har_packetLengthAt_75
      · refine J_iconst C d_Har_packetLengthAt_33 (v := nI 0) rfl ?_
        exact P_iretE C hr (by simp only [fPla]; first | (rw [if_pos (by omega)]; rfl) | (rw [if_neg (by omega)]; simp only [hc8, hc19, hc30, if_true, if_false, not_false_eq_true]; try rfl)) d_Har_packetLengthAt_34
end
section
/-- a packet's length at a, in a row of n bytes g; 0 if there is none -/
def Pla (g : Nat → Nat) (n a : Nat) : Nat := if n - a < 7 then 0 else if g a < 8 then 0 else if 15 < g a then 0 else if n - a < g (a + 4) * 256 + g (a + 5) + 7 then 0 else g (a + 4) * 256 + g (a + 5) + 7
theorem Pla_le (g : Nat → Nat) (n a : Nat) : Pla g n a ≤ n - a := by unfold Pla; split; omega; split; omega; split; omega; split <;> omega
def nb (n : Nat) : Nat := (n + 19) / 20
set_option maxHeartbeats 4000000 in
set_option maxRecDepth 100000 in
theorem p_pla (l : Launch) (D : va_G) (dA : Nat → ClassId) (M : Mem) (n a : Nat) (hn : M 56 3 = nI n) (hn2 : n ≤ 60) (ha : a ≤ n) (g : Nat → Nat) (hg : ∀ i, i < n → M 57 i = nI (g i)) (hg2 : ∀ i, i < n → g i < 256) : PT l D dA k_Har_packetLengthAt 0 90 [.ref 56, .int (nI a)] (E M) (.int (nI (Pla g n a))) := by
  refine PT.of (by decide +kernel) (Nat.le_of_ble_eq_true rfl) (by intro v hv; simp only [List.mem_cons, List.not_mem_nil, or_false] at hv; rcases hv with rfl | rfl <;> rfl) ?_
  intro A ad0 p e s m args below meth c C hr
  refine J_aload_n C 0 d_Har_packetLengthAt_0 rfl rfl ?_
  refine J_get C f_Har_21 (by decide) (e_56 _) rfl d_Har_packetLengthAt_1 ?_
  refine J_val (y := nI n) hn ?_
  refine J_iload_n C 1 d_Har_packetLengthAt_4 rfl rfl ?_
  refine J_isubN C d_Har_packetLengthAt_5 (by omega) ?_
  refine J_bipush C d_Har_packetLengthAt_6 (v := nI 7) rfl ?_
  refine J_icmpN_lt C 33 d_Har_packetLengthAt_8 (by decide) (by omega) (by omega) (fun hc8 => ?_) (fun hc8 => ?_)
  · refine J_iconst C d_Har_packetLengthAt_33 (v := nI 0) rfl ?_
    exact P_iretE C hr (by unfold Pla; (repeat' split) <;> first | rfl | (exfalso; omega)) d_Har_packetLengthAt_34
  · refine J_aload_n C 0 d_Har_packetLengthAt_11 rfl rfl ?_
    refine J_get C f_Har_9 (by decide) (e_56 _) rfl d_Har_packetLengthAt_12 ?_
    refine J_iload_n C 1 d_Har_packetLengthAt_15 rfl rfl ?_
    refine K_ial C a_57 (j := a) rfl (by omega) d_Har_packetLengthAt_16 ?_
    refine J_val (y := nI (g a)) (hg _ (by omega)) ?_
    have b1 := hg2 a (by omega)
    refine J_bipush C d_Har_packetLengthAt_17 (v := nI 8) rfl ?_
    refine J_icmpN_lt C 33 d_Har_packetLengthAt_19 (by decide) (by omega) (by omega) (fun hc19 => ?_) (fun hc19 => ?_)
    · refine J_iconst C d_Har_packetLengthAt_33 (v := nI 0) rfl ?_
      exact P_iretE C hr (by unfold Pla; (repeat' split) <;> first | rfl | (exfalso; omega)) d_Har_packetLengthAt_34
    · refine J_aload_n C 0 d_Har_packetLengthAt_22 rfl rfl ?_
      refine J_get C f_Har_9 (by decide) (e_56 _) rfl d_Har_packetLengthAt_23 ?_
      refine J_iload_n C 1 d_Har_packetLengthAt_26 rfl rfl ?_
      refine K_ial C a_57 (j := a) rfl (by omega) d_Har_packetLengthAt_27 ?_
      refine J_val (y := nI (g a)) (hg _ (by omega)) ?_
      refine J_bipush C d_Har_packetLengthAt_28 (v := nI 15) rfl ?_
      refine J_icmpN_le C 35 d_Har_packetLengthAt_30 (by decide) (by omega) (by omega) (fun hc30 => ?_) (fun hc30 => ?_)
      · have b4 := hg2 (a + 4) (by omega)
        have b5 := hg2 (a + 5) (by omega)
        refine J_aload_n C 0 d_Har_packetLengthAt_35 rfl rfl ?_
        refine J_get C f_Har_9 (by decide) (e_56 _) rfl d_Har_packetLengthAt_36 ?_
        refine J_iload_n C 1 d_Har_packetLengthAt_39 rfl rfl ?_
        refine J_iconst C d_Har_packetLengthAt_40 (v := nI 4) rfl ?_
        refine J_iaddN C d_Har_packetLengthAt_41 ?_
        refine K_ial C a_57 (j := a + 4) rfl (by omega) d_Har_packetLengthAt_42 ?_
        refine J_val (y := nI (g (a + 4))) (hg _ (by omega)) ?_
        refine J_sipush C d_Har_packetLengthAt_43 (v := nI 256) rfl ?_
        refine J_imulN C d_Har_packetLengthAt_46 ?_
        refine J_aload_n C 0 d_Har_packetLengthAt_47 rfl rfl ?_
        refine J_get C f_Har_9 (by decide) (e_56 _) rfl d_Har_packetLengthAt_48 ?_
        refine J_iload_n C 1 d_Har_packetLengthAt_51 rfl rfl ?_
        refine J_iconst C d_Har_packetLengthAt_52 (v := nI 5) rfl ?_
        refine J_iaddN C d_Har_packetLengthAt_53 ?_
        refine K_ial C a_57 (j := a + 5) rfl (by omega) d_Har_packetLengthAt_54 ?_
        refine J_val (y := nI (g (a + 5))) (hg _ (by omega)) ?_
        refine J_iaddN C d_Har_packetLengthAt_55 ?_
        refine J_bipush C d_Har_packetLengthAt_56 (v := nI 7) rfl ?_
        refine J_iaddN C d_Har_packetLengthAt_58 ?_
        refine J_istore_n C 2 d_Har_packetLengthAt_59 rfl (by decide) rfl ?_
        refine J_iload_n C 2 d_Har_packetLengthAt_60 rfl rfl ?_
        refine J_aload_n C 0 d_Har_packetLengthAt_61 rfl rfl ?_
        refine J_get C f_Har_21 (by decide) (e_56 _) rfl d_Har_packetLengthAt_62 ?_
        refine J_val (y := nI n) hn ?_
        refine J_iload_n C 1 d_Har_packetLengthAt_65 rfl rfl ?_
        refine J_isubN C d_Har_packetLengthAt_66 (by omega) ?_
        refine J_icmpN_gt C 74 d_Har_packetLengthAt_67 (by decide) (by omega) (by omega) (fun hc67 => ?_) (fun hc67 => ?_)
        · refine J_iconst C d_Har_packetLengthAt_74 (v := nI 0) rfl ?_
          exact P_iretE C hr (by unfold Pla; (repeat' split) <;> first | rfl | (exfalso; omega)) d_Har_packetLengthAt_75
        · refine J_iload_n C 2 d_Har_packetLengthAt_70 rfl rfl ?_
          refine J_goto C 75 d_Har_packetLengthAt_71 (by decide) ?_
          exact P_iretE C hr (by unfold Pla; (repeat' split) <;> first | rfl | (exfalso; omega)) d_Har_packetLengthAt_75
      · refine J_iconst C d_Har_packetLengthAt_33 (v := nI 0) rfl ?_
        exact P_iretE C hr (by unfold Pla; (repeat' split) <;> first | rfl | (exfalso; omega)) d_Har_packetLengthAt_34

set_option maxHeartbeats 4000000 in
set_option maxRecDepth 100000 in
theorem f_hclear (l : Launch) (D : va_G) (dA : Nat → ClassId) (M : Mem) : CF l D dA k_Har_clear 0 [.ref 56] M (none) (mu (mu M 56 3 (nI 0)) 56 4 (nI 0)) := by
  refine CF.of (by decide +kernel) (Nat.le_of_ble_eq_true rfl) (by intro v hv; simp only [List.mem_cons, List.not_mem_nil, or_false] at hv; rcases hv with rfl <;> rfl) ?_
  intro A ad0 p e s m args below meth c C hr
  refine J_aload_n C 0 d_Har_clear_0 rfl rfl ?_
  refine J_iconst C d_Har_clear_1 (v := nI 0) rfl ?_
  refine K_putI C f_Har_21 (by decide) (e_56 _) (Nat.le_of_ble_eq_true rfl) rfl d_Har_clear_2 (kk := ?_)
  refine J_aload_n C 0 d_Har_clear_5 rfl rfl ?_
  refine J_iconst C d_Har_clear_6 (v := nI 0) rfl ?_
  refine K_putI C f_Har_25 (by decide) (e_56 _) (Nat.le_of_ble_eq_true rfl) rfl d_Har_clear_7 (kk := ?_)
  exact F_ret C hr rfl d_Har_clear_10

set_option maxHeartbeats 4000000 in
set_option maxRecDepth 100000 in
theorem f_append (l : Launch) (D : va_G) (dA : Nat → ClassId) (M : Mem) (n : Nat) (v : Int32) (hn : M 56 3 = nI n) (hn2 : n < 60) : CF l D dA k_Har_append 0 [.ref 56, .int v] M (none) (mu (mu M 57 n v) 56 3 (nI (n + 1))) := by
  refine CF.of (by decide +kernel) (Nat.le_of_ble_eq_true rfl) (by intro v hv; simp only [List.mem_cons, List.not_mem_nil, or_false] at hv; rcases hv with rfl | rfl <;> rfl) ?_
  intro A ad0 p e s m args below meth c C hr
  refine J_aload_n C 0 d_Har_append_0 rfl rfl ?_
  refine J_get C f_Har_21 (by decide) (e_56 _) rfl d_Har_append_1 ?_
  refine J_val (y := nI n) hn ?_
  refine J_bipush C d_Har_append_4 (v := nI 60) rfl ?_
  refine J_icmpN_ge C 29 d_Har_append_6 (by decide) (by omega) (by omega) (fun hc6 => absurd hc6 (by omega)) (fun hc6 => ?_)
  refine J_aload_n C 0 d_Har_append_9 rfl rfl ?_
  refine J_get C f_Har_9 (by decide) (e_56 _) rfl d_Har_append_10 ?_
  refine J_aload_n C 0 d_Har_append_13 rfl rfl ?_
  refine J_get C f_Har_21 (by decide) (e_56 _) rfl d_Har_append_14 ?_
  refine J_val (y := nI n) hn ?_
  refine J_iload_n C 1 d_Har_append_17 rfl rfl ?_
  refine K_ias C a_57 (j := n) rfl (by omega) d_Har_append_18 (kk := ?_)
  refine J_aload_n C 0 d_Har_append_19 rfl rfl ?_
  refine J_dup C d_Har_append_20 rfl ?_
  refine J_get C f_Har_21 (by decide) (e_56 _) rfl d_Har_append_21 ?_
  refine J_val (y := nI n) (by simp [mu, ma, va_up, upd, hn]) ?_
  refine J_iconst C d_Har_append_24 (v := nI 1) rfl ?_
  refine J_iaddN C d_Har_append_25 ?_
  refine K_putI C f_Har_21 (by decide) (e_56 _) (Nat.le_of_ble_eq_true rfl) rfl d_Har_append_26 (kk := ?_)
  exact F_ret C hr rfl d_Har_append_29

/-- what findPackets writes: from place a on, c packets found before, at most r more -/
def fFind (g : Nat → Nat) (n : Nat) : Nat → Nat → Nat → Mem → Mem
  | 0, _, _, M => M
  | r + 1, a, c, M => if Pla g n a = 0 then M else fFind g n r (a + Pla g n a) (c + 1) (mu (mu (mu M 58 c (nI a)) 59 c (nI (Pla g n a))) 56 4 (nI (c + 1)))
set_option maxHeartbeats 4000000 in
set_option maxRecDepth 100000 in
theorem f_findPackets (l : Launch) (D : va_G) (dA : Nat → ClassId) (M M9 : Mem) (n : Nat) (g : Nat → Nat) (hn : M 56 3 = nI n) (hn2 : n ≤ 60) (hc : M 56 4 = nI 0) (hg : ∀ i, i < n → M 57 i = nI (g i)) (hg2 : ∀ i, i < n → g i < 256) (h9 : fFind g n 8 0 0 M = M9) : CF l D dA k_Har_findPackets 1 [.ref 56] M (none) (M9) := by
  refine CF.of (by decide +kernel) (Nat.le_of_ble_eq_true rfl) (by intro v hv; simp only [List.mem_cons, List.not_mem_nil, or_false] at hv; rcases hv with rfl <;> rfl) ?_
  intro A ad0 p e s m args below meth c C hr
  have lp : ∀ (fu : Nat) (a : Nat) (k : Nat) (M : Mem), 8 - k < fu → (k ≤ 8) → (a ≤ n) → (M 56 3 = nI n) → (M 56 4 = nI k) → (∀ i, i < n → M 57 i = nI (g i)) → (fFind g n (8 - k) a k M = M9) → J D dA A (fun _ _ => True) ad0 90 k_Har_findPackets.2.2.1 p l e (zR 1 0 0) s m args below meth c (FQ D dA A ad0 below args s (none) (M9)) 4 [some (.ref 56), some (.int (nI a)), some (.int (nI k)), none] [] (E M) 90 0 0 := by
    intro fu
    induction fu with
    | zero => intro a k M hfu; exact absurd hfu (Nat.not_lt_zero _)
    | succ fu ih =>
      intro a k M hfu hk ha hn hc hg hF
      refine J_iload_n C 2 d_Har_findPackets_4 rfl rfl ?_
      refine J_bipush C d_Har_findPackets_5 (v := nI 8) rfl ?_
      refine J_icmpN_ge C 61 d_Har_findPackets_7 (by decide) (by omega) (by omega) (fun hc7 => ?_) (fun hc7 => ?_)
      · exact F_ret C hr (by rw [show 8 - k = 0 by omega] at hF; exact hF) d_Har_findPackets_61
      · refine J_aload_n C 0 d_Har_findPackets_10 rfl rfl ?_
        refine J_iload_n C 1 d_Har_findPackets_11 rfl rfl ?_
        refine P_callV C (as := [.int (nI a)]) (st := []) (p_pla l D dA M n a (by first | assumption | simpa [mu, va_up] using hn) hn2 (by omega) g (by first | assumption | simpa [mu, va_up] using hg) hg2) l_Har_28 v_Har_packetLengthAt (by decide) (e_56 _) rfl (by decide) (by decide) (by decide) (Nat.le_of_ble_eq_true rfl) d_Har_findPackets_12 (kk := ?_)
        refine J_istore_n C 3 d_Har_findPackets_15 rfl (by decide) rfl ?_
        refine J_iload_n C 3 d_Har_findPackets_16 rfl rfl ?_
        have hq := Pla_le g n a
        refine J_ifN_ne C 21 d_Har_findPackets_17 (by decide) (by omega) (fun hc17 => ?_) (fun hc17 => ?_)
        · refine J_aload_n C 0 d_Har_findPackets_21 rfl rfl ?_
          refine J_get C f_Har_15 (by decide) (e_56 _) rfl d_Har_findPackets_22 ?_
          refine J_aload_n C 0 d_Har_findPackets_25 rfl rfl ?_
          refine J_get C f_Har_25 (by decide) (e_56 _) rfl d_Har_findPackets_26 ?_
          refine J_val (y := nI k) hc ?_
          refine J_iload_n C 1 d_Har_findPackets_29 rfl rfl ?_
          refine K_ias C a_58 (j := k) rfl (by omega) d_Har_findPackets_30 (kk := ?_)
          refine J_aload_n C 0 d_Har_findPackets_31 rfl rfl ?_
          refine J_get C f_Har_18 (by decide) (e_56 _) rfl d_Har_findPackets_32 ?_
          refine J_aload_n C 0 d_Har_findPackets_35 rfl rfl ?_
          refine J_get C f_Har_25 (by decide) (e_56 _) rfl d_Har_findPackets_36 ?_
          refine J_val (y := nI k) (by simp [mu, ma, va_up, upd, hc]) ?_
          refine J_iload_n C 3 d_Har_findPackets_39 rfl rfl ?_
          refine K_ias C a_59 (j := k) rfl (by omega) d_Har_findPackets_40 (kk := ?_)
          refine J_aload_n C 0 d_Har_findPackets_41 rfl rfl ?_
          refine J_dup C d_Har_findPackets_42 rfl ?_
          refine J_get C f_Har_25 (by decide) (e_56 _) rfl d_Har_findPackets_43 ?_
          refine J_val (y := nI k) (by simp [mu, ma, va_up, upd, hc]) ?_
          refine J_iconst C d_Har_findPackets_46 (v := nI 1) rfl ?_
          refine J_iaddN C d_Har_findPackets_47 ?_
          refine K_putI C f_Har_25 (by decide) (e_56 _) (Nat.le_of_ble_eq_true rfl) rfl d_Har_findPackets_48 (kk := ?_)
          refine J_iload_n C 1 d_Har_findPackets_51 rfl rfl ?_
          refine J_iload_n C 3 d_Har_findPackets_52 rfl rfl ?_
          refine J_iaddN C d_Har_findPackets_53 ?_
          refine J_istore_n C 1 d_Har_findPackets_54 rfl (by decide) rfl ?_
          refine J_iinc C d_Har_findPackets_55 rfl (v := nI (k + 1)) (nI_1 _) (by decide) rfl ?_
          refine J_goto C 4 d_Har_findPackets_58 (by decide) ?_
          refine J_lv (lv' := [some (.ref 56), some (.int (nI (a + Pla g n a))), some (.int (nI (k + 1))), none]) (by intro i v hv; match i, hv with | 0, hv => exact hv | 1, hv => exact hv | 2, hv => exact hv | 3, hv => simp at hv) ?_
          exact ih (a + Pla g n a) (k + 1) _ (by omega) (by omega) (by have := Pla_le g n a; omega) (by simp [mu, va_up, upd, hn]) (by simp [mu, va_up, upd]) (by intro i hi; simp [mu, va_up]; exact hg i hi) (by rw [show 8 - k = (8 - (k + 1)) + 1 by omega] at hF; unfold fFind at hF; rw [if_neg (by assumption)] at hF; exact hF)
        · exact F_ret C hr (by rw [show 8 - k = (8 - (k + 1)) + 1 by omega] at hF; unfold fFind at hF; rw [if_pos (by assumption)] at hF; exact hF) d_Har_findPackets_20
  refine J_iconst C d_Har_findPackets_0 (v := nI 0) rfl ?_
  refine J_istore_n C 1 d_Har_findPackets_1 rfl (by decide) rfl ?_
  refine J_iconst C d_Har_findPackets_2 (v := nI 0) rfl ?_
  refine J_istore_n C 2 d_Har_findPackets_3 rfl (by decide) rfl ?_
  exact lp 9 0 0 M (by omega) (by omega) (by omega) hn hc hg h9

set_option maxHeartbeats 4000000 in
set_option maxRecDepth 100000 in
theorem f_findOne (l : Launch) (D : va_G) (dA : Nat → ClassId) (M : Mem) (n : Nat) (g : Nat → Nat) (hn : M 56 3 = nI n) (hn2 : n ≤ 60) (hg : ∀ i, i < n → M 57 i = nI (g i)) (hg2 : ∀ i, i < n → g i < 256) : CF l D dA k_Har_findOneWholePacket 1 [.ref 56] M (none) (if 0 < n ∧ Pla g n 0 = n then mu (mu (mu M 58 0 (nI 0)) 59 0 (nI n)) 56 4 (nI 1) else M) := by
  refine CF.of (by decide +kernel) (Nat.le_of_ble_eq_true rfl) (by intro v hv; simp only [List.mem_cons, List.not_mem_nil, or_false] at hv; rcases hv with rfl <;> rfl) ?_
  intro A ad0 p e s m args below meth c C hr
  refine J_aload_n C 0 d_Har_findOneWholePacket_0 rfl rfl ?_
  refine J_get C f_Har_21 (by decide) (e_56 _) rfl d_Har_findOneWholePacket_1 ?_
  refine J_val (y := nI n) hn ?_
  refine J_ifN_le C 41 d_Har_findOneWholePacket_4 (by decide) (by omega) (fun hc4 => ?_) (fun hc4 => ?_)
  · exact F_ret C hr (by split <;> first | rfl | (exfalso; omega)) d_Har_findOneWholePacket_41
  · refine J_aload_n C 0 d_Har_findOneWholePacket_7 rfl rfl ?_
    refine J_iconst C d_Har_findOneWholePacket_8 (v := nI 0) rfl ?_
    refine P_callV C (as := [.int (nI 0)]) (st := []) (p_pla l D dA M n 0 (by first | assumption | simpa [mu, va_up] using hn) hn2 (by omega) g (by first | assumption | simpa [mu, va_up] using hg) hg2) l_Har_28 v_Har_packetLengthAt (by decide) (e_56 _) rfl (by decide) (by decide) (by decide) (Nat.le_of_ble_eq_true rfl) d_Har_findOneWholePacket_9 (kk := ?_)
    have hq := Pla_le g n 0
    refine J_aload_n C 0 d_Har_findOneWholePacket_12 rfl rfl ?_
    refine J_get C f_Har_21 (by decide) (e_56 _) rfl d_Har_findOneWholePacket_13 ?_
    refine J_val (y := nI n) hn ?_
    refine J_icmpN_ne C 41 d_Har_findOneWholePacket_16 (by decide) (by omega) (by omega) (fun hc16 => ?_) (fun hc16 => ?_)
    · exact F_ret C hr (by split <;> first | rfl | (exfalso; omega)) d_Har_findOneWholePacket_41
    · refine J_aload_n C 0 d_Har_findOneWholePacket_19 rfl rfl ?_
      refine J_get C f_Har_15 (by decide) (e_56 _) rfl d_Har_findOneWholePacket_20 ?_
      refine J_iconst C d_Har_findOneWholePacket_23 (v := nI 0) rfl ?_
      refine J_iconst C d_Har_findOneWholePacket_24 (v := nI 0) rfl ?_
      refine K_ias C a_58 (j := 0) rfl (by omega) d_Har_findOneWholePacket_25 (kk := ?_)
      refine J_aload_n C 0 d_Har_findOneWholePacket_26 rfl rfl ?_
      refine J_get C f_Har_18 (by decide) (e_56 _) rfl d_Har_findOneWholePacket_27 ?_
      refine J_iconst C d_Har_findOneWholePacket_30 (v := nI 0) rfl ?_
      refine J_aload_n C 0 d_Har_findOneWholePacket_31 rfl rfl ?_
      refine J_get C f_Har_21 (by decide) (e_56 _) rfl d_Har_findOneWholePacket_32 ?_
      refine J_val (y := nI n) (by simp [mu, ma, va_up, upd, hn]) ?_
      refine K_ias C a_59 (j := 0) rfl (by omega) d_Har_findOneWholePacket_35 (kk := ?_)
      refine J_aload_n C 0 d_Har_findOneWholePacket_36 rfl rfl ?_
      refine J_iconst C d_Har_findOneWholePacket_37 (v := nI 1) rfl ?_
      refine K_putI C f_Har_25 (by decide) (e_56 _) (Nat.le_of_ble_eq_true rfl) rfl d_Har_findOneWholePacket_38 (kk := ?_)
      exact F_ret C hr (by split <;> first | rfl | (exfalso; omega)) d_Har_findOneWholePacket_41

def fSumB (ln : Nat → Nat) : Nat → Nat
  | 0 => 0
  | k + 1 => fSumB ln k + (ln k + 20 - 1) / 20
theorem fSumB_le {ln : Nat → Nat} (k : Nat) (h : ∀ i, i < k → ln i ≤ 60) : fSumB ln k ≤ 3 * k := by
  induction k with
  | zero => simp [fSumB]
  | succ k ih =>
    have h1 := ih (fun i hi => h i (by omega))
    have h2 := h k (by omega)
    unfold fSumB
    omega
set_option maxHeartbeats 4000000 in
set_option maxRecDepth 100000 in
theorem p_blocksOfAll (l : Launch) (D : va_G) (dA : Nat → ClassId) (M : Mem) (c0 : Nat) (ln : Nat → Nat) (hc : M 56 4 = nI c0) (hc2 : c0 ≤ 8) (hl : ∀ i, i < c0 → M 59 i = nI (ln i)) (hl2 : ∀ i, i < c0 → ln i ≤ 60) : PT l D dA k_Har_blocksOfAll 1 90 [.ref 56] (E M) (.int (nI (fSumB ln c0))) := by
  refine PT.of (by decide +kernel) (Nat.le_of_ble_eq_true rfl) (by intro v hv; simp only [List.mem_cons, List.not_mem_nil, or_false] at hv; rcases hv with rfl <;> rfl) ?_
  intro A ad0 p e s m args below meth c C hr
  have lp : ∀ (fu : Nat) (k : Nat), c0 - k < fu → (k ≤ c0) → J D dA A (fun H locs => H = s.heap ∧ locs = []) ad0 90 k_Har_blocksOfAll.2.2.1 p l e (zR 1 0 0) s m args below meth c (MQ below (zQp ad0 (.int (nI (fSumB ln c0)))) args s 0 0 (fun _ => False)) 4 [some (.ref 56), some (.int (nI (fSumB ln k))), some (.int (nI k))] [] (E M) 90 0 0 := by
    intro fu
    induction fu with
    | zero => intro k hfu; exact absurd hfu (Nat.not_lt_zero _)
    | succ fu ih =>
      intro k hfu hk
      refine J_iload_n C 2 d_Har_blocksOfAll_4 rfl rfl ?_
      refine J_aload_n C 0 d_Har_blocksOfAll_5 rfl rfl ?_
      refine J_get C f_Har_25 (by decide) (e_56 _) rfl d_Har_blocksOfAll_6 ?_
      refine J_val (y := nI c0) hc ?_
      refine J_icmpN_ge C 30 d_Har_blocksOfAll_9 (by decide) (by omega) (by omega) (fun hc9 => ?_) (fun hc9 => ?_)
      · refine J_iload_n C 1 d_Har_blocksOfAll_30 rfl rfl ?_
        exact P_iretE C hr (by rw [show c0 = k by omega]) d_Har_blocksOfAll_31
      · have b2 := fSumB_le (ln := ln) k (fun i hi => hl2 i (by omega))
        refine J_iload_n C 1 d_Har_blocksOfAll_12 rfl rfl ?_
        refine J_aload_n C 0 d_Har_blocksOfAll_13 rfl rfl ?_
        refine J_get C f_Har_18 (by decide) (e_56 _) rfl d_Har_blocksOfAll_14 ?_
        refine J_iload_n C 2 d_Har_blocksOfAll_17 rfl rfl ?_
        have b1 := hl2 k (by omega)
        refine K_ial C a_59 (j := k) rfl (by omega) d_Har_blocksOfAll_18 ?_
        refine J_val (y := nI (ln k)) (hl k (by omega)) ?_
        refine P_callS C (as := [.int (nI (ln k))]) (st := [.int (nI (fSumB ln k))]) (p_blocksFor l D dA M (ln k) (by omega)) l_Har_32 s_Sto_blocksFor rfl (by decide) (by decide) (by decide) (Nat.le_of_ble_eq_true rfl) d_Har_blocksOfAll_19 (kk := ?_)
        refine J_iaddN C d_Har_blocksOfAll_22 ?_
        refine J_istore_n C 1 d_Har_blocksOfAll_23 rfl (by decide) rfl ?_
        refine J_iinc C d_Har_blocksOfAll_24 rfl (v := nI (k + 1)) (nI_1 _) (by decide) rfl ?_
        refine J_goto C 4 d_Har_blocksOfAll_27 (by decide) ?_
        exact ih (k + 1) (by omega) (by omega)
  refine J_iconst C d_Har_blocksOfAll_0 (v := nI 0) rfl ?_
  refine J_istore_n C 1 d_Har_blocksOfAll_1 rfl (by decide) rfl ?_
  refine J_iconst C d_Har_blocksOfAll_2 (v := nI 0) rfl ?_
  refine J_istore_n C 2 d_Har_blocksOfAll_3 rfl (by decide) rfl ?_
  exact lp (c0 + 1) 0 (by omega) (by omega)
end
section
theorem nI_addneg {a b : Nat} (h : b ≤ a) : nI a + -nI b = nI (a - b) := by rw [← Int32.sub_eq_add_neg, pk_sub h]
def fWr (M : Mem) : Mem := if M 3 8 ≤ 0 then mu M 3 7 (M 3 7 + nI 1) else mu (mu (mu M 3 7 (M 3 7 + nI 1)) 3 8 (M 3 8 - nI 1)) 3 9 (if M 3 8 - nI 1 = 0 then nI 1 else nI 0)
theorem fWr_p (M : Mem) {p : Nat} (h : p ≠ 3) : fWr M p = M p := by unfold fWr; split <;> simp [mu, va_up, h]
theorem fWr_k (M : Mem) {k : Nat} (h7 : k ≠ 7) (h8 : k ≠ 8) (h9 : k ≠ 9) : fWr M 3 k = M 3 k := by unfold fWr; split <;> simp [mu, va_up, upd, h7, h8, h9]
set_option maxHeartbeats 4000000 in
set_option maxRecDepth 100000 in
theorem f_write (l : Launch) (D : va_G) (dA : Nat → ClassId) (M : Mem) : CF l D dA k_Sto_write 0 [.ref 3] M (none) (fWr M) := by
  refine CF.of (by decide +kernel) (Nat.le_of_ble_eq_true rfl) (by intro v hv; simp only [List.mem_cons, List.not_mem_nil, or_false] at hv; rcases hv with rfl <;> rfl) ?_
  intro A ad0 p e s m args below meth c C hr
  refine J_aload_n C 0 d_Sto_write_0 rfl rfl ?_
  refine J_dup C d_Sto_write_1 rfl ?_
  refine J_get C f_Sto_36 (by decide) (e_3 _) rfl d_Sto_write_2 ?_
  refine J_iconst C d_Sto_write_5 (v := nI 1) rfl ?_
  refine J_iadd C d_Sto_write_6 ?_
  refine K_putI C f_Sto_36 (by decide) (e_3 _) (Nat.le_of_ble_eq_true rfl) rfl d_Sto_write_7 (kk := ?_)
  refine J_aload_n C 0 d_Sto_write_10 rfl rfl ?_
  refine J_get C f_Sto_39 (by decide) (e_3 _) rfl d_Sto_write_11 ?_
  refine J_val (y := M 3 8) rfl ?_
  refine J_if_le C 43 d_Sto_write_14 (by decide) (fun hc14 => ?_) (fun hc14 => ?_)
  · exact F_ret C hr (by unfold fWr; (repeat' split) <;> first | contradiction | (exfalso; omega) | rfl) d_Sto_write_43
  · refine J_aload_n C 0 d_Sto_write_17 rfl rfl ?_
    refine J_dup C d_Sto_write_18 rfl ?_
    refine J_get C f_Sto_39 (by decide) (e_3 _) rfl d_Sto_write_19 ?_
    refine J_val (y := M 3 8) rfl ?_
    refine J_iconst C d_Sto_write_22 (v := nI 1) rfl ?_
    refine J_isub C d_Sto_write_23 ?_
    refine K_putI C f_Sto_39 (by decide) (e_3 _) (Nat.le_of_ble_eq_true rfl) rfl d_Sto_write_24 (kk := ?_)
    refine J_aload_n C 0 d_Sto_write_27 rfl rfl ?_
    refine J_aload_n C 0 d_Sto_write_28 rfl rfl ?_
    refine J_get C f_Sto_39 (by decide) (e_3 _) rfl d_Sto_write_29 ?_
    refine J_val (y := (M 3 8) - (nI 1)) rfl ?_
    refine J_if_ne C 39 d_Sto_write_32 (by decide) (fun hc32 => ?_) (fun hc32 => ?_)
    · refine J_iconst C d_Sto_write_39 (v := nI 0) rfl ?_
      refine K_putZ C f_Sto_42 (by decide) (e_3 _) (Nat.le_of_ble_eq_true rfl) (Or.inl rfl) rfl d_Sto_write_40 (kk := ?_)
      exact F_ret C hr (by unfold fWr; (repeat' split) <;> first | contradiction | (exfalso; omega) | rfl) d_Sto_write_43
    · refine J_iconst C d_Sto_write_35 (v := nI 1) rfl ?_
      refine J_goto C 40 d_Sto_write_36 (by decide) ?_
      refine K_putZ C f_Sto_42 (by decide) (e_3 _) (Nat.le_of_ble_eq_true rfl) (Or.inr rfl) rfl d_Sto_write_40 (kk := ?_)
      exact F_ret C hr (by unfold fWr; (repeat' split) <;> first | contradiction | (exfalso; omega) | rfl) d_Sto_write_43

def fRen (M : Mem) : Mem := if M 3 9 = 0 then (if M 3 6 < nI 40 then M else fWr (mu M 3 6 (M 3 3))) else M
set_option maxHeartbeats 4000000 in
set_option maxRecDepth 100000 in
theorem f_renew (l : Launch) (D : va_G) (dA : Nat → ClassId) (M : Mem) : CF l D dA k_Sto_renewFullJournal 1 [.ref 3] M (none) (fRen M) := by
  refine CF.of (by decide +kernel) (Nat.le_of_ble_eq_true rfl) (by intro v hv; simp only [List.mem_cons, List.not_mem_nil, or_false] at hv; rcases hv with rfl <;> rfl) ?_
  intro A ad0 p e s m args below meth c C hr
  refine J_aload_n C 0 d_Sto_renewFullJournal_0 rfl rfl ?_
  refine J_get C f_Sto_42 (by decide) (e_3 _) rfl d_Sto_renewFullJournal_1 ?_
  refine J_if_ne C 28 d_Sto_renewFullJournal_4 (by decide) (fun hc4 => ?_) (fun hc4 => ?_)
  · exact F_ret C hr (by unfold fRen; (repeat' split) <;> first | contradiction | (exfalso; omega) | rfl) d_Sto_renewFullJournal_28
  · refine J_aload_n C 0 d_Sto_renewFullJournal_7 rfl rfl ?_
    refine J_get C f_Sto_33 (by decide) (e_3 _) rfl d_Sto_renewFullJournal_8 ?_
    refine J_bipush C d_Sto_renewFullJournal_11 (v := nI 40) rfl ?_
    refine J_icmp_lt C 28 d_Sto_renewFullJournal_13 (by decide) (fun hc13 => ?_) (fun hc13 => ?_)
    · exact F_ret C hr (by unfold fRen; (repeat' split) <;> first | contradiction | (exfalso; omega) | rfl) d_Sto_renewFullJournal_28
    · refine J_aload_n C 0 d_Sto_renewFullJournal_16 rfl rfl ?_
      refine J_aload_n C 0 d_Sto_renewFullJournal_17 rfl rfl ?_
      refine J_get C f_Sto_23 (by decide) (e_3 _) rfl d_Sto_renewFullJournal_18 ?_
      refine K_putI C f_Sto_33 (by decide) (e_3 _) (Nat.le_of_ble_eq_true rfl) rfl d_Sto_renewFullJournal_21 (kk := ?_)
      refine J_aload_n C 0 d_Sto_renewFullJournal_24 rfl rfl ?_
      refine F_callV C (as := []) (st := []) (f_write l D dA (mu M 3 6 (M 3 3))) l_Sto_94 v_Sto_write (by decide) (e_3 _) rfl (by decide) (by decide) (Nat.le_of_ble_eq_true rfl) d_Sto_renewFullJournal_25 (kk := ?_)
      exact F_ret C hr (by unfold fRen; (repeat' split) <;> first | contradiction | (exfalso; omega) | rfl) d_Sto_renewFullJournal_28

def mkB (M : Mem) (b : Nat → Nat) (z : Int32) : Nat → Mem
  | 0 => M
  | k + 1 => mu (mkB M b z k) 5 (b k) z
theorem mkB_p (M : Mem) (b : Nat → Nat) (z : Int32) (k : Nat) {p : Nat} (h : p ≠ 5) : mkB M b z k p = M p := by
  induction k with
  | zero => rfl
  | succ k ih => unfold mkB; rw [mu_p _ _ _ h]; exact ih
set_option maxHeartbeats 4000000 in
set_option maxRecDepth 100000 in
theorem f_mark1 (l : Launch) (D : va_G) (dA : Nat → ClassId) (M : Mem) (j L f : Nat) (b : Nat → Nat) (hj : j < 24) (hL : M (7 + 2 * j) 2 = nI L) (hL2 : L ≤ 60) (hb : ∀ k, k < (L + 20 - 1) / 20 → M (8 + 2 * j) k = nI (b k)) (hb2 : ∀ k, k < (L + 20 - 1) / 20 → b k < 24) (hf : M 3 4 = nI f) (hf2 : f ≤ 24) (hf3 : (L + 20 - 1) / 20 ≤ f) : CF l D dA k_Sto_markBlocks 1 [.ref 3, .ref (7 + 2 * j), .int (nI 1)] M (none) (mu (mkB M b (nI 1) ((L + 20 - 1) / 20)) 3 4 (nI (f - (L + 20 - 1) / 20))) := by
  refine CF.of (by decide +kernel) (Nat.le_of_ble_eq_true rfl) (by intro v hv; simp only [List.mem_cons, List.not_mem_nil, or_false] at hv; rcases hv with rfl | rfl | rfl <;> rfl) ?_
  intro A ad0 p e s m args below meth c C hr
  have lp : ∀ (fu : Nat) (k : Nat), (L + 20 - 1) / 20 - k < fu → (k ≤ (L + 20 - 1) / 20) → J D dA A (fun _ _ => True) ad0 90 k_Sto_markBlocks.2.2.1 p l e (zR 1 0 0) s m args below meth c (FQ D dA A ad0 below args s (none) (mu (mkB M b (nI 1) ((L + 20 - 1) / 20)) 3 4 (nI (f - (L + 20 - 1) / 20)))) 11 [some (.ref 3), some (.ref (7 + 2 * j)), some (.int (nI 1)), some (.int (nI ((L + 20 - 1) / 20))), some (.int (nI k))] [] (E (mkB M b (nI 1) k)) 90 0 0 := by
    intro fu
    induction fu with
    | zero => intro k hfu; exact absurd hfu (Nat.not_lt_zero _)
    | succ fu ih =>
      intro k hfu hk
      refine J_iload C d_Sto_markBlocks_11 rfl ?_
      refine J_iload_n C 3 d_Sto_markBlocks_13 rfl rfl ?_
      refine J_icmpN_ge C 36 d_Sto_markBlocks_14 (by decide) (by omega) (by omega) (fun hc14 => ?_) (fun hc14 => ?_)
      · refine J_aload_n C 0 d_Sto_markBlocks_36 rfl rfl ?_
        refine J_dup C d_Sto_markBlocks_37 rfl ?_
        refine J_get C f_Sto_27 (by decide) (e_3 _) rfl d_Sto_markBlocks_38 ?_
        refine J_val (y := nI f) (by rw [mkB_p _ _ _ _ (by omega)]; exact hf) ?_
        refine J_iload_n C 2 d_Sto_markBlocks_41 rfl rfl ?_
        refine J_ifN_eq C 50 d_Sto_markBlocks_42 (by decide) (by omega) (fun hc42 => absurd hc42 (by decide)) (fun hc42 => ?_)
        refine J_iload_n C 3 d_Sto_markBlocks_45 rfl rfl ?_
        refine J_ineg C d_Sto_markBlocks_46 ?_
        refine J_goto C 51 d_Sto_markBlocks_47 (by decide) ?_
        refine J_iadd C d_Sto_markBlocks_51 ?_
        refine J_val (y := nI (f - (L + 20 - 1) / 20)) (nI_addneg hf3) ?_
        refine K_putI C f_Sto_27 (by decide) (e_3 _) (Nat.le_of_ble_eq_true rfl) rfl d_Sto_markBlocks_52 (kk := ?_)
        exact F_ret C hr (by rw [show (L + 20 - 1) / 20 = k by omega]) d_Sto_markBlocks_55
      · refine J_aload_n C 0 d_Sto_markBlocks_17 rfl rfl ?_
        refine J_get C f_Sto_13 (by decide) (e_3 _) rfl d_Sto_markBlocks_18 ?_
        refine J_aload_n C 1 d_Sto_markBlocks_21 rfl rfl ?_
        refine J_get C f_Sto_47 (by omega) (e_pk _ (by omega)) rfl d_Sto_markBlocks_22 ?_
        refine J_iload C d_Sto_markBlocks_25 rfl ?_
        refine K_ial C (a_pb (by omega)) (j := k) rfl (by omega) d_Sto_markBlocks_27 ?_
        refine J_val (y := nI (b k)) (by rw [mkB_p _ _ _ _ (by omega)]; exact hb k (by omega)) ?_
        have b1 := hb2 k (by omega)
        refine J_iload_n C 2 d_Sto_markBlocks_28 rfl rfl ?_
        refine K_bas C a_5 (j := b k) rfl (by omega) (Or.inr rfl) d_Sto_markBlocks_29 (kk := ?_)
        refine J_iinc C d_Sto_markBlocks_30 rfl (v := nI (k + 1)) (nI_1 _) (by decide) rfl ?_
        refine J_goto C 11 d_Sto_markBlocks_33 (by decide) ?_
        exact ih (k + 1) (by omega) (by omega)
  refine J_aload_n C 1 d_Sto_markBlocks_0 rfl rfl ?_
  refine J_get C f_Sto_61 (by omega) (e_pk _ (by omega)) rfl d_Sto_markBlocks_1 ?_
  refine J_val (y := nI L) hL ?_
  refine P_callS C (as := [.int (nI L)]) (st := []) (p_blocksFor l D dA M L (by omega)) l_Sto_53 s_Sto_blocksFor rfl (by decide) (by decide) (by decide) (Nat.le_of_ble_eq_true rfl) d_Sto_markBlocks_4 (kk := ?_)
  refine J_istore_n C 3 d_Sto_markBlocks_7 rfl (by decide) rfl ?_
  refine J_iconst C d_Sto_markBlocks_8 (v := nI 0) rfl ?_
  refine J_istore C d_Sto_markBlocks_9 (by decide) rfl ?_
  exact lp ((L + 20 - 1) / 20 + 1) 0 (by omega) (by omega)

set_option maxHeartbeats 4000000 in
set_option maxRecDepth 100000 in
theorem f_mark0 (l : Launch) (D : va_G) (dA : Nat → ClassId) (M : Mem) (j L f : Nat) (b : Nat → Nat) (hj : j < 24) (hL : M (7 + 2 * j) 2 = nI L) (hL2 : L ≤ 60) (hb : ∀ k, k < (L + 20 - 1) / 20 → M (8 + 2 * j) k = nI (b k)) (hb2 : ∀ k, k < (L + 20 - 1) / 20 → b k < 24) (hf : M 3 4 = nI f) (hf2 : f ≤ 24) : CF l D dA k_Sto_markBlocks 1 [.ref 3, .ref (7 + 2 * j), .int (nI 0)] M (none) (mu (mkB M b (nI 0) ((L + 20 - 1) / 20)) 3 4 (nI (f + (L + 20 - 1) / 20))) := by
  refine CF.of (by decide +kernel) (Nat.le_of_ble_eq_true rfl) (by intro v hv; simp only [List.mem_cons, List.not_mem_nil, or_false] at hv; rcases hv with rfl | rfl | rfl <;> rfl) ?_
  intro A ad0 p e s m args below meth c C hr
  have lp : ∀ (fu : Nat) (k : Nat), (L + 20 - 1) / 20 - k < fu → (k ≤ (L + 20 - 1) / 20) → J D dA A (fun _ _ => True) ad0 90 k_Sto_markBlocks.2.2.1 p l e (zR 1 0 0) s m args below meth c (FQ D dA A ad0 below args s (none) (mu (mkB M b (nI 0) ((L + 20 - 1) / 20)) 3 4 (nI (f + (L + 20 - 1) / 20)))) 11 [some (.ref 3), some (.ref (7 + 2 * j)), some (.int (nI 0)), some (.int (nI ((L + 20 - 1) / 20))), some (.int (nI k))] [] (E (mkB M b (nI 0) k)) 90 0 0 := by
    intro fu
    induction fu with
    | zero => intro k hfu; exact absurd hfu (Nat.not_lt_zero _)
    | succ fu ih =>
      intro k hfu hk
      refine J_iload C d_Sto_markBlocks_11 rfl ?_
      refine J_iload_n C 3 d_Sto_markBlocks_13 rfl rfl ?_
      refine J_icmpN_ge C 36 d_Sto_markBlocks_14 (by decide) (by omega) (by omega) (fun hc14 => ?_) (fun hc14 => ?_)
      · refine J_aload_n C 0 d_Sto_markBlocks_36 rfl rfl ?_
        refine J_dup C d_Sto_markBlocks_37 rfl ?_
        refine J_get C f_Sto_27 (by decide) (e_3 _) rfl d_Sto_markBlocks_38 ?_
        refine J_val (y := nI f) (by rw [mkB_p _ _ _ _ (by omega)]; exact hf) ?_
        refine J_iload_n C 2 d_Sto_markBlocks_41 rfl rfl ?_
        refine J_ifN_eq C 50 d_Sto_markBlocks_42 (by decide) (by omega) (fun hc42 => ?_) (fun hc42 => absurd hc42 (by decide))
        refine J_iload_n C 3 d_Sto_markBlocks_50 rfl rfl ?_
        refine J_iaddN C d_Sto_markBlocks_51 ?_
        refine K_putI C f_Sto_27 (by decide) (e_3 _) (Nat.le_of_ble_eq_true rfl) rfl d_Sto_markBlocks_52 (kk := ?_)
        exact F_ret C hr (by rw [show (L + 20 - 1) / 20 = k by omega]) d_Sto_markBlocks_55
      · refine J_aload_n C 0 d_Sto_markBlocks_17 rfl rfl ?_
        refine J_get C f_Sto_13 (by decide) (e_3 _) rfl d_Sto_markBlocks_18 ?_
        refine J_aload_n C 1 d_Sto_markBlocks_21 rfl rfl ?_
        refine J_get C f_Sto_47 (by omega) (e_pk _ (by omega)) rfl d_Sto_markBlocks_22 ?_
        refine J_iload C d_Sto_markBlocks_25 rfl ?_
        refine K_ial C (a_pb (by omega)) (j := k) rfl (by omega) d_Sto_markBlocks_27 ?_
        refine J_val (y := nI (b k)) (by rw [mkB_p _ _ _ _ (by omega)]; exact hb k (by omega)) ?_
        have b1 := hb2 k (by omega)
        refine J_iload_n C 2 d_Sto_markBlocks_28 rfl rfl ?_
        refine K_bas C a_5 (j := b k) rfl (by omega) (Or.inl rfl) d_Sto_markBlocks_29 (kk := ?_)
        refine J_iinc C d_Sto_markBlocks_30 rfl (v := nI (k + 1)) (nI_1 _) (by decide) rfl ?_
        refine J_goto C 11 d_Sto_markBlocks_33 (by decide) ?_
        exact ih (k + 1) (by omega) (by omega)
  refine J_aload_n C 1 d_Sto_markBlocks_0 rfl rfl ?_
  refine J_get C f_Sto_61 (by omega) (e_pk _ (by omega)) rfl d_Sto_markBlocks_1 ?_
  refine J_val (y := nI L) hL ?_
  refine P_callS C (as := [.int (nI L)]) (st := []) (p_blocksFor l D dA M L (by omega)) l_Sto_53 s_Sto_blocksFor rfl (by decide) (by decide) (by decide) (Nat.le_of_ble_eq_true rfl) d_Sto_markBlocks_4 (kk := ?_)
  refine J_istore_n C 3 d_Sto_markBlocks_7 rfl (by decide) rfl ?_
  refine J_iconst C d_Sto_markBlocks_8 (v := nI 0) rfl ?_
  refine J_istore C d_Sto_markBlocks_9 (by decide) rfl ?_
  exact lp ((L + 20 - 1) / 20 + 1) 0 (by omega) (by omega)

def fEA (M : Mem) (j L f : Nat) (b : Nat → Nat) : Mem := if M 3 9 = 0 then fWr (mu (mkB (mu (mu (mu (mu M 3 6 (M 3 6 + nI 1)) (7 + 2 * j) 1 (M 3 5)) 3 5 (M 3 5 + nI 1)) 3 3 (M 3 3 + nI 1)) b (nI 1) ((L + 20 - 1) / 20)) 3 4 (nI (f - (L + 20 - 1) / 20))) else M
set_option maxHeartbeats 4000000 in
set_option maxRecDepth 100000 in
theorem f_enterAdded (l : Launch) (D : va_G) (dA : Nat → ClassId) (M : Mem) (j L f : Nat) (b : Nat → Nat) (hj : j < 24) (hL : M (7 + 2 * j) 2 = nI L) (hL2 : L ≤ 60) (hb : ∀ k, k < (L + 20 - 1) / 20 → M (8 + 2 * j) k = nI (b k)) (hb2 : ∀ k, k < (L + 20 - 1) / 20 → b k < 24) (hf : M 3 4 = nI f) (hf2 : f ≤ 24) (hf3 : (L + 20 - 1) / 20 ≤ f) : CF l D dA k_Sto_enterAdded 2 [.ref 3, .ref (7 + 2 * j)] M (none) (fEA M j L f b) := by
  refine CF.of (by decide +kernel) (Nat.le_of_ble_eq_true rfl) (by intro v hv; simp only [List.mem_cons, List.not_mem_nil, or_false] at hv; rcases hv with rfl | rfl <;> rfl) ?_
  intro A ad0 p e s m args below meth c C hr
  refine J_aload_n C 0 d_Sto_enterAdded_0 rfl rfl ?_
  refine J_get C f_Sto_42 (by decide) (e_3 _) rfl d_Sto_enterAdded_1 ?_
  refine J_if_eq C 8 d_Sto_enterAdded_4 (by decide) (fun hc4 => ?_) (fun hc4 => ?_)
  · refine J_aload_n C 0 d_Sto_enterAdded_8 rfl rfl ?_
    refine J_dup C d_Sto_enterAdded_9 rfl ?_
    refine J_get C f_Sto_33 (by decide) (e_3 _) rfl d_Sto_enterAdded_10 ?_
    refine J_iconst C d_Sto_enterAdded_13 (v := nI 1) rfl ?_
    refine J_iadd C d_Sto_enterAdded_14 ?_
    refine K_putI C f_Sto_33 (by decide) (e_3 _) (Nat.le_of_ble_eq_true rfl) rfl d_Sto_enterAdded_15 (kk := ?_)
    refine J_aload_n C 1 d_Sto_enterAdded_18 rfl rfl ?_
    refine J_aload_n C 0 d_Sto_enterAdded_19 rfl rfl ?_
    refine J_get C f_Sto_30 (by decide) (e_3 _) rfl d_Sto_enterAdded_20 ?_
    refine J_val (y := M 3 5) rfl ?_
    refine K_putI C f_Sto_97 (by omega) (e_pk _ (by omega)) (Nat.le_of_ble_eq_true rfl) (Ec_pk (by omega) _) d_Sto_enterAdded_23 (kk := ?_)
    refine J_aload_n C 0 d_Sto_enterAdded_26 rfl rfl ?_
    refine J_dup C d_Sto_enterAdded_27 rfl ?_
    refine J_get C f_Sto_30 (by decide) (e_3 _) rfl d_Sto_enterAdded_28 ?_
    refine J_val (y := M 3 5) (by simp [mu, ma, va_up, upd, show ¬ (3 : Nat) = 7 + 2 * j by omega]) ?_
    refine J_iconst C d_Sto_enterAdded_31 (v := nI 1) rfl ?_
    refine J_iadd C d_Sto_enterAdded_32 ?_
    refine K_putI C f_Sto_30 (by decide) (e_3 _) (Nat.le_of_ble_eq_true rfl) rfl d_Sto_enterAdded_33 (kk := ?_)
    refine J_aload_n C 0 d_Sto_enterAdded_36 rfl rfl ?_
    refine J_dup C d_Sto_enterAdded_37 rfl ?_
    refine J_get C f_Sto_23 (by decide) (e_3 _) rfl d_Sto_enterAdded_38 ?_
    refine J_val (y := M 3 3) (by simp [mu, ma, va_up, upd, show ¬ (3 : Nat) = 7 + 2 * j by omega]) ?_
    refine J_iconst C d_Sto_enterAdded_41 (v := nI 1) rfl ?_
    refine J_iadd C d_Sto_enterAdded_42 ?_
    refine K_putI C f_Sto_23 (by decide) (e_3 _) (Nat.le_of_ble_eq_true rfl) rfl d_Sto_enterAdded_43 (kk := ?_)
    refine J_aload_n C 0 d_Sto_enterAdded_46 rfl rfl ?_
    refine J_aload_n C 1 d_Sto_enterAdded_47 rfl rfl ?_
    refine J_iconst C d_Sto_enterAdded_48 (v := nI 1) rfl ?_
    refine F_callV C (as := [.ref (7 + 2 * j), .int (nI 1)]) (st := []) (f_mark1 l D dA (mu (mu (mu (mu M 3 6 ((M 3 6) + (nI 1))) (7 + 2 * j) 1 (M 3 5)) 3 5 ((M 3 5) + (nI 1))) 3 3 ((M 3 3) + (nI 1))) j L f b hj (by simp [mu, ma, va_up, upd, show ¬ 7 + 2 * j = 3 by omega, show ¬ 8 + 2 * j = 3 by omega, show ¬ 8 + 2 * j = 7 + 2 * j by omega, show ¬ 3 = 7 + 2 * j by omega]; exact hL) hL2 (by simp [mu, ma, va_up, upd, show ¬ 7 + 2 * j = 3 by omega, show ¬ 8 + 2 * j = 3 by omega, show ¬ 8 + 2 * j = 7 + 2 * j by omega, show ¬ 3 = 7 + 2 * j by omega]; exact hb) hb2 (by simp [mu, ma, va_up, upd, show ¬ 7 + 2 * j = 3 by omega, show ¬ 8 + 2 * j = 3 by omega, show ¬ 8 + 2 * j = 7 + 2 * j by omega, show ¬ 3 = 7 + 2 * j by omega]; exact hf) hf2 hf3) l_Sto_100 v_Sto_markBlocks (by decide) (e_3 _) rfl (by decide) (by decide) (Nat.le_of_ble_eq_true rfl) d_Sto_enterAdded_49 (kk := ?_)
    refine J_aload_n C 0 d_Sto_enterAdded_52 rfl rfl ?_
    refine F_callV C (as := []) (st := []) (f_write l D dA (mu (mkB (mu (mu (mu (mu M 3 6 ((M 3 6) + (nI 1))) (7 + 2 * j) 1 (M 3 5)) 3 5 ((M 3 5) + (nI 1))) 3 3 ((M 3 3) + (nI 1))) b (nI 1) ((L + 20 - 1) / 20)) 3 4 (nI (f - (L + 20 - 1) / 20)))) l_Sto_94 v_Sto_write (by decide) (e_3 _) rfl (by decide) (by decide) (Nat.le_of_ble_eq_true rfl) d_Sto_enterAdded_53 (kk := ?_)
    exact F_ret C hr (by unfold fEA; (repeat' split) <;> first | contradiction | (exfalso; omega) | rfl) d_Sto_enterAdded_56
  · exact F_ret C hr (by unfold fEA; (repeat' split) <;> first | contradiction | (exfalso; omega) | rfl) d_Sto_enterAdded_7

def fShift (q : Nat → Nat) : Nat → Nat → Mem → Mem
  | 0, _, M => M
  | r + 1, k, M => fShift q r (k + 1) (mu M 6 k (nI (q (k + 1))))
def fED (M : Mem) (q : Nat → Nat) (i cn j L f : Nat) (b : Nat → Nat) : Mem := if M 3 9 = 0 then fWr (mu (fShift q (cn - 1 - i) i (mu (mu (mkB (mu M 3 6 (M 3 6 + nI 1)) b (nI 0) ((L + 20 - 1) / 20)) 3 4 (nI (f + (L + 20 - 1) / 20))) 3 3 (nI (cn - 1)))) 6 (cn - 1) (nI j)) else M
theorem fShift_p (q : Nat → Nat) : ∀ (r k : Nat) (M : Mem) {p : Nat}, p ≠ 6 → fShift q r k M p = M p
  | 0, _, _, _, _ => rfl
  | r + 1, k, M, p, h => by unfold fShift; rw [fShift_p q r (k + 1) _ h, mu_p _ _ _ h]
set_option maxHeartbeats 4000000 in
set_option maxRecDepth 100000 in
theorem f_enterDropped (l : Launch) (D : va_G) (dA : Nat → ClassId) (M : Mem) (j L f : Nat) (b : Nat → Nat) (hj : j < 24) (hL : M (7 + 2 * j) 2 = nI L) (hL2 : L ≤ 60) (hb : ∀ k, k < (L + 20 - 1) / 20 → M (8 + 2 * j) k = nI (b k)) (hb2 : ∀ k, k < (L + 20 - 1) / 20 → b k < 24) (hf : M 3 4 = nI f) (hf2 : f ≤ 24) (q : Nat → Nat) (i cn : Nat) (hi : i < cn) (hc24 : cn ≤ 24) (hq : ∀ k, k < 24 → M 6 k = nI (q k)) (hq2 : ∀ k, k < 24 → q k < 24) (hqi : q i = j) (hcn : M 3 3 = nI cn) : CF l D dA k_Sto_enterDropped 3 [.ref 3, .int (nI i)] M (none) (fED M q i cn j L f b) := by
  refine CF.of (by decide +kernel) (Nat.le_of_ble_eq_true rfl) (by intro v hv; simp only [List.mem_cons, List.not_mem_nil, or_false] at hv; rcases hv with rfl | rfl <;> rfl) ?_
  intro A ad0 p e s m args below meth c C hr
  refine J_aload_n C 0 d_Sto_enterDropped_0 rfl rfl ?_
  refine J_get C f_Sto_42 (by decide) (e_3 _) rfl d_Sto_enterDropped_1 ?_
  refine J_if_eq C 8 d_Sto_enterDropped_4 (by decide) (fun hc4 => ?_) (fun hc4 => ?_)
  · refine J_aload_n C 0 d_Sto_enterDropped_8 rfl rfl ?_
    refine J_dup C d_Sto_enterDropped_9 rfl ?_
    refine J_get C f_Sto_33 (by decide) (e_3 _) rfl d_Sto_enterDropped_10 ?_
    refine J_iconst C d_Sto_enterDropped_13 (v := nI 1) rfl ?_
    refine J_iadd C d_Sto_enterDropped_14 ?_
    refine K_putI C f_Sto_33 (by decide) (e_3 _) (Nat.le_of_ble_eq_true rfl) rfl d_Sto_enterDropped_15 (kk := ?_)
    refine J_aload_n C 0 d_Sto_enterDropped_18 rfl rfl ?_
    refine J_get C f_Sto_19 (by decide) (e_3 _) rfl d_Sto_enterDropped_19 ?_
    refine J_iload_n C 1 d_Sto_enterDropped_22 rfl rfl ?_
    refine K_pkld C (j := i) (x := j) rfl (by omega) (by rw [← hqi]; simp [mu, va_up, upd]; exact hq i (by omega)) (by omega) d_Sto_enterDropped_23 ?_
    refine J_astore_n C 2 d_Sto_enterDropped_24 rfl (by decide) rfl ?_
    refine J_aload_n C 0 d_Sto_enterDropped_25 rfl rfl ?_
    refine J_aload_n C 2 d_Sto_enterDropped_26 rfl rfl ?_
    refine J_iconst C d_Sto_enterDropped_27 (v := nI 0) rfl ?_
    refine F_callV C (as := [.ref (7 + 2 * j), .int (nI 0)]) (st := []) (f_mark0 l D dA (mu M 3 6 ((M 3 6) + (nI 1))) j L f b hj (by simp [mu, ma, va_up, upd, show ¬ 7 + 2 * j = 3 by omega, show ¬ 8 + 2 * j = 3 by omega, show ¬ 8 + 2 * j = 7 + 2 * j by omega, show ¬ 3 = 7 + 2 * j by omega]; exact hL) hL2 (by simp [mu, ma, va_up, upd, show ¬ 7 + 2 * j = 3 by omega, show ¬ 8 + 2 * j = 3 by omega, show ¬ 8 + 2 * j = 7 + 2 * j by omega, show ¬ 3 = 7 + 2 * j by omega]; exact hb) hb2 (by simp [mu, ma, va_up, upd, show ¬ 7 + 2 * j = 3 by omega, show ¬ 8 + 2 * j = 3 by omega, show ¬ 8 + 2 * j = 7 + 2 * j by omega, show ¬ 3 = 7 + 2 * j by omega]; exact hf) hf2) l_Sto_100 v_Sto_markBlocks (by decide) (e_3 _) rfl (by decide) (by decide) (Nat.le_of_ble_eq_true rfl) d_Sto_enterDropped_28 (kk := ?_)
    refine J_aload_n C 0 d_Sto_enterDropped_31 rfl rfl ?_
    refine J_dup C d_Sto_enterDropped_32 rfl ?_
    refine J_get C f_Sto_23 (by decide) (e_3 _) rfl d_Sto_enterDropped_33 ?_
    refine J_val (y := nI cn) (by simp [mu, va_up, upd]; first | rfl | (rw [mkB_p _ _ _ _ (by omega)]; simp [mu, va_up, upd]; exact hcn)) ?_
    refine J_iconst C d_Sto_enterDropped_36 (v := nI 1) rfl ?_
    refine J_isubN C d_Sto_enterDropped_37 (by omega) ?_
    refine K_putI C f_Sto_23 (by decide) (e_3 _) (Nat.le_of_ble_eq_true rfl) rfl d_Sto_enterDropped_38 (kk := ?_)
    refine J_iload_n C 1 d_Sto_enterDropped_41 rfl rfl ?_
    refine J_istore_n C 3 d_Sto_enterDropped_42 rfl (by decide) rfl ?_
    generalize hM9 : fED M q i cn j L f b = M9
    unfold fED at hM9
    rw [if_pos (by assumption)] at hM9
    have lp : ∀ (fu : Nat) (k : Nat) (M1 : Mem), cn - 1 - k < fu → (k ≤ cn - 1) → (∀ x, k ≤ x → x < 24 → M1 6 x = nI (q x)) → (M1 3 3 = nI (cn - 1)) → (fWr (mu (fShift q (cn - 1 - k) k M1) 6 (cn - 1) (nI j)) = M9) → J D dA A (fun _ _ => True) ad0 90 k_Sto_enterDropped.2.2.1 p l e (zR 3 0 0) s m args below meth c (FQ D dA A ad0 below args s (none) (M9)) 43 [some (.ref 3), some (.int (nI i)), some (.ref (7 + 2 * j)), some (.int (nI k))] [] (E M1) 90 0 0 := by
      intro fu
      induction fu with
      | zero => intro k M1 hfu; exact absurd hfu (Nat.not_lt_zero _)
      | succ fu ih =>
        intro k M1 hfu hk hq1 hcn1 hF
        refine J_iload_n C 3 d_Sto_enterDropped_43 rfl rfl ?_
        refine J_aload_n C 0 d_Sto_enterDropped_44 rfl rfl ?_
        refine J_get C f_Sto_23 (by decide) (e_3 _) rfl d_Sto_enterDropped_45 ?_
        refine J_val (y := nI (cn - 1)) hcn1 ?_
        refine J_icmpN_ge C 71 d_Sto_enterDropped_48 (by decide) (by omega) (by omega) (fun hc48 => ?_) (fun hc48 => ?_)
        · refine J_aload_n C 0 d_Sto_enterDropped_71 rfl rfl ?_
          refine J_get C f_Sto_19 (by decide) (e_3 _) rfl d_Sto_enterDropped_72 ?_
          refine J_aload_n C 0 d_Sto_enterDropped_75 rfl rfl ?_
          refine J_get C f_Sto_23 (by decide) (e_3 _) rfl d_Sto_enterDropped_76 ?_
          refine J_val (y := nI (cn - 1)) hcn1 ?_
          refine J_aload_n C 2 d_Sto_enterDropped_79 rfl rfl ?_
          refine K_pkst C (j := cn - 1) (x := j) rfl (by omega) (by omega) d_Sto_enterDropped_80 (kk := ?_)
          refine J_aload_n C 0 d_Sto_enterDropped_81 rfl rfl ?_
          refine F_callV C (as := []) (st := []) (f_write l D dA (mu M1 6 (cn - 1) (nI j))) l_Sto_94 v_Sto_write (by decide) (e_3 _) rfl (by decide) (by decide) (Nat.le_of_ble_eq_true rfl) d_Sto_enterDropped_82 (kk := ?_)
          exact F_ret C hr (by rw [show cn - 1 - k = 0 by omega] at hF; exact hF) d_Sto_enterDropped_85
        · refine J_aload_n C 0 d_Sto_enterDropped_51 rfl rfl ?_
          refine J_get C f_Sto_19 (by decide) (e_3 _) rfl d_Sto_enterDropped_52 ?_
          refine J_iload_n C 3 d_Sto_enterDropped_55 rfl rfl ?_
          refine J_aload_n C 0 d_Sto_enterDropped_56 rfl rfl ?_
          refine J_get C f_Sto_19 (by decide) (e_3 _) rfl d_Sto_enterDropped_57 ?_
          refine J_iload_n C 3 d_Sto_enterDropped_60 rfl rfl ?_
          refine J_iconst C d_Sto_enterDropped_61 (v := nI 1) rfl ?_
          refine J_iaddN C d_Sto_enterDropped_62 ?_
          have b2 := hq2 (k + 1) (by omega)
          refine K_pkld C (j := k + 1) (x := q (k + 1)) rfl (by omega) (hq1 _ (by omega) (by omega)) (by omega) d_Sto_enterDropped_63 ?_
          refine K_pkst C (j := k) (x := (q (k + 1))) rfl (by omega) (by omega) d_Sto_enterDropped_64 (kk := ?_)
          refine J_iinc C d_Sto_enterDropped_65 rfl (v := nI (k + 1)) (nI_1 _) (by decide) rfl ?_
          refine J_goto C 43 d_Sto_enterDropped_68 (by decide) ?_
          exact ih (k + 1) _ (by omega) (by omega) (by intro x h1 h2; rw [mu_row]; rw [show upd (M1 6) k (nI (q (k + 1))) x = M1 6 x by simp [upd, show ¬ x = k by omega]]; exact hq1 x (by omega) h2) (by simp [mu, va_up]; exact hcn1) (by rw [show cn - 1 - k = (cn - 1 - (k + 1)) + 1 by omega] at hF; exact hF)
    exact lp (cn - 1 - i + 1) i _ (by omega) (by omega) (by intro x h1 h2; simp [mu, va_up]; rw [mkB_p _ _ _ _ (by omega)]; simp [mu, va_up]; exact hq x h2) (by simp [mu, va_up, upd]) hM9
  · exact F_ret C hr (by unfold fED; rw [if_neg (by assumption)]) d_Sto_enterDropped_7

def fRst (q : Nat → Nat) : Nat → Mem → Mem
  | 0, M => M
  | k + 1, M => mu (fRst q k M) (7 + 2 * q k) 4 (nI 0)
theorem fRst_p (q : Nat → Nat) (k : Nat) (M : Mem) {p : Nat} (h : p < 7) : fRst q k M p = M p := by
  induction k with
  | zero => rfl
  | succ k ih => unfold fRst; rw [mu_p _ _ _ (by omega)]; exact ih
set_option maxHeartbeats 4000000 in
set_option maxRecDepth 100000 in
theorem f_restart (l : Launch) (D : va_G) (dA : Nat → ClassId) (M : Mem) (cn : Nat) (q : Nat → Nat) (hcn : M 3 3 = nI cn) (hc24 : cn ≤ 24) (hq : ∀ k, k < 24 → M 6 k = nI (q k)) (hq2 : ∀ k, k < 24 → q k < 24) : CF l D dA k_Sto_restart 0 [.ref 3] M (none) (fRst q cn (mu (mu M 3 9 (nI 0)) 3 8 (nI 0))) := by
  refine CF.of (by decide +kernel) (Nat.le_of_ble_eq_true rfl) (by intro v hv; simp only [List.mem_cons, List.not_mem_nil, or_false] at hv; rcases hv with rfl <;> rfl) ?_
  intro A ad0 p e s m args below meth c C hr
  have lp : ∀ (fu : Nat) (k : Nat), cn - k < fu → (k ≤ cn) → J D dA A (fun _ _ => True) ad0 90 k_Sto_restart.2.2.1 p l e (zR 0 0 0) s m args below meth c (FQ D dA A ad0 below args s (none) (fRst q cn (mu (mu M 3 9 (nI 0)) 3 8 (nI 0)))) 12 [some (.ref 3), some (.int (nI k))] [] (E (fRst q k (mu (mu M 3 9 (nI 0)) 3 8 (nI 0)))) 90 0 0 := by
    intro fu
    induction fu with
    | zero => intro k hfu; exact absurd hfu (Nat.not_lt_zero _)
    | succ fu ih =>
      intro k hfu hk
      refine J_iload_n C 1 d_Sto_restart_12 rfl rfl ?_
      refine J_aload_n C 0 d_Sto_restart_13 rfl rfl ?_
      refine J_get C f_Sto_23 (by decide) (e_3 _) rfl d_Sto_restart_14 ?_
      refine J_val (y := nI cn) (by rw [fRst_p _ _ _ (by omega)]; exact hcn) ?_
      refine J_icmpN_ge C 36 d_Sto_restart_17 (by decide) (by omega) (by omega) (fun hc17 => ?_) (fun hc17 => ?_)
      · exact F_ret C hr (by rw [show cn = k by omega]) d_Sto_restart_36
      · refine J_aload_n C 0 d_Sto_restart_20 rfl rfl ?_
        refine J_get C f_Sto_19 (by decide) (e_3 _) rfl d_Sto_restart_21 ?_
        refine J_iload_n C 1 d_Sto_restart_24 rfl rfl ?_
        have b2 := hq2 k (by omega)
        refine K_pkld C (j := k) (x := q k) rfl (by omega) (by rw [fRst_p _ _ _ (by omega)]; exact hq k (by omega)) (by omega) d_Sto_restart_25 ?_
        refine J_iconst C d_Sto_restart_26 (v := nI 0) rfl ?_
        refine K_putI C f_Sto_50 (by omega) (e_pk _ (by omega)) (Nat.le_of_ble_eq_true rfl) (Ec_pk (by omega) _) d_Sto_restart_27 (kk := ?_)
        refine J_iinc C d_Sto_restart_30 rfl (v := nI (k + 1)) (nI_1 _) (by decide) rfl ?_
        refine J_goto C 12 d_Sto_restart_33 (by decide) ?_
        exact ih (k + 1) (by omega) (by omega)
  refine J_aload_n C 0 d_Sto_restart_0 rfl rfl ?_
  refine J_iconst C d_Sto_restart_1 (v := nI 0) rfl ?_
  refine K_putZ C f_Sto_42 (by decide) (e_3 _) (Nat.le_of_ble_eq_true rfl) (Or.inl rfl) rfl d_Sto_restart_2 (kk := ?_)
  refine J_aload_n C 0 d_Sto_restart_5 rfl rfl ?_
  refine J_iconst C d_Sto_restart_6 (v := nI 0) rfl ?_
  refine K_putI C f_Sto_39 (by decide) (e_3 _) (Nat.le_of_ble_eq_true rfl) rfl d_Sto_restart_7 (kk := ?_)
  refine J_iconst C d_Sto_restart_10 (v := nI 0) rfl ?_
  refine J_istore_n C 1 d_Sto_restart_11 rfl (by decide) rfl ?_
  exact lp (cn + 1) 0 (by omega) (by omega)
end
section
theorem nI_min {a b : Nat} (ha : a < 2 ^ 31) (hb : b < 2 ^ 31) : (if nI a < nI b then nI a else nI b) = nI (min b a) := by
  by_cases h : a < b
  · rw [if_pos ((nI_ltI ha hb).mpr h), Nat.min_eq_right (by omega)]
  · rw [if_neg (fun q => h ((nI_ltI ha hb).mp q)), Nat.min_eq_left (by omega)]
theorem nI_max {a b : Nat} (ha : a < 2 ^ 31) (hb : b < 2 ^ 31) : (if nI a < nI b then nI b else nI a) = nI (max a b) := by
  by_cases h : a < b
  · rw [if_pos ((nI_ltI ha hb).mpr h), Nat.max_eq_right (by omega)]
  · rw [if_neg (fun q => h ((nI_ltI ha hb).mp q)), Nat.max_eq_left (by omega)]
abbrev ush (x y : Int32) : Int32 := (x.toUInt32 >>> (y.toUInt32 &&& Int32.toUInt32 31)).toInt32
/-- one bit of a check -/
def crcS (w : Nat) (pat row x : Int32) (k : Nat) : Int32 := if ((ush row (nI (w - 1)) ^^^ ush x (nI k)) &&& nI 1) = nI 1 then (row <<< (nI 1 &&& 31)) ^^^ pat else row <<< (nI 1 &&& 31)
theorem crcS_t {w : Nat} {pat row x : Int32} {k : Nat} (h : ((ush row (nI (w - 1)) ^^^ ush x (nI k)) &&& nI 1) = nI 1) : crcS w pat row x k = (row <<< (nI 1 &&& 31)) ^^^ pat := if_pos h
theorem crcS_f {w : Nat} {pat row x : Int32} {k : Nat} (h : ¬ ((ush row (nI (w - 1)) ^^^ ush x (nI k)) &&& nI 1) = nI 1) : crcS w pat row x k = row <<< (nI 1 &&& 31) := if_neg h
def crcBits (w : Nat) (pat x : Int32) : Nat → Int32 → Int32
  | 0, row => row
  | r + 1, row => crcBits w pat x r (crcS w pat row x r)
def crcAll (w : Nat) (pat : Int32) (f : Nat → Int32) : Nat → Nat → Int32 → Int32
  | 0, _, row => row
  | r + 1, i, row => crcAll w pat f r (i + 1) (crcBits w pat (f i) 8 row)
def bitOf (r : Nat) : Int32 := match r with
  | 0 => -1
  | r + 1 => nI r
theorem bitOf_s (r : Nat) : nI r + Int32.ofInt (-1) = bitOf r := by
  cases r with
  | zero => rfl
  | succ r => exact pk_m1 r
set_option maxHeartbeats 4000000 in
set_option maxRecDepth 100000 in
theorem p_check70 (l : Launch) (D : va_G) (dA : Nat → ClassId) (M : Mem) (fr en w : Nat) (f0 pat : Int32) (h1 : fr ≤ en) (h2 : en ≤ 71) (hw1 : 1 ≤ w) (hw2 : w ≤ 32) : PT l D dA k_Orb_check 0 90 [.ref 70, .int (nI fr), .int (nI en), .int (nI w), .int f0, .int pat] (E M) (.int (crcAll w pat (M 70) (en - fr) fr f0)) := by
  refine PT.of (by decide +kernel) (Nat.le_of_ble_eq_true rfl) (by intro v hv; simp only [List.mem_cons, List.not_mem_nil, or_false] at hv; rcases hv with rfl | rfl | rfl | rfl | rfl | rfl <;> rfl) ?_
  intro A ad0 p e s m args below meth c C hr
  have lp : ∀ (fu i : Nat) (row : Int32), en - i < fu → i ≤ en → crcAll w pat (M 70) (en - i) i row = crcAll w pat (M 70) (en - fr) fr f0 → J D dA A (fun H locs => H = s.heap ∧ locs = []) ad0 90 k_Orb_check.2.2.1 p l e (zR 0 0 0) s m args below meth c (MQ below (zQp ad0 (.int (crcAll w pat (M 70) (en - fr) fr f0))) args s 0 0 (fun _ => False)) 7 [some (.ref 70), some (.int (nI fr)), some (.int (nI en)), some (.int (nI w)), some (.int f0), some (.int pat), some (.int row), some (.int (nI i)), none, none] [] (E M) 90 0 0 := by
    intro fu
    induction fu with
    | zero => intro i row hfu; exact absurd hfu (Nat.not_lt_zero _)
    | succ fu ih =>
    intro i row hfu hi hF
    have lpi : i < en → ∀ (row9 : Int32), (J D dA A (fun H locs => H = s.heap ∧ locs = []) ad0 90 k_Orb_check.2.2.1 p l e (zR 0 0 0) s m args below meth c (MQ below (zQp ad0 (.int (crcAll w pat (M 70) (en - fr) fr f0))) args s 0 0 (fun _ => False)) 72 [some (.ref 70), some (.int (nI fr)), some (.int (nI en)), some (.int (nI w)), some (.int f0), some (.int pat), some (.int row9), some (.int (nI i)), none, none] [] (E M) 90 0 0) → ∀ (r : Nat) (row : Int32), r ≤ 8 → crcBits w pat (M 70 i) r row = row9 → J D dA A (fun H locs => H = s.heap ∧ locs = []) ad0 90 k_Orb_check.2.2.1 p l e (zR 0 0 0) s m args below meth c (MQ below (zQp ad0 (.int (crcAll w pat (M 70) (en - fr) fr f0))) args s 0 0 (fun _ => False)) 24 [some (.ref 70), some (.int (nI fr)), some (.int (nI en)), some (.int (nI w)), some (.int f0), some (.int pat), some (.int row), some (.int (nI i)), some (.int (bitOf r)), none] [] (E M) 90 0 0 := by
      intro hil row9 hk r
      induction r with
      | zero =>
        intro row hr9 h9
        have h9 : row = row9 := h9
        subst h9
        show J D dA A (fun H locs => H = s.heap ∧ locs = []) ad0 90 k_Orb_check.2.2.1 p l e (zR 0 0 0) s m args below meth c (MQ below (zQp ad0 (.int (crcAll w pat (M 70) (en - fr) fr f0))) args s 0 0 (fun _ => False)) 24 [some (.ref 70), some (.int (nI fr)), some (.int (nI en)), some (.int (nI w)), some (.int f0), some (.int pat), some (.int row), some (.int (nI i)), some (.int (-1)), none] [] (E M) 90 0 0
        refine J_iload C d_Orb_check_24 rfl ?_
        refine J_if_lt C 72 d_Orb_check_26 (by decide) (fun hc26 => ?_) (fun hc26 => absurd (show (-1 : Int32) < 0 by decide) hc26)
        refine J_lv (lv' := [some (.ref 70), some (.int (nI fr)), some (.int (nI en)), some (.int (nI w)), some (.int f0), some (.int pat), some (.int row), some (.int (nI i)), none, none]) (by intro i v hv; match i, hv with | 0, hv => exact hv | 1, hv => exact hv | 2, hv => exact hv | 3, hv => exact hv | 4, hv => exact hv | 5, hv => exact hv | 6, hv => exact hv | 7, hv => exact hv | 8, hv => simp at hv | 9, hv => simp at hv | _ + 10, hv => simp at hv) ?_
        exact hk
      | succ r ih =>
        intro row hr9 h9
        show J D dA A (fun H locs => H = s.heap ∧ locs = []) ad0 90 k_Orb_check.2.2.1 p l e (zR 0 0 0) s m args below meth c (MQ below (zQp ad0 (.int (crcAll w pat (M 70) (en - fr) fr f0))) args s 0 0 (fun _ => False)) 24 [some (.ref 70), some (.int (nI fr)), some (.int (nI en)), some (.int (nI w)), some (.int f0), some (.int pat), some (.int row), some (.int (nI i)), some (.int (nI r)), none] [] (E M) 90 0 0
        have ih : ∀ (row : Int32), crcBits w pat (M 70 i) r row = row9 → _ := fun row h => ih row (by omega) h
        refine J_iload C d_Orb_check_24 rfl ?_
        refine J_ifN_lt C d_Orb_check_26 72 (by decide) (by omega) ?_
        refine J_iload C d_Orb_check_29 rfl ?_
        refine J_iload_n C 3 d_Orb_check_31 rfl rfl ?_
        refine J_iconst C d_Orb_check_32 (v := nI 1) rfl ?_
        refine J_isubN C d_Orb_check_33 (by omega) ?_
        refine J_iushr C d_Orb_check_34 rfl ?_
        refine J_aload_n C 0 d_Orb_check_35 rfl rfl ?_
        refine J_iload C d_Orb_check_36 rfl ?_
        refine K_ial C a_70 (j := i) rfl (by omega) d_Orb_check_38 ?_
        refine J_iload C d_Orb_check_39 rfl ?_
        refine J_iushr C d_Orb_check_41 rfl ?_
        refine J_ixor C d_Orb_check_42 ?_
        refine J_iconst C d_Orb_check_43 (v := nI 1) rfl ?_
        refine J_iand C d_Orb_check_44 ?_
        refine J_istore C d_Orb_check_45 (by decide) rfl ?_
        refine J_iload C d_Orb_check_47 rfl ?_
        refine J_iconst C d_Orb_check_49 (v := nI 1) rfl ?_
        refine J_ishl C d_Orb_check_50 ?_
        refine J_istore C d_Orb_check_51 (by decide) rfl ?_
        refine J_iload C d_Orb_check_53 rfl ?_
        refine J_iconst C d_Orb_check_55 (v := nI 1) rfl ?_
        refine J_icmp_ne C 66 d_Orb_check_56 (by decide) (fun hc56 => ?_) (fun hc56 => ?_)
        · refine J_iinc C d_Orb_check_66 rfl (v := bitOf r) (bitOf_s r) (by decide) rfl ?_
          refine J_goto C 24 d_Orb_check_69 (by decide) ?_
          refine J_lv (lv' := [some (.ref 70), some (.int (nI fr)), some (.int (nI en)), some (.int (nI w)), some (.int f0), some (.int pat), some (.int (row <<< ((nI 1) &&& 31))), some (.int (nI i)), some (.int (bitOf r)), none]) (by intro i v hv; match i, hv with | 0, hv => exact hv | 1, hv => exact hv | 2, hv => exact hv | 3, hv => exact hv | 4, hv => exact hv | 5, hv => exact hv | 6, hv => exact hv | 7, hv => exact hv | 8, hv => exact hv | 9, hv => simp at hv | _ + 10, hv => simp at hv) ?_
          exact ih _ (by rw [← h9]; show _ = crcBits w pat (M 70 i) r (crcS w pat row (M 70 i) r); first | rw [crcS_t hc56] | rw [crcS_f hc56])
        · refine J_iload C d_Orb_check_59 rfl ?_
          refine J_iload C d_Orb_check_61 rfl ?_
          refine J_ixor C d_Orb_check_63 ?_
          refine J_istore C d_Orb_check_64 (by decide) rfl ?_
          refine J_iinc C d_Orb_check_66 rfl (v := bitOf r) (bitOf_s r) (by decide) rfl ?_
          refine J_goto C 24 d_Orb_check_69 (by decide) ?_
          refine J_lv (lv' := [some (.ref 70), some (.int (nI fr)), some (.int (nI en)), some (.int (nI w)), some (.int f0), some (.int pat), some (.int ((row <<< ((nI 1) &&& 31)) ^^^ pat)), some (.int (nI i)), some (.int (bitOf r)), none]) (by intro i v hv; match i, hv with | 0, hv => exact hv | 1, hv => exact hv | 2, hv => exact hv | 3, hv => exact hv | 4, hv => exact hv | 5, hv => exact hv | 6, hv => exact hv | 7, hv => exact hv | 8, hv => exact hv | 9, hv => simp at hv | _ + 10, hv => simp at hv) ?_
          exact ih _ (by rw [← h9]; show _ = crcBits w pat (M 70 i) r (crcS w pat row (M 70 i) r); first | rw [crcS_t hc56] | rw [crcS_f hc56])
    refine J_iload C d_Orb_check_7 rfl ?_
    refine J_iload_n C 2 d_Orb_check_9 rfl rfl ?_
    refine J_icmpN_ge C 78 d_Orb_check_10 (by decide) (by omega) (by omega) (fun hc10 => ?_) (fun hc10 => ?_)
    · refine J_iload C d_Orb_check_78 rfl ?_
      exact P_iretE C hr (by rw [show en - i = 0 by omega] at hF; exact hF) d_Orb_check_80
    · refine J_iload C d_Orb_check_13 rfl ?_
      refine J_aload_n C 0 d_Orb_check_15 rfl rfl ?_
      refine K_alen C a_70 d_Orb_check_16 ?_
      refine J_icmpN_ge C 78 d_Orb_check_17 (by decide) (by omega) (by omega) (fun hc17 => absurd hc17 (by omega)) (fun hc17 => ?_)
      refine J_bipush C d_Orb_check_20 (v := nI 7) rfl ?_
      refine J_istore C d_Orb_check_22 (by decide) rfl ?_
      refine lpi hc10 _ ?_ 8 row (by omega) rfl
      refine J_iinc C d_Orb_check_72 rfl (v := nI (i + 1)) (nI_1 _) (by decide) rfl ?_
      refine J_goto C 7 d_Orb_check_75 (by decide) ?_
      exact ih (i + 1) _ (by omega) (by omega) (by rw [show en - i = (en - (i + 1)) + 1 by omega] at hF; exact hF)
  refine J_iload C d_Orb_check_0 rfl ?_
  refine J_istore C d_Orb_check_2 (by decide) rfl ?_
  refine J_iload_n C 1 d_Orb_check_4 rfl rfl ?_
  refine J_istore C d_Orb_check_5 (by decide) rfl ?_
  exact lp (en - fr + 1) fr f0 (by omega) h1 rfl

set_option maxHeartbeats 4000000 in
set_option maxRecDepth 100000 in
theorem p_check74 (l : Launch) (D : va_G) (dA : Nat → ClassId) (M : Mem) (fr en w : Nat) (f0 pat : Int32) (h1 : fr ≤ en) (h2 : en ≤ 32) (hw1 : 1 ≤ w) (hw2 : w ≤ 32) : PT l D dA k_Orb_check 0 90 [.ref 74, .int (nI fr), .int (nI en), .int (nI w), .int f0, .int pat] (E M) (.int (crcAll w pat (M 74) (en - fr) fr f0)) := by
  refine PT.of (by decide +kernel) (Nat.le_of_ble_eq_true rfl) (by intro v hv; simp only [List.mem_cons, List.not_mem_nil, or_false] at hv; rcases hv with rfl | rfl | rfl | rfl | rfl | rfl <;> rfl) ?_
  intro A ad0 p e s m args below meth c C hr
  have lp : ∀ (fu i : Nat) (row : Int32), en - i < fu → i ≤ en → crcAll w pat (M 74) (en - i) i row = crcAll w pat (M 74) (en - fr) fr f0 → J D dA A (fun H locs => H = s.heap ∧ locs = []) ad0 90 k_Orb_check.2.2.1 p l e (zR 0 0 0) s m args below meth c (MQ below (zQp ad0 (.int (crcAll w pat (M 74) (en - fr) fr f0))) args s 0 0 (fun _ => False)) 7 [some (.ref 74), some (.int (nI fr)), some (.int (nI en)), some (.int (nI w)), some (.int f0), some (.int pat), some (.int row), some (.int (nI i)), none, none] [] (E M) 90 0 0 := by
    intro fu
    induction fu with
    | zero => intro i row hfu; exact absurd hfu (Nat.not_lt_zero _)
    | succ fu ih =>
    intro i row hfu hi hF
    have lpi : i < en → ∀ (row9 : Int32), (J D dA A (fun H locs => H = s.heap ∧ locs = []) ad0 90 k_Orb_check.2.2.1 p l e (zR 0 0 0) s m args below meth c (MQ below (zQp ad0 (.int (crcAll w pat (M 74) (en - fr) fr f0))) args s 0 0 (fun _ => False)) 72 [some (.ref 74), some (.int (nI fr)), some (.int (nI en)), some (.int (nI w)), some (.int f0), some (.int pat), some (.int row9), some (.int (nI i)), none, none] [] (E M) 90 0 0) → ∀ (r : Nat) (row : Int32), r ≤ 8 → crcBits w pat (M 74 i) r row = row9 → J D dA A (fun H locs => H = s.heap ∧ locs = []) ad0 90 k_Orb_check.2.2.1 p l e (zR 0 0 0) s m args below meth c (MQ below (zQp ad0 (.int (crcAll w pat (M 74) (en - fr) fr f0))) args s 0 0 (fun _ => False)) 24 [some (.ref 74), some (.int (nI fr)), some (.int (nI en)), some (.int (nI w)), some (.int f0), some (.int pat), some (.int row), some (.int (nI i)), some (.int (bitOf r)), none] [] (E M) 90 0 0 := by
      intro hil row9 hk r
      induction r with
      | zero =>
        intro row hr9 h9
        have h9 : row = row9 := h9
        subst h9
        show J D dA A (fun H locs => H = s.heap ∧ locs = []) ad0 90 k_Orb_check.2.2.1 p l e (zR 0 0 0) s m args below meth c (MQ below (zQp ad0 (.int (crcAll w pat (M 74) (en - fr) fr f0))) args s 0 0 (fun _ => False)) 24 [some (.ref 74), some (.int (nI fr)), some (.int (nI en)), some (.int (nI w)), some (.int f0), some (.int pat), some (.int row), some (.int (nI i)), some (.int (-1)), none] [] (E M) 90 0 0
        refine J_iload C d_Orb_check_24 rfl ?_
        refine J_if_lt C 72 d_Orb_check_26 (by decide) (fun hc26 => ?_) (fun hc26 => absurd (show (-1 : Int32) < 0 by decide) hc26)
        refine J_lv (lv' := [some (.ref 74), some (.int (nI fr)), some (.int (nI en)), some (.int (nI w)), some (.int f0), some (.int pat), some (.int row), some (.int (nI i)), none, none]) (by intro i v hv; match i, hv with | 0, hv => exact hv | 1, hv => exact hv | 2, hv => exact hv | 3, hv => exact hv | 4, hv => exact hv | 5, hv => exact hv | 6, hv => exact hv | 7, hv => exact hv | 8, hv => simp at hv | 9, hv => simp at hv | _ + 10, hv => simp at hv) ?_
        exact hk
      | succ r ih =>
        intro row hr9 h9
        show J D dA A (fun H locs => H = s.heap ∧ locs = []) ad0 90 k_Orb_check.2.2.1 p l e (zR 0 0 0) s m args below meth c (MQ below (zQp ad0 (.int (crcAll w pat (M 74) (en - fr) fr f0))) args s 0 0 (fun _ => False)) 24 [some (.ref 74), some (.int (nI fr)), some (.int (nI en)), some (.int (nI w)), some (.int f0), some (.int pat), some (.int row), some (.int (nI i)), some (.int (nI r)), none] [] (E M) 90 0 0
        have ih : ∀ (row : Int32), crcBits w pat (M 74 i) r row = row9 → _ := fun row h => ih row (by omega) h
        refine J_iload C d_Orb_check_24 rfl ?_
        refine J_ifN_lt C d_Orb_check_26 72 (by decide) (by omega) ?_
        refine J_iload C d_Orb_check_29 rfl ?_
        refine J_iload_n C 3 d_Orb_check_31 rfl rfl ?_
        refine J_iconst C d_Orb_check_32 (v := nI 1) rfl ?_
        refine J_isubN C d_Orb_check_33 (by omega) ?_
        refine J_iushr C d_Orb_check_34 rfl ?_
        refine J_aload_n C 0 d_Orb_check_35 rfl rfl ?_
        refine J_iload C d_Orb_check_36 rfl ?_
        refine K_ial C a_74 (j := i) rfl (by omega) d_Orb_check_38 ?_
        refine J_iload C d_Orb_check_39 rfl ?_
        refine J_iushr C d_Orb_check_41 rfl ?_
        refine J_ixor C d_Orb_check_42 ?_
        refine J_iconst C d_Orb_check_43 (v := nI 1) rfl ?_
        refine J_iand C d_Orb_check_44 ?_
        refine J_istore C d_Orb_check_45 (by decide) rfl ?_
        refine J_iload C d_Orb_check_47 rfl ?_
        refine J_iconst C d_Orb_check_49 (v := nI 1) rfl ?_
        refine J_ishl C d_Orb_check_50 ?_
        refine J_istore C d_Orb_check_51 (by decide) rfl ?_
        refine J_iload C d_Orb_check_53 rfl ?_
        refine J_iconst C d_Orb_check_55 (v := nI 1) rfl ?_
        refine J_icmp_ne C 66 d_Orb_check_56 (by decide) (fun hc56 => ?_) (fun hc56 => ?_)
        · refine J_iinc C d_Orb_check_66 rfl (v := bitOf r) (bitOf_s r) (by decide) rfl ?_
          refine J_goto C 24 d_Orb_check_69 (by decide) ?_
          refine J_lv (lv' := [some (.ref 74), some (.int (nI fr)), some (.int (nI en)), some (.int (nI w)), some (.int f0), some (.int pat), some (.int (row <<< ((nI 1) &&& 31))), some (.int (nI i)), some (.int (bitOf r)), none]) (by intro i v hv; match i, hv with | 0, hv => exact hv | 1, hv => exact hv | 2, hv => exact hv | 3, hv => exact hv | 4, hv => exact hv | 5, hv => exact hv | 6, hv => exact hv | 7, hv => exact hv | 8, hv => exact hv | 9, hv => simp at hv | _ + 10, hv => simp at hv) ?_
          exact ih _ (by rw [← h9]; show _ = crcBits w pat (M 74 i) r (crcS w pat row (M 74 i) r); first | rw [crcS_t hc56] | rw [crcS_f hc56])
        · refine J_iload C d_Orb_check_59 rfl ?_
          refine J_iload C d_Orb_check_61 rfl ?_
          refine J_ixor C d_Orb_check_63 ?_
          refine J_istore C d_Orb_check_64 (by decide) rfl ?_
          refine J_iinc C d_Orb_check_66 rfl (v := bitOf r) (bitOf_s r) (by decide) rfl ?_
          refine J_goto C 24 d_Orb_check_69 (by decide) ?_
          refine J_lv (lv' := [some (.ref 74), some (.int (nI fr)), some (.int (nI en)), some (.int (nI w)), some (.int f0), some (.int pat), some (.int ((row <<< ((nI 1) &&& 31)) ^^^ pat)), some (.int (nI i)), some (.int (bitOf r)), none]) (by intro i v hv; match i, hv with | 0, hv => exact hv | 1, hv => exact hv | 2, hv => exact hv | 3, hv => exact hv | 4, hv => exact hv | 5, hv => exact hv | 6, hv => exact hv | 7, hv => exact hv | 8, hv => exact hv | 9, hv => simp at hv | _ + 10, hv => simp at hv) ?_
          exact ih _ (by rw [← h9]; show _ = crcBits w pat (M 74 i) r (crcS w pat row (M 74 i) r); first | rw [crcS_t hc56] | rw [crcS_f hc56])
    refine J_iload C d_Orb_check_7 rfl ?_
    refine J_iload_n C 2 d_Orb_check_9 rfl rfl ?_
    refine J_icmpN_ge C 78 d_Orb_check_10 (by decide) (by omega) (by omega) (fun hc10 => ?_) (fun hc10 => ?_)
    · refine J_iload C d_Orb_check_78 rfl ?_
      exact P_iretE C hr (by rw [show en - i = 0 by omega] at hF; exact hF) d_Orb_check_80
    · refine J_iload C d_Orb_check_13 rfl ?_
      refine J_aload_n C 0 d_Orb_check_15 rfl rfl ?_
      refine K_alen C a_74 d_Orb_check_16 ?_
      refine J_icmpN_ge C 78 d_Orb_check_17 (by decide) (by omega) (by omega) (fun hc17 => absurd hc17 (by omega)) (fun hc17 => ?_)
      refine J_bipush C d_Orb_check_20 (v := nI 7) rfl ?_
      refine J_istore C d_Orb_check_22 (by decide) rfl ?_
      refine lpi hc10 _ ?_ 8 row (by omega) rfl
      refine J_iinc C d_Orb_check_72 rfl (v := nI (i + 1)) (nI_1 _) (by decide) rfl ?_
      refine J_goto C 7 d_Orb_check_75 (by decide) ?_
      exact ih (i + 1) _ (by omega) (by omega) (by rw [show en - i = (en - (i + 1)) + 1 by omega] at hF; exact hF)
  refine J_iload C d_Orb_check_0 rfl ?_
  refine J_istore C d_Orb_check_2 (by decide) rfl ?_
  refine J_iload_n C 1 d_Orb_check_4 rfl rfl ?_
  refine J_istore C d_Orb_check_5 (by decide) rfl ?_
  exact lp (en - fr + 1) fr f0 (by omega) h1 rfl
end
section
theorem nI_shr {n : Nat} (k p : Nat) (h : n < 2 ^ 31) (hk : k < 32) (hp : 2 ^ k = p) : nI n >>> (nI k &&& 31) = nI (n / p) := by
  subst hp
  refine pk_shrN h (nI k &&& 31) k ?_
  revert k
  decide
theorem nI_and {n : Nat} (k p : Nat) (h : n < 2 ^ 31) (hk : k < 31) (hp : 2 ^ k = p) : nI n &&& nI (p - 1) = nI (n % p) := by
  subst hp
  refine pk_andN (by omega) k ?_
  have h1 : 2 ^ k < 2 ^ 31 := Nat.pow_lt_pow_right (by decide) hk
  rw [pk_tn (by omega)]
set_option maxHeartbeats 4000000 in
set_option maxRecDepth 100000 in
theorem f_put (l : Launch) (D : va_G) (dA : Nat → ClassId) (M : Mem) (n : Nat) (v : Int32) (hn : M 69 2 = nI n) (hn2 : n < 71) : CF l D dA k_Lan_put 0 [.ref 69, .int v] M (none) (mu (mu M 70 n v) 69 2 (nI (n + 1))) := by
  refine CF.of (by decide +kernel) (Nat.le_of_ble_eq_true rfl) (by intro v hv; simp only [List.mem_cons, List.not_mem_nil, or_false] at hv; rcases hv with rfl | rfl <;> rfl) ?_
  intro A ad0 p e s m args below meth c C hr
  refine J_aload_n C 0 d_Lan_put_0 rfl rfl ?_
  refine J_get C f_Lan_20 (by decide) (e_69 _) rfl d_Lan_put_1 ?_
  refine J_val (y := nI n) hn ?_
  refine J_bipush C d_Lan_put_4 (v := nI 71) rfl ?_
  refine J_icmpN_ge C 29 d_Lan_put_6 (by decide) (by omega) (by omega) (fun hc6 => absurd hc6 (by omega)) (fun hc6 => ?_)
  refine J_aload_n C 0 d_Lan_put_9 rfl rfl ?_
  refine J_get C f_Lan_11 (by decide) (e_69 _) rfl d_Lan_put_10 ?_
  refine J_aload_n C 0 d_Lan_put_13 rfl rfl ?_
  refine J_get C f_Lan_20 (by decide) (e_69 _) rfl d_Lan_put_14 ?_
  refine J_val (y := nI n) hn ?_
  refine J_iload_n C 1 d_Lan_put_17 rfl rfl ?_
  refine K_ias C a_70 (j := n) rfl (by omega) d_Lan_put_18 (kk := ?_)
  refine J_aload_n C 0 d_Lan_put_19 rfl rfl ?_
  refine J_dup C d_Lan_put_20 rfl ?_
  refine J_get C f_Lan_20 (by decide) (e_69 _) rfl d_Lan_put_21 ?_
  refine J_val (y := nI n) (by simp [mu, ma, va_up, upd, hn]) ?_
  refine J_iconst C d_Lan_put_24 (v := nI 1) rfl ?_
  refine J_iaddN C d_Lan_put_25 ?_
  refine K_putI C f_Lan_20 (by decide) (e_69 _) (Nat.le_of_ble_eq_true rfl) rfl d_Lan_put_26 (kk := ?_)
  exact F_ret C hr rfl d_Lan_put_29

set_option maxHeartbeats 4000000 in
set_option maxRecDepth 100000 in
theorem f_forgetAll (l : Launch) (D : va_G) (dA : Nat → ClassId) (M : Mem) : CF l D dA k_Lan_forgetAll 0 [.ref 69] M (none) (mu M 69 2 (nI 0)) := by
  refine CF.of (by decide +kernel) (Nat.le_of_ble_eq_true rfl) (by intro v hv; simp only [List.mem_cons, List.not_mem_nil, or_false] at hv; rcases hv with rfl <;> rfl) ?_
  intro A ad0 p e s m args below meth c C hr
  refine J_aload_n C 0 d_Lan_forgetAll_0 rfl rfl ?_
  refine J_iconst C d_Lan_forgetAll_1 (v := nI 0) rfl ?_
  refine K_putI C f_Lan_20 (by decide) (e_69 _) (Nat.le_of_ble_eq_true rfl) rfl d_Lan_forgetAll_2 (kk := ?_)
  exact F_ret C hr rfl d_Lan_forgetAll_5

set_option maxHeartbeats 4000000 in
set_option maxRecDepth 100000 in
theorem f_giveUp (l : Launch) (D : va_G) (dA : Nat → ClassId) (M : Mem) (n b : Nat) (hn : M 69 2 = nI n) (hn2 : n ≤ 71) (hb : b ≤ n) : CF l D dA k_Lan_giveUp 0 [.ref 69, .int (nI b)] M (none) (mu (ma M 70 (va_cpy (M 70) (M 70) b 0 (n - b))) 69 2 (nI (n - b))) := by
  refine CF.of (by decide +kernel) (Nat.le_of_ble_eq_true rfl) (by intro v hv; simp only [List.mem_cons, List.not_mem_nil, or_false] at hv; rcases hv with rfl | rfl <;> rfl) ?_
  intro A ad0 p e s m args below meth c C hr
  refine J_iload_n C 1 d_Lan_giveUp_0 rfl rfl ?_
  refine J_aload_n C 0 d_Lan_giveUp_1 rfl rfl ?_
  refine J_get C f_Lan_20 (by decide) (e_69 _) rfl d_Lan_giveUp_2 ?_
  refine J_val (y := nI n) hn ?_
  refine J_mmin C m_Lan_24 ms_min mi_Math mc_min (Nat.le_of_ble_eq_true rfl) (by decide) d_Lan_giveUp_5 ?_
  refine J_val (y := nI b) (by rw [if_neg (fun q => absurd ((nI_ltI (by omega) (by omega)).mp q) (by omega))]) ?_
  refine J_istore_n C 2 d_Lan_giveUp_8 rfl (by decide) rfl ?_
  refine J_aload_n C 0 d_Lan_giveUp_9 rfl rfl ?_
  refine J_get C f_Lan_11 (by decide) (e_69 _) rfl d_Lan_giveUp_10 ?_
  refine J_iload_n C 2 d_Lan_giveUp_13 rfl rfl ?_
  refine J_aload_n C 0 d_Lan_giveUp_14 rfl rfl ?_
  refine J_get C f_Lan_11 (by decide) (e_69 _) rfl d_Lan_giveUp_15 ?_
  refine J_iconst C d_Lan_giveUp_18 (v := nI 0) rfl ?_
  refine J_aload_n C 0 d_Lan_giveUp_19 rfl rfl ?_
  refine J_get C f_Lan_20 (by decide) (e_69 _) rfl d_Lan_giveUp_20 ?_
  refine J_val (y := nI n) hn ?_
  refine J_iload_n C 2 d_Lan_giveUp_23 rfl rfl ?_
  refine J_isubN C d_Lan_giveUp_24 (by omega) ?_
  refine K_copy C m_Lan_30 mn_copy ms_copy mi_Sys a_70 a_70 (by omega) (by omega) (Nat.le_of_ble_eq_true rfl) d_Lan_giveUp_25 (k := ?_)
  refine J_aload_n C 0 d_Lan_giveUp_28 rfl rfl ?_
  refine J_dup C d_Lan_giveUp_29 rfl ?_
  refine J_get C f_Lan_20 (by decide) (e_69 _) rfl d_Lan_giveUp_30 ?_
  refine J_val (y := nI n) (by simp [mu, ma, va_up, upd, hn]) ?_
  refine J_iload_n C 2 d_Lan_giveUp_33 rfl rfl ?_
  refine J_isubN C d_Lan_giveUp_34 (by omega) ?_
  refine K_putI C f_Lan_20 (by decide) (e_69 _) (Nat.le_of_ble_eq_true rfl) rfl d_Lan_giveUp_35 (kk := ?_)
  exact F_ret C hr rfl d_Lan_giveUp_38

set_option maxHeartbeats 4000000 in
set_option maxRecDepth 100000 in
theorem p_told (l : Launch) (D : va_G) (dA : Nat → ClassId) (M : Mem) (n : Nat) (w : Nat → Nat) (hw : ∀ i, i < n → M 70 i = nI (w i)) (hw2 : ∀ i, i < n → w i < 256) (hn7 : 7 ≤ n) : PT l D dA k_Lan_toldLength 0 90 [.ref 69] (E M) (.int (nI (w 5 % 8 * 256 + w 6 + 1))) := by
  refine PT.of (by decide +kernel) (Nat.le_of_ble_eq_true rfl) (by intro v hv; simp only [List.mem_cons, List.not_mem_nil, or_false] at hv; rcases hv with rfl <;> rfl) ?_
  intro A ad0 p e s m args below meth c C hr
  refine J_aload_n C 0 d_Lan_toldLength_0 rfl rfl ?_
  refine J_get C f_Lan_11 (by decide) (e_69 _) rfl d_Lan_toldLength_1 ?_
  refine J_iconst C d_Lan_toldLength_4 (v := nI 5) rfl ?_
  refine K_ial C a_70 (j := 5) rfl (by omega) d_Lan_toldLength_5 ?_
  refine J_val (y := nI (w 5)) (hw 5 (by omega)) ?_
  refine J_bipush C d_Lan_toldLength_6 (v := nI 7) rfl ?_
  refine J_iand C d_Lan_toldLength_8 ?_
  refine J_val (y := nI (w 5 % 8)) (nI_and 3 8 (by have := hw2 5 (by omega); omega) (by decide) rfl) ?_
  refine J_sipush C d_Lan_toldLength_9 (v := nI 256) rfl ?_
  refine J_imulN C d_Lan_toldLength_12 ?_
  refine J_aload_n C 0 d_Lan_toldLength_13 rfl rfl ?_
  refine J_get C f_Lan_11 (by decide) (e_69 _) rfl d_Lan_toldLength_14 ?_
  refine J_bipush C d_Lan_toldLength_17 (v := nI 6) rfl ?_
  refine K_ial C a_70 (j := 6) rfl (by omega) d_Lan_toldLength_19 ?_
  refine J_val (y := nI (w 6)) (hw 6 (by omega)) ?_
  refine J_iaddN C d_Lan_toldLength_20 ?_
  refine J_iconst C d_Lan_toldLength_21 (v := nI 1) rfl ?_
  refine J_iaddN C d_Lan_toldLength_22 ?_
  exact P_iretE C hr rfl d_Lan_toldLength_23

/-- the check of a frame of t bytes in the row f, at place 3 -/
def CkC (f : Nat → Int32) (t : Nat) : Prop := crcAll 32 10487813 f (3 + t - 3) 3 (nI 0) = f (3 + t) <<< (nI 24 &&& 31) ||| f (3 + t + 1) <<< (nI 16 &&& 31) ||| f (3 + t + 2) <<< (nI 8 &&& 31) ||| f (3 + t + 3)
set_option maxHeartbeats 4000000 in
set_option maxRecDepth 100000 in
theorem p_checkHolds (l : Launch) (D : va_G) (dA : Nat → ClassId) (M : Mem) (t : Nat) (ht : t ≤ 64) (r : Int32) (hr1 : CkC (M 70) t → r = 1) (hr0 : ¬ CkC (M 70) t → r = 0) : PT l D dA k_Lan_checkHolds 1 90 [.ref 69, .int (nI t)] (E M) (.int r) := by
  refine PT.of (by decide +kernel) (Nat.le_of_ble_eq_true rfl) (by intro v hv; simp only [List.mem_cons, List.not_mem_nil, or_false] at hv; rcases hv with rfl | rfl <;> rfl) ?_
  intro A ad0 p e s m args below meth c C hr
  refine J_iconst C d_Lan_checkHolds_0 (v := nI 3) rfl ?_
  refine J_iload_n C 1 d_Lan_checkHolds_1 rfl rfl ?_
  refine J_iaddN C d_Lan_checkHolds_2 ?_
  refine J_istore_n C 2 d_Lan_checkHolds_3 rfl (by decide) rfl ?_
  refine J_aload_n C 0 d_Lan_checkHolds_4 rfl rfl ?_
  refine J_get C f_Lan_11 (by decide) (e_69 _) rfl d_Lan_checkHolds_5 ?_
  refine J_iconst C d_Lan_checkHolds_8 (v := nI 3) rfl ?_
  refine J_iload_n C 2 d_Lan_checkHolds_9 rfl rfl ?_
  refine J_bipush C d_Lan_checkHolds_10 (v := nI 32) rfl ?_
  refine J_iconst C d_Lan_checkHolds_12 (v := nI 0) rfl ?_
  refine J_ldc C d_Lan_checkHolds_13 c_Lan_55 ?_
  refine P_callS C (as := [.ref 70, .int (nI 3), .int (nI (3 + t)), .int (nI 32), .int (nI 0), .int 10487813]) (st := []) (p_check70 l D dA M 3 (3 + t) 32 (nI 0) 10487813 (by omega) (by omega) (by omega) (by omega)) l_Lan_56 s_Orb_check rfl (by decide) (by decide) (by decide) (Nat.le_of_ble_eq_true rfl) d_Lan_checkHolds_15 (kk := ?_)
  refine J_istore_n C 3 d_Lan_checkHolds_18 rfl (by decide) rfl ?_
  refine J_aload_n C 0 d_Lan_checkHolds_19 rfl rfl ?_
  refine J_get C f_Lan_11 (by decide) (e_69 _) rfl d_Lan_checkHolds_20 ?_
  refine J_iload_n C 2 d_Lan_checkHolds_23 rfl rfl ?_
  refine K_ial C a_70 (j := 3 + t) rfl (by omega) d_Lan_checkHolds_24 ?_
  refine J_bipush C d_Lan_checkHolds_25 (v := nI 24) rfl ?_
  refine J_ishl C d_Lan_checkHolds_27 ?_
  refine J_aload_n C 0 d_Lan_checkHolds_28 rfl rfl ?_
  refine J_get C f_Lan_11 (by decide) (e_69 _) rfl d_Lan_checkHolds_29 ?_
  refine J_iload_n C 2 d_Lan_checkHolds_32 rfl rfl ?_
  refine J_iconst C d_Lan_checkHolds_33 (v := nI 1) rfl ?_
  refine J_iaddN C d_Lan_checkHolds_34 ?_
  refine K_ial C a_70 (j := (3 + t) + 1) rfl (by omega) d_Lan_checkHolds_35 ?_
  refine J_bipush C d_Lan_checkHolds_36 (v := nI 16) rfl ?_
  refine J_ishl C d_Lan_checkHolds_38 ?_
  refine J_ior C d_Lan_checkHolds_39 ?_
  refine J_aload_n C 0 d_Lan_checkHolds_40 rfl rfl ?_
  refine J_get C f_Lan_11 (by decide) (e_69 _) rfl d_Lan_checkHolds_41 ?_
  refine J_iload_n C 2 d_Lan_checkHolds_44 rfl rfl ?_
  refine J_iconst C d_Lan_checkHolds_45 (v := nI 2) rfl ?_
  refine J_iaddN C d_Lan_checkHolds_46 ?_
  refine K_ial C a_70 (j := (3 + t) + 2) rfl (by omega) d_Lan_checkHolds_47 ?_
  refine J_bipush C d_Lan_checkHolds_48 (v := nI 8) rfl ?_
  refine J_ishl C d_Lan_checkHolds_50 ?_
  refine J_ior C d_Lan_checkHolds_51 ?_
  refine J_aload_n C 0 d_Lan_checkHolds_52 rfl rfl ?_
  refine J_get C f_Lan_11 (by decide) (e_69 _) rfl d_Lan_checkHolds_53 ?_
  refine J_iload_n C 2 d_Lan_checkHolds_56 rfl rfl ?_
  refine J_iconst C d_Lan_checkHolds_57 (v := nI 3) rfl ?_
  refine J_iaddN C d_Lan_checkHolds_58 ?_
  refine K_ial C a_70 (j := (3 + t) + 3) rfl (by omega) d_Lan_checkHolds_59 ?_
  refine J_ior C d_Lan_checkHolds_60 ?_
  refine J_istore C d_Lan_checkHolds_61 (by decide) rfl ?_
  refine J_iload_n C 3 d_Lan_checkHolds_63 rfl rfl ?_
  refine J_iload C d_Lan_checkHolds_64 rfl ?_
  refine J_icmp_ne C 73 d_Lan_checkHolds_66 (by decide) (fun hc66 => ?_) (fun hc66 => ?_)
  · refine J_iconst C d_Lan_checkHolds_73 (v := nI 0) rfl ?_
    exact P_zretE C hr (Or.inl rfl) (by first | exact (hr1 hc66).symm | exact (hr0 hc66).symm) d_Lan_checkHolds_74
  · refine J_iconst C d_Lan_checkHolds_69 (v := nI 1) rfl ?_
    refine J_goto C 74 d_Lan_checkHolds_70 (by decide) ?_
    exact P_zretE C hr (Or.inr rfl) (by first | exact (hr1 hc66).symm | exact (hr0 hc66).symm) d_Lan_checkHolds_74

/-- what look answers: n bytes w, the check's answer ck -/
def LookC (n : Nat) (w : Nat → Nat) (ck : Int32) : Int32 :=
  if n = 0 then 0 else if ¬ w 0 = 250 then -1 else if n ≤ 1 then 0 else if ¬ w 1 = 243 then -1 else if n ≤ 2 then 0 else if ¬ w 2 = 32 then -1 else if n ≤ 3 then 0 else if ¬ w 3 / 64 = 2 then -1 else if n ≤ 6 then 0
  else if w 5 % 8 * 256 + w 6 + 1 < 5 then -1 else if 64 < w 5 % 8 * 256 + w 6 + 1 then -1 else if n < w 5 % 8 * 256 + w 6 + 8 then 0 else if ck = 0 then -1 else nI (w 5 % 8 * 256 + w 6 + 1)
set_option maxHeartbeats 4000000 in
set_option maxRecDepth 100000 in
theorem p_look (l : Launch) (D : va_G) (dA : Nat → ClassId) (M : Mem) (n : Nat) (hn : M 69 2 = nI n) (hn2 : n ≤ 71) (w : Nat → Nat) (hw : ∀ i, i < n → M 70 i = nI (w i)) (hw2 : ∀ i, i < n → w i < 256) (ck : Int32) (hr1 : CkC (M 70) (w 5 % 8 * 256 + w 6 + 1) → ck = 1) (hr0 : ¬ CkC (M 70) (w 5 % 8 * 256 + w 6 + 1) → ck = 0) : PT l D dA k_Lan_look 2 90 [.ref 69] (E M) (.int (LookC n w ck)) := by
  refine PT.of (by decide +kernel) (Nat.le_of_ble_eq_true rfl) (by intro v hv; simp only [List.mem_cons, List.not_mem_nil, or_false] at hv; rcases hv with rfl <;> rfl) ?_
  intro A ad0 p e s m args below meth c C hr
  refine J_iconst C d_Lan_look_0 (v := nI 0) rfl ?_
  refine J_istore_n C 1 d_Lan_look_1 rfl (by decide) rfl ?_
  refine J_iload_n C 1 d_Lan_look_2 rfl rfl ?_
  refine J_iconst C d_Lan_look_3 (v := nI 3) rfl ?_
  refine J_icmpN_ge C 39 d_Lan_look_4 (by decide) (by omega) (by omega) (fun hc4 => absurd hc4 (by decide)) (fun hc4 => ?_)
  refine J_aload_n C 0 d_Lan_look_7 rfl rfl ?_
  refine J_get C f_Lan_20 (by decide) (e_69 _) rfl d_Lan_look_8 ?_
  refine J_val (y := nI n) hn ?_
  refine J_iload_n C 1 d_Lan_look_11 rfl rfl ?_
  refine J_icmpN_gt C 17 d_Lan_look_12 (by decide) (by omega) (by omega) (fun hc12 => ?_) (fun hc12 => ?_)
  · refine J_aload_n C 0 d_Lan_look_17 rfl rfl ?_
    refine J_get C f_Lan_11 (by decide) (e_69 _) rfl d_Lan_look_18 ?_
    refine J_iload_n C 1 d_Lan_look_21 rfl rfl ?_
    refine K_ial C a_70 (j := 0) rfl (by omega) d_Lan_look_22 ?_
    refine J_val (y := nI (w 0)) (hw _ (by omega)) ?_
    refine J_mark C g_mark (by decide) d_Lan_look_23 ?_
    refine J_iload_n C 1 d_Lan_look_26 rfl rfl ?_
    refine J_markld C (j := 0) rfl (by omega) rfl (by decide) d_Lan_look_27 ?_
    refine J_val (y := nI 250) rfl ?_
    have b0 := hw2 (0) (by omega)
    refine J_icmpN_eq C 33 d_Lan_look_28 (by decide) (by omega) (by omega) (fun hc28 => ?_) (fun hc28 => ?_)
    · refine J_iinc C d_Lan_look_33 rfl (v := nI 1) rfl (by decide) rfl ?_
      refine J_goto C 2 d_Lan_look_36 (by decide) ?_
      refine J_iload_n C 1 d_Lan_look_2 rfl rfl ?_
      refine J_iconst C d_Lan_look_3 (v := nI 3) rfl ?_
      refine J_icmpN_ge C 39 d_Lan_look_4 (by decide) (by omega) (by omega) (fun hc4 => absurd hc4 (by decide)) (fun hc4 => ?_)
      refine J_aload_n C 0 d_Lan_look_7 rfl rfl ?_
      refine J_get C f_Lan_20 (by decide) (e_69 _) rfl d_Lan_look_8 ?_
      refine J_val (y := nI n) hn ?_
      refine J_iload_n C 1 d_Lan_look_11 rfl rfl ?_
      refine J_icmpN_gt C 17 d_Lan_look_12 (by decide) (by omega) (by omega) (fun hc12 => ?_) (fun hc12 => ?_)
      · refine J_aload_n C 0 d_Lan_look_17 rfl rfl ?_
        refine J_get C f_Lan_11 (by decide) (e_69 _) rfl d_Lan_look_18 ?_
        refine J_iload_n C 1 d_Lan_look_21 rfl rfl ?_
        refine K_ial C a_70 (j := 1) rfl (by omega) d_Lan_look_22 ?_
        refine J_val (y := nI (w 1)) (hw _ (by omega)) ?_
        refine J_mark C g_mark (by decide) d_Lan_look_23 ?_
        refine J_iload_n C 1 d_Lan_look_26 rfl rfl ?_
        refine J_markld C (j := 1) rfl (by omega) rfl (by decide) d_Lan_look_27 ?_
        refine J_val (y := nI 243) rfl ?_
        have b1 := hw2 (1) (by omega)
        refine J_icmpN_eq C 33 d_Lan_look_28 (by decide) (by omega) (by omega) (fun hc28 => ?_) (fun hc28 => ?_)
        · refine J_iinc C d_Lan_look_33 rfl (v := nI 2) rfl (by decide) rfl ?_
          refine J_goto C 2 d_Lan_look_36 (by decide) ?_
          refine J_iload_n C 1 d_Lan_look_2 rfl rfl ?_
          refine J_iconst C d_Lan_look_3 (v := nI 3) rfl ?_
          refine J_icmpN_ge C 39 d_Lan_look_4 (by decide) (by omega) (by omega) (fun hc4 => absurd hc4 (by decide)) (fun hc4 => ?_)
          refine J_aload_n C 0 d_Lan_look_7 rfl rfl ?_
          refine J_get C f_Lan_20 (by decide) (e_69 _) rfl d_Lan_look_8 ?_
          refine J_val (y := nI n) hn ?_
          refine J_iload_n C 1 d_Lan_look_11 rfl rfl ?_
          refine J_icmpN_gt C 17 d_Lan_look_12 (by decide) (by omega) (by omega) (fun hc12 => ?_) (fun hc12 => ?_)
          · refine J_aload_n C 0 d_Lan_look_17 rfl rfl ?_
            refine J_get C f_Lan_11 (by decide) (e_69 _) rfl d_Lan_look_18 ?_
            refine J_iload_n C 1 d_Lan_look_21 rfl rfl ?_
            refine K_ial C a_70 (j := 2) rfl (by omega) d_Lan_look_22 ?_
            refine J_val (y := nI (w 2)) (hw _ (by omega)) ?_
            refine J_mark C g_mark (by decide) d_Lan_look_23 ?_
            refine J_iload_n C 1 d_Lan_look_26 rfl rfl ?_
            refine J_markld C (j := 2) rfl (by omega) rfl (by decide) d_Lan_look_27 ?_
            refine J_val (y := nI 32) rfl ?_
            have b2 := hw2 (2) (by omega)
            refine J_icmpN_eq C 33 d_Lan_look_28 (by decide) (by omega) (by omega) (fun hc28 => ?_) (fun hc28 => ?_)
            · refine J_iinc C d_Lan_look_33 rfl (v := nI 3) rfl (by decide) rfl ?_
              refine J_goto C 2 d_Lan_look_36 (by decide) ?_
              refine J_iload_n C 1 d_Lan_look_2 rfl rfl ?_
              refine J_iconst C d_Lan_look_3 (v := nI 3) rfl ?_
              refine J_icmpN_ge C 39 d_Lan_look_4 (by decide) (by omega) (by omega) (fun hc4 => ?_) (fun hc4 => absurd hc4 (by decide))
              refine J_aload_n C 0 d_Lan_look_39 rfl rfl ?_
              refine J_get C f_Lan_20 (by decide) (e_69 _) rfl d_Lan_look_40 ?_
              refine J_val (y := nI n) hn ?_
              refine J_iconst C d_Lan_look_43 (v := nI 3) rfl ?_
              refine J_icmpN_gt C 49 d_Lan_look_44 (by decide) (by omega) (by omega) (fun hc44 => ?_) (fun hc44 => ?_)
              · refine J_aload_n C 0 d_Lan_look_49 rfl rfl ?_
                refine J_get C f_Lan_11 (by decide) (e_69 _) rfl d_Lan_look_50 ?_
                refine J_iconst C d_Lan_look_53 (v := nI 3) rfl ?_
                refine K_ial C a_70 (j := 3) rfl (by omega) d_Lan_look_54 ?_
                refine J_val (y := nI (w 3)) (hw _ (by omega)) ?_
                refine J_bipush C d_Lan_look_55 (v := nI 6) rfl ?_
                refine J_ishr C d_Lan_look_57 ?_
                refine J_val (y := nI (w 3 / 64)) (nI_shr 6 64 (by have := hw2 3 (by omega); omega) (by decide) rfl) ?_
                refine J_iconst C d_Lan_look_58 (v := nI 2) rfl ?_
                have b3 := hw2 3 (by omega)
                refine J_icmpN_eq C 64 d_Lan_look_59 (by decide) (by omega) (by omega) (fun hc59 => ?_) (fun hc59 => ?_)
                · refine J_aload_n C 0 d_Lan_look_64 rfl rfl ?_
                  refine J_get C f_Lan_20 (by decide) (e_69 _) rfl d_Lan_look_65 ?_
                  refine J_val (y := nI n) hn ?_
                  refine J_bipush C d_Lan_look_68 (v := nI 6) rfl ?_
                  refine J_icmpN_gt C 75 d_Lan_look_70 (by decide) (by omega) (by omega) (fun hc70 => ?_) (fun hc70 => ?_)
                  · refine J_aload_n C 0 d_Lan_look_75 rfl rfl ?_
                    refine P_callV C (as := []) (st := []) (p_told l D dA M n w hw hw2 (by omega)) l_Lan_39 v_Lan_toldLength (by decide) (e_69 _) rfl (by decide) (by decide) (by decide) (Nat.le_of_ble_eq_true rfl) d_Lan_look_76 (kk := ?_)
                    have b5 := hw2 5 (by omega)
                    have b6 := hw2 6 (by omega)
                    refine J_istore_n C 1 d_Lan_look_79 rfl (by decide) rfl ?_
                    refine J_iload_n C 1 d_Lan_look_80 rfl rfl ?_
                    refine J_iconst C d_Lan_look_81 (v := nI 5) rfl ?_
                    refine J_icmpN_lt C 91 d_Lan_look_82 (by decide) (by omega) (by omega) (fun hc82 => ?_) (fun hc82 => ?_)
                    · refine J_iconst C d_Lan_look_91 (v := -1) rfl ?_
                      exact P_iretE C hr (by unfold LookC; (repeat (first | rw [if_pos (by omega)] | rw [if_neg (by omega)] | rw [if_pos (by assumption)] | rw [if_neg (by assumption)])) <;> rfl) d_Lan_look_92
                    · refine J_iload_n C 1 d_Lan_look_85 rfl rfl ?_
                      refine J_bipush C d_Lan_look_86 (v := nI 64) rfl ?_
                      refine J_icmpN_le C 93 d_Lan_look_88 (by decide) (by omega) (by omega) (fun hc88 => ?_) (fun hc88 => ?_)
                      · refine J_aload_n C 0 d_Lan_look_93 rfl rfl ?_
                        refine J_get C f_Lan_20 (by decide) (e_69 _) rfl d_Lan_look_94 ?_
                        refine J_val (y := nI n) hn ?_
                        refine J_iconst C d_Lan_look_97 (v := nI 3) rfl ?_
                        refine J_iload_n C 1 d_Lan_look_98 rfl rfl ?_
                        refine J_iaddN C d_Lan_look_99 ?_
                        refine J_iconst C d_Lan_look_100 (v := nI 4) rfl ?_
                        refine J_iaddN C d_Lan_look_101 ?_
                        refine J_icmpN_ge C 107 d_Lan_look_102 (by decide) (by omega) (by omega) (fun hc102 => ?_) (fun hc102 => ?_)
                        · refine J_aload_n C 0 d_Lan_look_107 rfl rfl ?_
                          refine J_iload_n C 1 d_Lan_look_108 rfl rfl ?_
                          refine P_callV C (as := [.int (nI (w 5 % 8 * 256 + w 6 + 1))]) (st := []) (p_checkHolds l D dA M (w 5 % 8 * 256 + w 6 + 1) (by omega) ck hr1 hr0) l_Lan_43 v_Lan_checkHolds (by decide) (e_69 _) rfl (by decide) (by decide) (by decide) (Nat.le_of_ble_eq_true rfl) d_Lan_look_109 (kk := ?_)
                          refine J_if_eq C 119 d_Lan_look_112 (by decide) (fun hc112 => ?_) (fun hc112 => ?_)
                          · refine J_iconst C d_Lan_look_119 (v := -1) rfl ?_
                            exact P_iretE C hr (by unfold LookC; (repeat (first | rw [if_pos (by omega)] | rw [if_neg (by omega)] | rw [if_pos (by assumption)] | rw [if_neg (by assumption)])) <;> rfl) d_Lan_look_120
                          · refine J_iload_n C 1 d_Lan_look_115 rfl rfl ?_
                            refine J_goto C 120 d_Lan_look_116 (by decide) ?_
                            exact P_iretE C hr (by unfold LookC; (repeat (first | rw [if_pos (by omega)] | rw [if_neg (by omega)] | rw [if_pos (by assumption)] | rw [if_neg (by assumption)])) <;> rfl) d_Lan_look_120
                        · refine J_iconst C d_Lan_look_105 (v := nI 0) rfl ?_
                          exact P_iretE C hr (by unfold LookC; (repeat (first | rw [if_pos (by omega)] | rw [if_neg (by omega)] | rw [if_pos (by assumption)] | rw [if_neg (by assumption)])) <;> rfl) d_Lan_look_106
                      · refine J_iconst C d_Lan_look_91 (v := -1) rfl ?_
                        exact P_iretE C hr (by unfold LookC; (repeat (first | rw [if_pos (by omega)] | rw [if_neg (by omega)] | rw [if_pos (by assumption)] | rw [if_neg (by assumption)])) <;> rfl) d_Lan_look_92
                  · refine J_iconst C d_Lan_look_73 (v := nI 0) rfl ?_
                    exact P_iretE C hr (by unfold LookC; (repeat (first | rw [if_pos (by omega)] | rw [if_neg (by omega)] | rw [if_pos (by assumption)] | rw [if_neg (by assumption)])) <;> rfl) d_Lan_look_74
                · refine J_iconst C d_Lan_look_62 (v := -1) rfl ?_
                  exact P_iretE C hr (by unfold LookC; (repeat (first | rw [if_pos (by omega)] | rw [if_neg (by omega)] | rw [if_pos (by assumption)] | rw [if_neg (by assumption)])) <;> rfl) d_Lan_look_63
              · refine J_iconst C d_Lan_look_47 (v := nI 0) rfl ?_
                exact P_iretE C hr (by unfold LookC; (repeat (first | rw [if_pos (by omega)] | rw [if_neg (by omega)] | rw [if_pos (by assumption)] | rw [if_neg (by assumption)])) <;> rfl) d_Lan_look_48
            · refine J_iconst C d_Lan_look_31 (v := -1) rfl ?_
              exact P_iretE C hr (by unfold LookC; (repeat (first | rw [if_pos (by omega)] | rw [if_neg (by omega)] | rw [if_pos (by assumption)] | rw [if_neg (by assumption)])) <;> rfl) d_Lan_look_32
          · refine J_iconst C d_Lan_look_15 (v := nI 0) rfl ?_
            exact P_iretE C hr (by unfold LookC; (repeat (first | rw [if_pos (by omega)] | rw [if_neg (by omega)] | rw [if_pos (by assumption)] | rw [if_neg (by assumption)])) <;> rfl) d_Lan_look_16
        · refine J_iconst C d_Lan_look_31 (v := -1) rfl ?_
          exact P_iretE C hr (by unfold LookC; (repeat (first | rw [if_pos (by omega)] | rw [if_neg (by omega)] | rw [if_pos (by assumption)] | rw [if_neg (by assumption)])) <;> rfl) d_Lan_look_32
      · refine J_iconst C d_Lan_look_15 (v := nI 0) rfl ?_
        exact P_iretE C hr (by unfold LookC; (repeat (first | rw [if_pos (by omega)] | rw [if_neg (by omega)] | rw [if_pos (by assumption)] | rw [if_neg (by assumption)])) <;> rfl) d_Lan_look_16
    · refine J_iconst C d_Lan_look_31 (v := -1) rfl ?_
      exact P_iretE C hr (by unfold LookC; (repeat (first | rw [if_pos (by omega)] | rw [if_neg (by omega)] | rw [if_pos (by assumption)] | rw [if_neg (by assumption)])) <;> rfl) d_Lan_look_32
  · refine J_iconst C d_Lan_look_15 (v := nI 0) rfl ?_
    exact P_iretE C hr (by unfold LookC; (repeat (first | rw [if_pos (by omega)] | rw [if_neg (by omega)] | rw [if_pos (by assumption)] | rw [if_neg (by assumption)])) <;> rfl) d_Lan_look_16

set_option maxHeartbeats 4000000 in
set_option maxRecDepth 100000 in
theorem f_copy (l : Launch) (D : va_G) (dA : Nat → ClassId) (M : Mem) (t : Nat) (h5 : 5 ≤ t) (h64 : t ≤ 64) : CF l D dA k_Frm_copy 0 [.ref 71, .ref 70, .int (nI 3), .int (nI t)] M (none) (ma (mu M 71 1 (nI t)) 72 (va_cpy (M 70) (M 72) 3 0 t)) := by
  refine CF.of (by decide +kernel) (Nat.le_of_ble_eq_true rfl) (by intro v hv; simp only [List.mem_cons, List.not_mem_nil, or_false] at hv; rcases hv with rfl | rfl | rfl | rfl <;> rfl) ?_
  intro A ad0 p e s m args below meth c C hr
  refine J_aload_n C 0 d_Frm_copy_0 rfl rfl ?_
  refine J_iconst C d_Frm_copy_1 (v := nI 5) rfl ?_
  refine J_bipush C d_Frm_copy_2 (v := nI 64) rfl ?_
  refine J_iload_n C 3 d_Frm_copy_4 rfl rfl ?_
  refine J_mmin C m_Frm_17 ms_min mi_Math mc_min (Nat.le_of_ble_eq_true rfl) (by decide) d_Frm_copy_5 ?_
  refine J_val (y := nI t) (by rw [nI_min (by omega) (by omega), Nat.min_eq_right h64]) ?_
  refine J_mmax C m_Frm_23 ms_max mi_Math mc_max (Nat.le_of_ble_eq_true rfl) (by decide) d_Frm_copy_8 ?_
  refine J_val (y := nI t) (by rw [nI_max (by omega) (by omega), Nat.max_eq_right h5]) ?_
  refine K_putI C f_Frm_13 (by decide) (e_71 _) (Nat.le_of_ble_eq_true rfl) rfl d_Frm_copy_11 (kk := ?_)
  refine J_aload_n C 1 d_Frm_copy_14 rfl rfl ?_
  refine J_iload_n C 2 d_Frm_copy_15 rfl rfl ?_
  refine J_aload_n C 0 d_Frm_copy_16 rfl rfl ?_
  refine J_get C f_Frm_9 (by decide) (e_71 _) rfl d_Frm_copy_17 ?_
  refine J_iconst C d_Frm_copy_20 (v := nI 0) rfl ?_
  refine J_aload_n C 0 d_Frm_copy_21 rfl rfl ?_
  refine J_get C f_Frm_13 (by decide) (e_71 _) rfl d_Frm_copy_22 ?_
  refine J_val (y := nI t) rfl ?_
  refine K_copy C m_Frm_26 mn_copy ms_copy mi_Sys a_70 a_72 (by omega) (by omega) (Nat.le_of_ble_eq_true rfl) d_Frm_copy_25 (k := ?_)
  exact F_ret C hr rfl d_Frm_copy_28

def fTake (M : Mem) (n t : Nat) : Mem := mu (ma (ma (mu M 71 1 (nI t)) 72 (va_cpy (M 70) (M 72) 3 0 t)) 70 (va_cpy (M 70) (M 70) (3 + t + 4) 0 (n - (3 + t + 4)))) 69 2 (nI (n - (3 + t + 4)))
set_option maxHeartbeats 4000000 in
set_option maxRecDepth 100000 in
theorem f_takeFrame (l : Launch) (D : va_G) (dA : Nat → ClassId) (M : Mem) (n : Nat) (hn : M 69 2 = nI n) (hn2 : n ≤ 71) (w : Nat → Nat) (hw : ∀ i, i < n → M 70 i = nI (w i)) (hw2 : ∀ i, i < n → w i < 256) (t : Nat) (ht : w 5 % 8 * 256 + w 6 + 1 = t) (h5 : 5 ≤ t) (h64 : t ≤ 64) (hnt : 3 + t + 4 ≤ n) : CF l D dA k_Lan_takeFrame 1 [.ref 69] M (none) (fTake M n t) := by
  refine CF.of (by decide +kernel) (Nat.le_of_ble_eq_true rfl) (by intro v hv; simp only [List.mem_cons, List.not_mem_nil, or_false] at hv; rcases hv with rfl <;> rfl) ?_
  intro A ad0 p e s m args below meth c C hr
  refine J_aload_n C 0 d_Lan_takeFrame_0 rfl rfl ?_
  refine P_callV C (as := []) (st := []) (p_told l D dA M n w hw hw2 (by omega)) l_Lan_39 v_Lan_toldLength (by decide) (e_69 _) rfl (by decide) (by decide) (by decide) (Nat.le_of_ble_eq_true rfl) d_Lan_takeFrame_1 (kk := ?_)
  rw [ht]
  refine J_istore_n C 1 d_Lan_takeFrame_4 rfl (by decide) rfl ?_
  refine J_aload_n C 0 d_Lan_takeFrame_5 rfl rfl ?_
  refine J_get C f_Lan_16 (by decide) (e_69 _) rfl d_Lan_takeFrame_6 ?_
  refine J_aload_n C 0 d_Lan_takeFrame_9 rfl rfl ?_
  refine J_get C f_Lan_11 (by decide) (e_69 _) rfl d_Lan_takeFrame_10 ?_
  refine J_iconst C d_Lan_takeFrame_13 (v := nI 3) rfl ?_
  refine J_iload_n C 1 d_Lan_takeFrame_14 rfl rfl ?_
  refine F_callV C (as := [.ref 70, .int (nI 3), .int (nI t)]) (st := []) (f_copy l D dA M t (by omega) (by omega)) l_Lan_47 v_Frm_copy (by decide) (e_71 _) rfl (by decide) (by decide) (Nat.le_of_ble_eq_true rfl) d_Lan_takeFrame_15 (kk := ?_)
  refine J_aload_n C 0 d_Lan_takeFrame_18 rfl rfl ?_
  refine J_iconst C d_Lan_takeFrame_19 (v := nI 3) rfl ?_
  refine J_iload_n C 1 d_Lan_takeFrame_20 rfl rfl ?_
  refine J_iaddN C d_Lan_takeFrame_21 ?_
  refine J_iconst C d_Lan_takeFrame_22 (v := nI 4) rfl ?_
  refine J_iaddN C d_Lan_takeFrame_23 ?_
  refine F_callV C (as := [.int (nI ((3 + t) + 4))]) (st := []) (f_giveUp l D dA (ma (mu M 71 1 (nI t)) 72 (va_cpy (M 70) (M 72) 3 0 t)) n ((3 + t) + 4) (by first | assumption | (simp [mu, ma, va_up]; exact hn)) hn2 (by omega)) l_Lan_51 v_Lan_giveUp (by decide) (e_69 _) rfl (by decide) (by decide) (Nat.le_of_ble_eq_true rfl) d_Lan_takeFrame_24 (kk := ?_)
  exact F_ret C hr rfl d_Lan_takeFrame_27
end
section
section ZV
variable {D : va_G} {dA : Nat → ClassId} {A : Nat → Prop} {Φ : Heap → List Loc → Prop} {ad0 : Nat → Nat} {n0 nL : Nat} {p : Program} {l : Launch} {e : Env} {R : Room} {s : State} {m : MethodId} {args : Array Value} {below : List Frame} {meth : Method} {c : Code} {Q : State → Prop} {pc : Nat} {lv : List (Option Value)} {st : List Value} {h : Nat → va_E} {n kc ks : Nat} {own : String} {cc : ByteArray}
theorem J_vref {x y : Value} (hv : x = y) (k : J D dA A Φ ad0 n0 nL p l e R s m args below meth c Q (pc) (lv) (y :: st) (h) n kc ks) : J D dA A Φ ad0 n0 nL p l e R s m args below meth c Q (pc) (lv) (x :: st) (h) n kc ks := by subst hv; exact k
end ZV
theorem Ec55_t (r : Nat → Int32) {j : Nat} (hj : j < 4) : Ec 55 (upd r 8 (nI (j + 1))) = .inr (4, [.ref 3, .ref 56, .ref 60, .int (r 3), .int (r 4), .int (r 5), .int (r 6), .int (r 7), .ref (61 + 2 * j), .int (r 9)]) := by
  show Sum.inr (4, [Value.ref 3, .ref 56, .ref 60, .int (r 3), .int (r 4), .int (r 5), .int (r 6), .int (r 7), zT (nI (j + 1)), .int (r 9)]) = _
  rw [zT_s hj]
theorem Ec55_n (r : Nat → Int32) : Ec 55 (upd r 8 (nI 0)) = .inr (4, [.ref 3, .ref 56, .ref 60, .int (r 3), .int (r 4), .int (r 5), .int (r 6), .int (r 7), .null, .int (r 9)]) := rfl
def fFg (M : Mem) (j : Nat) : Mem := mu (mu M (61 + 2 * j) 2 (nI 0)) (61 + 2 * j) 1 (nI 0)
def fFS (M : Mem) : Mem := fFg (fFg (fFg (fFg M 0) 1) 2) 3
set_option maxHeartbeats 4000000 in
set_option maxRecDepth 100000 in
theorem f_forget (l : Launch) (D : va_G) (dA : Nat → ClassId) (M : Mem) (j : Nat) (hj : j < 4) : CF l D dA k_Str_forget 0 [.ref (61 + 2 * j)] M (none) (fFg M j) := by
  refine CF.of (by decide +kernel) (Nat.le_of_ble_eq_true rfl) (by intro v hv; simp only [List.mem_cons, List.not_mem_nil, or_false] at hv; rcases hv with rfl <;> rfl) ?_
  intro A ad0 p e s m args below meth c C hr
  refine J_aload_n C 0 d_Str_forget_0 rfl rfl ?_
  refine J_iconst C d_Str_forget_1 (v := nI 0) rfl ?_
  refine K_putZ C f_Str_19 (by omega) (e_st _ (by omega)) (Nat.le_of_ble_eq_true rfl) (Or.inl rfl) (Ec_st (by omega) _) d_Str_forget_2 (kk := ?_)
  refine J_aload_n C 0 d_Str_forget_5 rfl rfl ?_
  refine J_iconst C d_Str_forget_6 (v := nI 0) rfl ?_
  refine K_putI C f_Str_15 (by omega) (e_st _ (by omega)) (Nat.le_of_ble_eq_true rfl) (Ec_st (by omega) _) d_Str_forget_7 (kk := ?_)
  exact F_ret C hr rfl d_Str_forget_10

set_option maxHeartbeats 4000000 in
set_option maxRecDepth 100000 in
theorem f_hold (l : Launch) (D : va_G) (dA : Nat → ClassId) (M : Mem) (j n : Nat) (hj : j < 4) (hn : M 56 3 = nI n) (hn2 : n ≤ 60) : CF l D dA k_Str_hold 0 [.ref (61 + 2 * j), .ref 56] M (none) (ma (mu (mu M (61 + 2 * j) 2 (nI 1)) (61 + 2 * j) 1 (nI n)) (62 + 2 * j) (va_cpy (M 57) (M (62 + 2 * j)) 0 0 n)) := by
  refine CF.of (by decide +kernel) (Nat.le_of_ble_eq_true rfl) (by intro v hv; simp only [List.mem_cons, List.not_mem_nil, or_false] at hv; rcases hv with rfl | rfl <;> rfl) ?_
  intro A ad0 p e s m args below meth c C hr
  refine J_aload_n C 0 d_Str_hold_0 rfl rfl ?_
  refine J_iconst C d_Str_hold_1 (v := nI 1) rfl ?_
  refine K_putZ C f_Str_19 (by omega) (e_st _ (by omega)) (Nat.le_of_ble_eq_true rfl) (Or.inr rfl) (Ec_st (by omega) _) d_Str_hold_2 (kk := ?_)
  refine J_aload_n C 0 d_Str_hold_5 rfl rfl ?_
  refine J_aload_n C 1 d_Str_hold_6 rfl rfl ?_
  refine J_get C f_Str_23 (by decide) (e_56 _) rfl d_Str_hold_7 ?_
  refine J_val (y := nI n) (by simp [mu, va_up, show ¬ (56 : Nat) = 61 + 2 * j by omega]; exact hn) ?_
  refine K_putI C f_Str_15 (by omega) (e_st _ (by omega)) (Nat.le_of_ble_eq_true rfl) (Ec_st (by omega) _) d_Str_hold_10 (kk := ?_)
  refine J_aload_n C 1 d_Str_hold_13 rfl rfl ?_
  refine J_get C f_Str_26 (by decide) (e_56 _) rfl d_Str_hold_14 ?_
  refine J_iconst C d_Str_hold_17 (v := nI 0) rfl ?_
  refine J_aload_n C 0 d_Str_hold_18 rfl rfl ?_
  refine J_get C f_Str_9 (by omega) (e_st _ (by omega)) rfl d_Str_hold_19 ?_
  refine J_iconst C d_Str_hold_22 (v := nI 0) rfl ?_
  refine J_aload_n C 0 d_Str_hold_23 rfl rfl ?_
  refine J_get C f_Str_15 (by omega) (e_st _ (by omega)) rfl d_Str_hold_24 ?_
  refine J_val (y := nI n) (by simp [mu, va_up, upd]) ?_
  refine K_copy C m_Str_29 mn_copy ms_copy mi_Sys a_57 (a_sp (by omega)) (by omega) (by omega) (Nat.le_of_ble_eq_true rfl) d_Str_hold_27 (k := ?_)
  refine J_mem (M2 := ma (mu (mu M (61 + 2 * j) 2 (nI 1)) (61 + 2 * j) 1 (nI n)) (62 + 2 * j) (va_cpy (M 57) (M (62 + 2 * j)) 0 0 n)) (by congr 1; congr 1 <;> (simp only [mu, va_up]; rw [if_neg (by omega), if_neg (by omega)])) ?_
  exact F_ret C hr rfl d_Str_hold_30

set_option maxHeartbeats 4000000 in
set_option maxRecDepth 100000 in
theorem f_forgetSegments (l : Launch) (D : va_G) (dA : Nat → ClassId) (M : Mem) : CF l D dA k_Ses_forgetSegments 1 [.ref 55] M (none) (fFS M) := by
  refine CF.of (by decide +kernel) (Nat.le_of_ble_eq_true rfl) (by intro v hv; simp only [List.mem_cons, List.not_mem_nil, or_false] at hv; rcases hv with rfl <;> rfl) ?_
  intro A ad0 p e s m args below meth c C hr
  refine J_iconst C d_Ses_forgetSegments_0 (v := nI 0) rfl ?_
  refine J_istore_n C 1 d_Ses_forgetSegments_1 rfl (by decide) rfl ?_
  refine J_iload_n C 1 d_Ses_forgetSegments_2 rfl rfl ?_
  refine J_iconst C d_Ses_forgetSegments_3 (v := nI 4) rfl ?_
  refine J_icmpN_ge C 22 d_Ses_forgetSegments_4 (by decide) (by omega) (by omega) (fun hc4 => absurd hc4 (by decide)) (fun hc4 => ?_)
  refine J_aload_n C 0 d_Ses_forgetSegments_7 rfl rfl ?_
  refine J_get C f_Ses_20 (by decide) (e_55 _) rfl d_Ses_forgetSegments_8 ?_
  refine J_iload_n C 1 d_Ses_forgetSegments_11 rfl rfl ?_
  refine K_stld C (j := 0) rfl (by omega) d_Ses_forgetSegments_12 ?_
  refine F_callV C (as := []) (st := []) (f_forget l D dA M 0 (by omega)) l_Ses_110 v_Str_forget (by omega) (e_st _ (by omega)) rfl (by decide) (by decide) (Nat.le_of_ble_eq_true rfl) d_Ses_forgetSegments_13 (kk := ?_)
  refine J_iinc C d_Ses_forgetSegments_16 rfl (v := nI 1) rfl (by decide) rfl ?_
  refine J_goto C 2 d_Ses_forgetSegments_19 (by decide) ?_
  refine J_iload_n C 1 d_Ses_forgetSegments_2 rfl rfl ?_
  refine J_iconst C d_Ses_forgetSegments_3 (v := nI 4) rfl ?_
  refine J_icmpN_ge C 22 d_Ses_forgetSegments_4 (by decide) (by omega) (by omega) (fun hc4 => absurd hc4 (by decide)) (fun hc4 => ?_)
  refine J_aload_n C 0 d_Ses_forgetSegments_7 rfl rfl ?_
  refine J_get C f_Ses_20 (by decide) (e_55 _) rfl d_Ses_forgetSegments_8 ?_
  refine J_iload_n C 1 d_Ses_forgetSegments_11 rfl rfl ?_
  refine K_stld C (j := 1) rfl (by omega) d_Ses_forgetSegments_12 ?_
  refine F_callV C (as := []) (st := []) (f_forget l D dA (fFg M 0) 1 (by omega)) l_Ses_110 v_Str_forget (by omega) (e_st _ (by omega)) rfl (by decide) (by decide) (Nat.le_of_ble_eq_true rfl) d_Ses_forgetSegments_13 (kk := ?_)
  refine J_iinc C d_Ses_forgetSegments_16 rfl (v := nI 2) rfl (by decide) rfl ?_
  refine J_goto C 2 d_Ses_forgetSegments_19 (by decide) ?_
  refine J_iload_n C 1 d_Ses_forgetSegments_2 rfl rfl ?_
  refine J_iconst C d_Ses_forgetSegments_3 (v := nI 4) rfl ?_
  refine J_icmpN_ge C 22 d_Ses_forgetSegments_4 (by decide) (by omega) (by omega) (fun hc4 => absurd hc4 (by decide)) (fun hc4 => ?_)
  refine J_aload_n C 0 d_Ses_forgetSegments_7 rfl rfl ?_
  refine J_get C f_Ses_20 (by decide) (e_55 _) rfl d_Ses_forgetSegments_8 ?_
  refine J_iload_n C 1 d_Ses_forgetSegments_11 rfl rfl ?_
  refine K_stld C (j := 2) rfl (by omega) d_Ses_forgetSegments_12 ?_
  refine F_callV C (as := []) (st := []) (f_forget l D dA (fFg (fFg M 0) 1) 2 (by omega)) l_Ses_110 v_Str_forget (by omega) (e_st _ (by omega)) rfl (by decide) (by decide) (Nat.le_of_ble_eq_true rfl) d_Ses_forgetSegments_13 (kk := ?_)
  refine J_iinc C d_Ses_forgetSegments_16 rfl (v := nI 3) rfl (by decide) rfl ?_
  refine J_goto C 2 d_Ses_forgetSegments_19 (by decide) ?_
  refine J_iload_n C 1 d_Ses_forgetSegments_2 rfl rfl ?_
  refine J_iconst C d_Ses_forgetSegments_3 (v := nI 4) rfl ?_
  refine J_icmpN_ge C 22 d_Ses_forgetSegments_4 (by decide) (by omega) (by omega) (fun hc4 => absurd hc4 (by decide)) (fun hc4 => ?_)
  refine J_aload_n C 0 d_Ses_forgetSegments_7 rfl rfl ?_
  refine J_get C f_Ses_20 (by decide) (e_55 _) rfl d_Ses_forgetSegments_8 ?_
  refine J_iload_n C 1 d_Ses_forgetSegments_11 rfl rfl ?_
  refine K_stld C (j := 3) rfl (by omega) d_Ses_forgetSegments_12 ?_
  refine F_callV C (as := []) (st := []) (f_forget l D dA (fFg (fFg (fFg M 0) 1) 2) 3 (by omega)) l_Ses_110 v_Str_forget (by omega) (e_st _ (by omega)) rfl (by decide) (by decide) (Nat.le_of_ble_eq_true rfl) d_Ses_forgetSegments_13 (kk := ?_)
  refine J_iinc C d_Ses_forgetSegments_16 rfl (v := nI 4) rfl (by decide) rfl ?_
  refine J_goto C 2 d_Ses_forgetSegments_19 (by decide) ?_
  refine J_iload_n C 1 d_Ses_forgetSegments_2 rfl rfl ?_
  refine J_iconst C d_Ses_forgetSegments_3 (v := nI 4) rfl ?_
  refine J_icmpN_ge C 22 d_Ses_forgetSegments_4 (by decide) (by omega) (by omega) (fun hc4 => ?_) (fun hc4 => absurd hc4 (by decide))
  exact F_ret C hr rfl d_Ses_forgetSegments_22

set_option maxHeartbeats 4000000 in
set_option maxRecDepth 100000 in
theorem f_srestart (l : Launch) (D : va_G) (dA : Nat → ClassId) (M : Mem) : CF l D dA k_Ses_restart 2 [.ref 55] M (none) (fFS (mu M 55 3 (nI 0))) := by
  refine CF.of (by decide +kernel) (Nat.le_of_ble_eq_true rfl) (by intro v hv; simp only [List.mem_cons, List.not_mem_nil, or_false] at hv; rcases hv with rfl <;> rfl) ?_
  intro A ad0 p e s m args below meth c C hr
  refine J_aload_n C 0 d_Ses_restart_0 rfl rfl ?_
  refine J_iconst C d_Ses_restart_1 (v := nI 0) rfl ?_
  refine K_putZ C f_Ses_24 (by decide) (e_55 _) (Nat.le_of_ble_eq_true rfl) (Or.inl rfl) rfl d_Ses_restart_2 (kk := ?_)
  refine J_aload_n C 0 d_Ses_restart_5 rfl rfl ?_
  refine F_callV C (as := []) (st := []) (f_forgetSegments l D dA (mu M 55 3 (nI 0))) l_Ses_53 v_Ses_forgetSegments (by decide) (e_55 _) rfl (by decide) (by decide) (Nat.le_of_ble_eq_true rfl) d_Ses_restart_6 (kk := ?_)
  exact F_ret C hr rfl d_Ses_restart_9

set_option maxHeartbeats 4000000 in
set_option maxRecDepth 100000 in
theorem f_begin (l : Launch) (D : va_G) (dA : Nat → ClassId) (M : Mem) (ch : Int32) : CF l D dA k_Ses_begin 2 [.ref 55, .int ch] M (none) (fFS (mu (mu (mu (mu (mu M 55 3 (nI 1)) 55 4 ch) 55 5 (nI 0)) 55 6 (nI 0)) 55 7 (nI 0))) := by
  refine CF.of (by decide +kernel) (Nat.le_of_ble_eq_true rfl) (by intro v hv; simp only [List.mem_cons, List.not_mem_nil, or_false] at hv; rcases hv with rfl | rfl <;> rfl) ?_
  intro A ad0 p e s m args below meth c C hr
  refine J_aload_n C 0 d_Ses_begin_0 rfl rfl ?_
  refine J_iconst C d_Ses_begin_1 (v := nI 1) rfl ?_
  refine K_putZ C f_Ses_24 (by decide) (e_55 _) (Nat.le_of_ble_eq_true rfl) (Or.inr rfl) rfl d_Ses_begin_2 (kk := ?_)
  refine J_aload_n C 0 d_Ses_begin_5 rfl rfl ?_
  refine J_iload_n C 1 d_Ses_begin_6 rfl rfl ?_
  refine K_putI C f_Ses_28 (by decide) (e_55 _) (Nat.le_of_ble_eq_true rfl) rfl d_Ses_begin_7 (kk := ?_)
  refine J_aload_n C 0 d_Ses_begin_10 rfl rfl ?_
  refine J_iconst C d_Ses_begin_11 (v := nI 0) rfl ?_
  refine K_putI C f_Ses_32 (by decide) (e_55 _) (Nat.le_of_ble_eq_true rfl) rfl d_Ses_begin_12 (kk := ?_)
  refine J_aload_n C 0 d_Ses_begin_15 rfl rfl ?_
  refine J_iconst C d_Ses_begin_16 (v := nI 0) rfl ?_
  refine K_putZ C f_Ses_35 (by decide) (e_55 _) (Nat.le_of_ble_eq_true rfl) (Or.inl rfl) rfl d_Ses_begin_17 (kk := ?_)
  refine J_aload_n C 0 d_Ses_begin_20 rfl rfl ?_
  refine J_iconst C d_Ses_begin_21 (v := nI 0) rfl ?_
  refine K_putI C f_Ses_38 (by decide) (e_55 _) (Nat.le_of_ble_eq_true rfl) rfl d_Ses_begin_22 (kk := ?_)
  refine J_aload_n C 0 d_Ses_begin_25 rfl rfl ?_
  refine F_callV C (as := []) (st := []) (f_forgetSegments l D dA (mu (mu (mu (mu (mu M 55 3 (nI 1)) 55 4 ch) 55 5 (nI 0)) 55 6 (nI 0)) 55 7 (nI 0))) l_Ses_53 v_Ses_forgetSegments (by decide) (e_55 _) rfl (by decide) (by decide) (Nat.le_of_ble_eq_true rfl) d_Ses_begin_26 (kk := ?_)
  exact F_ret C hr rfl d_Ses_begin_29

def ChF (M : Mem) : Int32 := M 72 2 >>> (nI 7 &&& 31)
set_option maxHeartbeats 4000000 in
set_option maxRecDepth 100000 in
theorem p_isOnFor (l : Launch) (D : va_G) (dA : Nat → ClassId) (M : Mem) : PT l D dA k_Ses_isOnFor 1 90 [.ref 55, .ref 71] (E M) (.int (if M 55 3 = 0 then 0 else if ChF M = M 55 4 then 1 else 0)) := by
  refine PT.of (by decide +kernel) (Nat.le_of_ble_eq_true rfl) (by intro v hv; simp only [List.mem_cons, List.not_mem_nil, or_false] at hv; rcases hv with rfl | rfl <;> rfl) ?_
  intro A ad0 p e s m args below meth c C hr
  refine J_aload_n C 0 d_Ses_isOnFor_0 rfl rfl ?_
  refine J_get C f_Ses_24 (by decide) (e_55 _) rfl d_Ses_isOnFor_1 ?_
  refine J_if_eq C 22 d_Ses_isOnFor_4 (by decide) (fun hc4 => ?_) (fun hc4 => ?_)
  · refine J_iconst C d_Ses_isOnFor_22 (v := nI 0) rfl ?_
    exact P_zretE C hr (Or.inl rfl) (by simp only [ChF, hc4, if_true, if_false]; try rfl) d_Ses_isOnFor_23
  · refine J_aload_n C 1 d_Ses_isOnFor_7 rfl rfl ?_
    refine P_callV C (as := []) (st := []) (p_channel l D dA M) l_Ses_97 v_Frm_channel (by decide) (e_71 _) rfl (by decide) (by decide) (by decide) (Nat.le_of_ble_eq_true rfl) d_Ses_isOnFor_8 (kk := ?_)
    refine J_aload_n C 0 d_Ses_isOnFor_11 rfl rfl ?_
    refine J_get C f_Ses_28 (by decide) (e_55 _) rfl d_Ses_isOnFor_12 ?_
    refine J_icmp_ne C 22 d_Ses_isOnFor_15 (by decide) (fun hc15 => ?_) (fun hc15 => ?_)
    · refine J_iconst C d_Ses_isOnFor_22 (v := nI 0) rfl ?_
      exact P_zretE C hr (Or.inl rfl) (by simp only [ChF, hc4, hc15, if_true, if_false]; try rfl) d_Ses_isOnFor_23
    · refine J_iconst C d_Ses_isOnFor_18 (v := nI 1) rfl ?_
      refine J_goto C 23 d_Ses_isOnFor_19 (by decide) ?_
      exact P_zretE C hr (Or.inr rfl) (by simp only [ChF, hc4, hc15, if_true, if_false]; try rfl) d_Ses_isOnFor_23

set_option maxHeartbeats 4000000 in
set_option maxRecDepth 100000 in
theorem p_reportWord (l : Launch) (D : va_G) (dA : Nat → ClassId) (M : Mem) : PT l D dA k_Ses_reportWord 0 90 [.ref 55] (E M) (.int (if M 55 3 = 0 then 0 else ((32768 ||| (if M 55 6 = 0 then 0 else nI 8192)) ||| (M 55 4 <<< (nI 12 &&& 31))) ||| (M 55 7 <<< (nI 8 &&& 31)) ||| M 55 5)) := by
  refine PT.of (by decide +kernel) (Nat.le_of_ble_eq_true rfl) (by intro v hv; simp only [List.mem_cons, List.not_mem_nil, or_false] at hv; rcases hv with rfl <;> rfl) ?_
  intro A ad0 p e s m args below meth c C hr
  refine J_aload_n C 0 d_Ses_reportWord_0 rfl rfl ?_
  refine J_get C f_Ses_24 (by decide) (e_55 _) rfl d_Ses_reportWord_1 ?_
  refine J_if_ne C 9 d_Ses_reportWord_4 (by decide) (fun hc4 => ?_) (fun hc4 => ?_)
  · refine J_ldc C d_Ses_reportWord_9 c_Ses_56 ?_
    refine J_aload_n C 0 d_Ses_reportWord_11 rfl rfl ?_
    refine J_get C f_Ses_35 (by decide) (e_55 _) rfl d_Ses_reportWord_12 ?_
    refine J_if_eq C 24 d_Ses_reportWord_15 (by decide) (fun hc15 => ?_) (fun hc15 => ?_)
    · refine J_iconst C d_Ses_reportWord_24 (v := nI 0) rfl ?_
      refine J_ior C d_Ses_reportWord_25 ?_
      refine J_aload_n C 0 d_Ses_reportWord_26 rfl rfl ?_
      refine J_get C f_Ses_28 (by decide) (e_55 _) rfl d_Ses_reportWord_27 ?_
      refine J_bipush C d_Ses_reportWord_30 (v := nI 12) rfl ?_
      refine J_ishl C d_Ses_reportWord_32 ?_
      refine J_ior C d_Ses_reportWord_33 ?_
      refine J_aload_n C 0 d_Ses_reportWord_34 rfl rfl ?_
      refine J_get C f_Ses_38 (by decide) (e_55 _) rfl d_Ses_reportWord_35 ?_
      refine J_bipush C d_Ses_reportWord_38 (v := nI 8) rfl ?_
      refine J_ishl C d_Ses_reportWord_40 ?_
      refine J_ior C d_Ses_reportWord_41 ?_
      refine J_aload_n C 0 d_Ses_reportWord_42 rfl rfl ?_
      refine J_get C f_Ses_32 (by decide) (e_55 _) rfl d_Ses_reportWord_43 ?_
      refine J_ior C d_Ses_reportWord_46 ?_
      exact P_iretE C hr (by simp only [hc4, hc15, if_true, if_false]; try rfl) d_Ses_reportWord_47
    · refine J_sipush C d_Ses_reportWord_18 (v := nI 8192) rfl ?_
      refine J_goto C 25 d_Ses_reportWord_21 (by decide) ?_
      refine J_ior C d_Ses_reportWord_25 ?_
      refine J_aload_n C 0 d_Ses_reportWord_26 rfl rfl ?_
      refine J_get C f_Ses_28 (by decide) (e_55 _) rfl d_Ses_reportWord_27 ?_
      refine J_bipush C d_Ses_reportWord_30 (v := nI 12) rfl ?_
      refine J_ishl C d_Ses_reportWord_32 ?_
      refine J_ior C d_Ses_reportWord_33 ?_
      refine J_aload_n C 0 d_Ses_reportWord_34 rfl rfl ?_
      refine J_get C f_Ses_38 (by decide) (e_55 _) rfl d_Ses_reportWord_35 ?_
      refine J_bipush C d_Ses_reportWord_38 (v := nI 8) rfl ?_
      refine J_ishl C d_Ses_reportWord_40 ?_
      refine J_ior C d_Ses_reportWord_41 ?_
      refine J_aload_n C 0 d_Ses_reportWord_42 rfl rfl ?_
      refine J_get C f_Ses_32 (by decide) (e_55 _) rfl d_Ses_reportWord_43 ?_
      refine J_ior C d_Ses_reportWord_46 ?_
      exact P_iretE C hr (by simp only [hc4, hc15, if_true, if_false]; try rfl) d_Ses_reportWord_47
  · refine J_iconst C d_Ses_reportWord_7 (v := nI 0) rfl ?_
    exact P_iretE C hr (by simp only [hc4, if_true, if_false]; try rfl) d_Ses_reportWord_8

set_option maxHeartbeats 4000000 in
set_option maxRecDepth 100000 in
theorem f_admitExpedited (l : Launch) (D : va_G) (dA : Nat → ClassId) (M : Mem) : CF l D dA k_Ses_admitExpedited 0 [.ref 55] M (some (.int (nI 1))) (mu M 55 7 ((M 55 7 + nI 1) &&& nI 7)) := by
  refine CF.of (by decide +kernel) (Nat.le_of_ble_eq_true rfl) (by intro v hv; simp only [List.mem_cons, List.not_mem_nil, or_false] at hv; rcases hv with rfl <;> rfl) ?_
  intro A ad0 p e s m args below meth c C hr
  refine J_aload_n C 0 d_Ses_admitExpedited_0 rfl rfl ?_
  refine J_aload_n C 0 d_Ses_admitExpedited_1 rfl rfl ?_
  refine J_get C f_Ses_38 (by decide) (e_55 _) rfl d_Ses_admitExpedited_2 ?_
  refine J_iconst C d_Ses_admitExpedited_5 (v := nI 1) rfl ?_
  refine J_iadd C d_Ses_admitExpedited_6 ?_
  refine J_bipush C d_Ses_admitExpedited_7 (v := nI 7) rfl ?_
  refine J_iand C d_Ses_admitExpedited_9 ?_
  refine K_putI C f_Ses_38 (by decide) (e_55 _) (Nat.le_of_ble_eq_true rfl) rfl d_Ses_admitExpedited_10 (kk := ?_)
  refine J_iconst C d_Ses_admitExpedited_13 (v := nI 1) rfl ?_
  exact F_zret C hr (Or.inr rfl) rfl rfl d_Ses_admitExpedited_14

def fApp (f : Nat → Int32) : Nat → Nat → Nat → Mem → Mem
  | 0, _, _, M => M
  | r + 1, k, n, M => fApp f r (k + 1) (n + 1) (mu (mu M 57 n (f (5 + k))) 56 3 (nI (n + 1)))
set_option maxHeartbeats 4000000 in
set_option maxRecDepth 100000 in
theorem f_appendData (l : Launch) (D : va_G) (dA : Nat → ClassId) (M : Mem) (L n fr : Nat) (hL : M 71 1 = nI L) (h5 : 5 ≤ L) (h64 : L ≤ 64) (hfr : fr ≤ L - 5) (hn : M 56 3 = nI n) (hn2 : n + (L - 5 - fr) ≤ 60) (f : Nat → Int32) (hf : M 72 = f) : CF l D dA k_Ses_appendData 1 [.ref 55, .ref 71, .int (nI fr)] M (none) (fApp f (L - 5 - fr) fr n M) := by
  refine CF.of (by decide +kernel) (Nat.le_of_ble_eq_true rfl) (by intro v hv; simp only [List.mem_cons, List.not_mem_nil, or_false] at hv; rcases hv with rfl | rfl | rfl <;> rfl) ?_
  intro A ad0 p e s m args below meth c C hr
  refine J_iload_n C 2 d_Ses_appendData_0 rfl rfl ?_
  refine J_istore_n C 3 d_Ses_appendData_1 rfl (by decide) rfl ?_
  generalize hM9 : fApp f (L - 5 - fr) fr n M = M9
  have lp : ∀ (fu : Nat) (k : Nat) (n : Nat) (M : Mem), L - 5 - k < fu → (k ≤ L - 5) → (n + (L - 5 - k) ≤ 60) → (M 56 3 = nI n) → (M 71 1 = nI L) → (M 72 = f) → (fApp f (L - 5 - k) k n M = M9) → J D dA A (fun _ _ => True) ad0 90 k_Ses_appendData.2.2.1 p l e (zR 1 0 0) s m args below meth c (FQ D dA A ad0 below args s (none) (M9)) 2 [some (.ref 55), some (.ref 71), some (.int (nI fr)), some (.int (nI k))] [] (E M) 90 0 0 := by
    intro fu
    induction fu with
    | zero => intro k n M hfu; exact absurd hfu (Nat.not_lt_zero _)
    | succ fu ih =>
      intro k n M hfu hk hnk hn hL hf hF
      refine J_iload_n C 3 d_Ses_appendData_2 rfl rfl ?_
      refine J_aload_n C 1 d_Ses_appendData_3 rfl rfl ?_
      refine P_callV C (as := []) (st := [.int (nI k)]) (p_dataLength l D dA M L hL h5) l_Ses_99 v_Frm_dataLength (by decide) (e_71 _) rfl (by decide) (by decide) (by decide) (Nat.le_of_ble_eq_true rfl) d_Ses_appendData_4 (kk := ?_)
      refine J_icmpN_ge C 28 d_Ses_appendData_7 (by decide) (by omega) (by omega) (fun hc7 => ?_) (fun hc7 => ?_)
      · exact F_ret C hr (by rw [show L - 5 - k = 0 by omega] at hF; exact hF) d_Ses_appendData_28
      · refine J_aload_n C 0 d_Ses_appendData_10 rfl rfl ?_
        refine J_get C f_Ses_12 (by decide) (e_55 _) rfl d_Ses_appendData_11 ?_
        refine J_aload_n C 1 d_Ses_appendData_14 rfl rfl ?_
        refine J_iload_n C 3 d_Ses_appendData_15 rfl rfl ?_
        refine P_callV C (as := [.int (nI k)]) (st := [.ref 56]) (p_data l D dA M L k hL h5 h64 (by omega)) l_Ses_102 v_Frm_data (by decide) (e_71 _) rfl (by decide) (by decide) (by decide) (Nat.le_of_ble_eq_true rfl) d_Ses_appendData_16 (kk := ?_)
        refine J_val (y := M 72 (5 + k)) (if_neg (by omega)) ?_
        refine F_callV C (as := [.int (M 72 (5 + k))]) (st := []) (f_append l D dA M n (M 72 (5 + k)) hn (by omega)) l_Ses_165 v_Har_append (by decide) (e_56 _) rfl (by decide) (by decide) (Nat.le_of_ble_eq_true rfl) d_Ses_appendData_19 (kk := ?_)
        refine J_iinc C d_Ses_appendData_22 rfl (v := nI (k + 1)) (nI_1 _) (by decide) rfl ?_
        refine J_goto C 2 d_Ses_appendData_25 (by decide) ?_
        exact ih (k + 1) (n + 1) _ (by omega) (by omega) (by omega) (by simp [mu, va_up, upd]) (by simp [mu, va_up]; exact hL) (by simp [mu, va_up]; exact hf) (by rw [show L - 5 - k = (L - 5 - (k + 1)) + 1 by omega] at hF; unfold fApp at hF; rw [hf]; exact hF)
  exact lp (L - 5 - fr + 1) fr n M (by omega) hfr (by omega) hn hL hf hM9

def fASq (M : Mem) (num rm : Int32) : Mem := if (num - M 55 5) &&& nI 255 ≤ nI 127 then (if (num - M 55 5) &&& nI 255 = 0 then (if rm = 0 then mu M 55 6 (nI 1) else mu (mu M 55 6 (nI 0)) 55 5 ((M 55 5 + nI 1) &&& nI 255)) else mu M 55 6 (nI 1)) else M
def rASq (M : Mem) (num rm : Int32) : Int32 := if (num - M 55 5) &&& nI 255 ≤ nI 127 then (if (num - M 55 5) &&& nI 255 = 0 then (if rm = 0 then 0 else 1) else 0) else 0
set_option maxHeartbeats 4000000 in
set_option maxRecDepth 100000 in
theorem f_admitSequenced (l : Launch) (D : va_G) (dA : Nat → ClassId) (M : Mem) (num rm : Int32) (c0 fr : Nat) (ln : Nat → Nat) (hc0 : M 56 4 = nI c0) (hc8 : c0 ≤ 8) (hl : ∀ i, i < c0 → M 59 i = nI (ln i)) (hl2 : ∀ i, i < c0 → ln i ≤ 60) (hfr : M 3 4 = nI fr) (hf2 : fr < 1000) (hrm : rm = if fr < fSumB ln c0 then 0 else 1) : CF l D dA k_Ses_admitSequenced 2 [.ref 55, .int num] M (some (.int (rASq M num rm))) (fASq M num rm) := by
  refine CF.of (by decide +kernel) (Nat.le_of_ble_eq_true rfl) (by intro v hv; simp only [List.mem_cons, List.not_mem_nil, or_false] at hv; rcases hv with rfl | rfl <;> rfl) ?_
  intro A ad0 p e s m args below meth c C hr
  refine J_iload_n C 1 d_Ses_admitSequenced_0 rfl rfl ?_
  refine J_aload_n C 0 d_Ses_admitSequenced_1 rfl rfl ?_
  refine J_get C f_Ses_32 (by decide) (e_55 _) rfl d_Ses_admitSequenced_2 ?_
  refine J_isub C d_Ses_admitSequenced_5 ?_
  refine J_sipush C d_Ses_admitSequenced_6 (v := nI 255) rfl ?_
  refine J_iand C d_Ses_admitSequenced_9 ?_
  refine J_istore_n C 2 d_Ses_admitSequenced_10 rfl (by decide) rfl ?_
  refine J_iload_n C 2 d_Ses_admitSequenced_11 rfl rfl ?_
  refine J_bipush C d_Ses_admitSequenced_12 (v := nI 127) rfl ?_
  refine J_icmp_le C 19 d_Ses_admitSequenced_14 (by decide) (fun hc14 => ?_) (fun hc14 => ?_)
  · refine J_iload_n C 2 d_Ses_admitSequenced_19 rfl rfl ?_
    refine J_if_ne C 44 d_Ses_admitSequenced_20 (by decide) (fun hc20 => ?_) (fun hc20 => ?_)
    · refine J_iconst C d_Ses_admitSequenced_44 (v := nI 0) rfl ?_
      refine J_istore_n C 3 d_Ses_admitSequenced_45 rfl (by decide) rfl ?_
      refine J_aload_n C 0 d_Ses_admitSequenced_46 rfl rfl ?_
      refine J_iload_n C 3 d_Ses_admitSequenced_47 rfl rfl ?_
      refine J_ifN_ne C 55 d_Ses_admitSequenced_48 (by decide) (by omega) (fun hc48 => absurd hc48 (by decide)) (fun hc48 => ?_)
      refine J_iconst C d_Ses_admitSequenced_51 (v := nI 1) rfl ?_
      refine J_goto C 56 d_Ses_admitSequenced_52 (by decide) ?_
      refine K_putZ C f_Ses_35 (by decide) (e_55 _) (Nat.le_of_ble_eq_true rfl) (Or.inr rfl) rfl d_Ses_admitSequenced_56 (kk := ?_)
      refine J_iload_n C 3 d_Ses_admitSequenced_59 rfl rfl ?_
      refine J_ifN_eq C 77 d_Ses_admitSequenced_60 (by decide) (by omega) (fun hc60 => ?_) (fun hc60 => absurd hc60 (by decide))
      refine J_iload_n C 3 d_Ses_admitSequenced_77 rfl rfl ?_
      exact F_zret C hr (Or.inl rfl) (by unfold rASq; (repeat' split) <;> first | contradiction | (exfalso; omega) | rfl) (by unfold fASq; (repeat' split) <;> first | contradiction | (exfalso; omega) | rfl) d_Ses_admitSequenced_78
    · refine J_aload_n C 0 d_Ses_admitSequenced_23 rfl rfl ?_
      refine J_get C f_Ses_48 (by decide) (e_55 _) rfl d_Ses_admitSequenced_24 ?_
      refine J_aload_n C 0 d_Ses_admitSequenced_27 rfl rfl ?_
      refine J_get C f_Ses_12 (by decide) (e_55 _) rfl d_Ses_admitSequenced_28 ?_
      refine P_callV C (as := []) (st := [.ref 3]) (p_blocksOfAll l D dA M c0 ln hc0 hc8 hl hl2) l_Ses_113 v_Har_blocksOfAll (by decide) (e_56 _) rfl (by decide) (by decide) (by decide) (Nat.le_of_ble_eq_true rfl) d_Ses_admitSequenced_31 (kk := ?_)
      refine P_callV C (as := [.int (nI (fSumB ln c0))]) (st := []) (p_hasRoom l D dA M (fSumB ln c0) fr hfr (by have := fSumB_le (ln := ln) c0 hl2; omega) hf2) l_Ses_116 v_Sto_hasRoom (by decide) (e_3 _) rfl (by decide) (by decide) (by decide) (Nat.le_of_ble_eq_true rfl) d_Ses_admitSequenced_34 (kk := ?_)
      refine J_val (y := rm) hrm.symm ?_
      refine J_if_eq C 44 d_Ses_admitSequenced_37 (by decide) (fun hc37 => ?_) (fun hc37 => ?_)
      · refine J_iconst C d_Ses_admitSequenced_44 (v := nI 0) rfl ?_
        refine J_istore_n C 3 d_Ses_admitSequenced_45 rfl (by decide) rfl ?_
        refine J_aload_n C 0 d_Ses_admitSequenced_46 rfl rfl ?_
        refine J_iload_n C 3 d_Ses_admitSequenced_47 rfl rfl ?_
        refine J_ifN_ne C 55 d_Ses_admitSequenced_48 (by decide) (by omega) (fun hc48 => absurd hc48 (by decide)) (fun hc48 => ?_)
        refine J_iconst C d_Ses_admitSequenced_51 (v := nI 1) rfl ?_
        refine J_goto C 56 d_Ses_admitSequenced_52 (by decide) ?_
        refine K_putZ C f_Ses_35 (by decide) (e_55 _) (Nat.le_of_ble_eq_true rfl) (Or.inr rfl) rfl d_Ses_admitSequenced_56 (kk := ?_)
        refine J_iload_n C 3 d_Ses_admitSequenced_59 rfl rfl ?_
        refine J_ifN_eq C 77 d_Ses_admitSequenced_60 (by decide) (by omega) (fun hc60 => ?_) (fun hc60 => absurd hc60 (by decide))
        refine J_iload_n C 3 d_Ses_admitSequenced_77 rfl rfl ?_
        exact F_zret C hr (Or.inl rfl) (by unfold rASq; (repeat' split) <;> first | contradiction | (exfalso; omega) | rfl) (by unfold fASq; (repeat' split) <;> first | contradiction | (exfalso; omega) | rfl) d_Ses_admitSequenced_78
      · refine J_iconst C d_Ses_admitSequenced_40 (v := nI 1) rfl ?_
        refine J_goto C 45 d_Ses_admitSequenced_41 (by decide) ?_
        refine J_istore_n C 3 d_Ses_admitSequenced_45 rfl (by decide) rfl ?_
        refine J_aload_n C 0 d_Ses_admitSequenced_46 rfl rfl ?_
        refine J_iload_n C 3 d_Ses_admitSequenced_47 rfl rfl ?_
        refine J_ifN_ne C 55 d_Ses_admitSequenced_48 (by decide) (by omega) (fun hc48 => ?_) (fun hc48 => absurd hc48 (by decide))
        refine J_iconst C d_Ses_admitSequenced_55 (v := nI 0) rfl ?_
        refine K_putZ C f_Ses_35 (by decide) (e_55 _) (Nat.le_of_ble_eq_true rfl) (Or.inl rfl) rfl d_Ses_admitSequenced_56 (kk := ?_)
        refine J_iload_n C 3 d_Ses_admitSequenced_59 rfl rfl ?_
        refine J_ifN_eq C 77 d_Ses_admitSequenced_60 (by decide) (by omega) (fun hc60 => absurd hc60 (by decide)) (fun hc60 => ?_)
        refine J_aload_n C 0 d_Ses_admitSequenced_63 rfl rfl ?_
        refine J_aload_n C 0 d_Ses_admitSequenced_64 rfl rfl ?_
        refine J_get C f_Ses_32 (by decide) (e_55 _) rfl d_Ses_admitSequenced_65 ?_
        refine J_val (y := M 55 5) rfl ?_
        refine J_iconst C d_Ses_admitSequenced_68 (v := nI 1) rfl ?_
        refine J_iadd C d_Ses_admitSequenced_69 ?_
        refine J_sipush C d_Ses_admitSequenced_70 (v := nI 255) rfl ?_
        refine J_iand C d_Ses_admitSequenced_73 ?_
        refine K_putI C f_Ses_32 (by decide) (e_55 _) (Nat.le_of_ble_eq_true rfl) rfl d_Ses_admitSequenced_74 (kk := ?_)
        refine J_iload_n C 3 d_Ses_admitSequenced_77 rfl rfl ?_
        exact F_zret C hr (Or.inr rfl) (by unfold rASq; (repeat' split) <;> first | contradiction | (exfalso; omega) | rfl) (by unfold fASq; (repeat' split) <;> first | contradiction | (exfalso; omega) | rfl) d_Ses_admitSequenced_78
  · refine J_iconst C d_Ses_admitSequenced_17 (v := nI 0) rfl ?_
    exact F_zret C hr (Or.inl rfl) (by unfold rASq; (repeat' split) <;> first | contradiction | (exfalso; omega) | rfl) (by unfold fASq; (repeat' split) <;> first | contradiction | (exfalso; omega) | rfl) d_Ses_admitSequenced_18

def fSet (M : Mem) (j n : Nat) : Mem := if M 55 9 = 0 then fFg M j else ma (mu (mu M (61 + 2 * j) 2 (nI 1)) (61 + 2 * j) 1 (nI n)) (62 + 2 * j) (va_cpy (M 57) (M (62 + 2 * j)) 0 0 n)
set_option maxHeartbeats 4000000 in
set_option maxRecDepth 100000 in
theorem f_settle (l : Launch) (D : va_G) (dA : Nat → ClassId) (M : Mem) (j n : Nat) (hj : j < 4) (ht : M 55 8 = nI (j + 1)) (hn : M 56 3 = nI n) (hn2 : n ≤ 60) : CF l D dA k_Ses_settleStream 1 [.ref 55] M (none) (fSet M j n) := by
  refine CF.of (by decide +kernel) (Nat.le_of_ble_eq_true rfl) (by intro v hv; simp only [List.mem_cons, List.not_mem_nil, or_false] at hv; rcases hv with rfl <;> rfl) ?_
  intro A ad0 p e s m args below meth c C hr
  refine J_aload_n C 0 d_Ses_settleStream_0 rfl rfl ?_
  refine J_get C f_Ses_41 (by decide) (e_55 _) rfl d_Ses_settleStream_1 ?_
  refine J_vref (show zT (M 55 8) = .ref (61 + 2 * j) by rw [ht]; exact zT_s hj) ?_
  refine J_ifnonnull C 8 d_Ses_settleStream_4 (by decide) ?_
  refine J_aload_n C 0 d_Ses_settleStream_8 rfl rfl ?_
  refine J_get C f_Ses_45 (by decide) (e_55 _) rfl d_Ses_settleStream_9 ?_
  refine J_if_eq C 29 d_Ses_settleStream_12 (by decide) (fun hc12 => ?_) (fun hc12 => ?_)
  · refine J_aload_n C 0 d_Ses_settleStream_29 rfl rfl ?_
    refine J_get C f_Ses_41 (by decide) (e_55 _) rfl d_Ses_settleStream_30 ?_
    refine J_vref (show zT (M 55 8) = .ref (61 + 2 * j) by rw [ht]; exact zT_s hj) ?_
    refine F_callV C (as := []) (st := []) (f_forget l D dA M j (by omega)) l_Ses_110 v_Str_forget (by omega) (e_st _ (by omega)) rfl (by decide) (by decide) (Nat.le_of_ble_eq_true rfl) d_Ses_settleStream_33 (kk := ?_)
    exact F_ret C hr (by unfold fSet; (repeat' split) <;> first | contradiction | (exfalso; omega) | rfl) d_Ses_settleStream_36
  · refine J_aload_n C 0 d_Ses_settleStream_15 rfl rfl ?_
    refine J_get C f_Ses_41 (by decide) (e_55 _) rfl d_Ses_settleStream_16 ?_
    refine J_vref (show zT (M 55 8) = .ref (61 + 2 * j) by rw [ht]; exact zT_s hj) ?_
    refine J_aload_n C 0 d_Ses_settleStream_19 rfl rfl ?_
    refine J_get C f_Ses_12 (by decide) (e_55 _) rfl d_Ses_settleStream_20 ?_
    refine F_callV C (as := [.ref 56]) (st := []) (f_hold l D dA M j n hj hn hn2) l_Ses_171 v_Str_hold (by omega) (e_st _ (by omega)) rfl (by decide) (by decide) (Nat.le_of_ble_eq_true rfl) d_Ses_settleStream_23 (kk := ?_)
    refine J_goto C 36 d_Ses_settleStream_26 (by decide) ?_
    exact F_ret C hr (by unfold fSet; (repeat' split) <;> first | contradiction | (exfalso; omega) | rfl) d_Ses_settleStream_36

set_option maxHeartbeats 4000000 in
set_option maxRecDepth 100000 in
theorem f_settle0 (l : Launch) (D : va_G) (dA : Nat → ClassId) (M : Mem) (ht : M 55 8 = nI 0) : CF l D dA k_Ses_settleStream 1 [.ref 55] M (none) (M) := by
  refine CF.of (by decide +kernel) (Nat.le_of_ble_eq_true rfl) (by intro v hv; simp only [List.mem_cons, List.not_mem_nil, or_false] at hv; rcases hv with rfl <;> rfl) ?_
  intro A ad0 p e s m args below meth c C hr
  refine J_aload_n C 0 d_Ses_settleStream_0 rfl rfl ?_
  refine J_get C f_Ses_41 (by decide) (e_55 _) rfl d_Ses_settleStream_1 ?_
  refine J_vref (show zT (M 55 8) = .null by rw [ht]; rfl) ?_
  refine J_ifnonnullN C d_Ses_settleStream_4 ?_
  exact F_ret C hr rfl d_Ses_settleStream_7
end
section
theorem sw_out {x : Int32} (lo hi : Nat) (hb : hi < 2 ^ 31) (h : ∀ k, lo ≤ k → k ≤ hi → ¬ x = nI k) : x.toInt < ((lo : Nat) : Int) ∨ ((hi : Nat) : Int) < x.toInt := by
  rcases Int.lt_or_le x.toInt lo with h1 | h1
  · exact Or.inl h1
  · rcases Int.lt_or_le hi x.toInt with h2 | h2
    · exact Or.inr h2
    · exfalso
      refine h x.toInt.toNat (by omega) (by omega) ?_
      apply Int32.toInt_inj.mp
      rw [nI_toInt (by omega)]
      omega
set_option maxHeartbeats 4000000 in
set_option maxRecDepth 100000 in
theorem f_rangeCheck (l : Launch) (D : va_G) (dA : Nat → ClassId) (M : Mem) (a b d0 : Nat) (h1 : b ≤ d0) (h2 : d0 ≤ a) (ha : a < 1000) : CF l D dA k_Arr_rangeCheck 0 [.int (nI a), .int (nI b), .int (nI d0)] M (none) (M) := by
  refine CF.of (by decide +kernel) (Nat.le_of_ble_eq_true rfl) (by intro v hv; simp only [List.mem_cons, List.not_mem_nil, or_false] at hv; rcases hv with rfl | rfl | rfl <;> rfl) ?_
  intro A ad0 p e s m args below meth c C hr
  refine J_iload_n C 1 d_Arr_rangeCheck_0 rfl rfl ?_
  refine J_iload_n C 2 d_Arr_rangeCheck_1 rfl rfl ?_
  refine J_icmpN_le C 46 d_Arr_rangeCheck_2 (by decide) (by omega) (by omega) (fun hc2 => ?_) (fun hc2 => absurd hc2 (by omega))
  refine J_iload_n C 1 d_Arr_rangeCheck_46 rfl rfl ?_
  refine J_ifN_ge C d_Arr_rangeCheck_47 59 (by decide) (by omega) ?_
  refine J_iload_n C 2 d_Arr_rangeCheck_59 rfl rfl ?_
  refine J_iload_n C 0 d_Arr_rangeCheck_60 rfl rfl ?_
  refine J_icmpN_le C 73 d_Arr_rangeCheck_61 (by decide) (by omega) (by omega) (fun hc61 => ?_) (fun hc61 => absurd hc61 (by omega))
  exact F_ret C hr rfl d_Arr_rangeCheck_73

def fFil (v : Int32) : Nat → Nat → Mem → Mem
  | 0, _, M => M
  | r + 1, i, M => fFil v r (i + 1) (mu M 74 i v)
set_option maxHeartbeats 4000000 in
set_option maxRecDepth 100000 in
theorem f_fill (l : Launch) (D : va_G) (dA : Nat → ClassId) (M : Mem) : CF l D dA k_Arr_fill 1 [.ref 74, .int (nI 8), .int (nI 30), .int (nI 85)] M (none) (fFil (nI 85) 22 8 M) := by
  refine CF.of (by decide +kernel) (Nat.le_of_ble_eq_true rfl) (by intro v hv; simp only [List.mem_cons, List.not_mem_nil, or_false] at hv; rcases hv with rfl | rfl | rfl | rfl <;> rfl) ?_
  intro A ad0 p e s m args below meth c C hr
  refine J_aload_n C 0 d_Arr_fill_0 rfl rfl ?_
  refine K_alen C a_74 d_Arr_fill_1 ?_
  refine J_iload_n C 1 d_Arr_fill_2 rfl rfl ?_
  refine J_iload_n C 2 d_Arr_fill_3 rfl rfl ?_
  refine F_callS C (as := [.int (nI 32), .int (nI 8), .int (nI 30)]) (st := []) (f_rangeCheck l D dA M 32 8 30 (by omega) (by omega) (by omega)) l_Arr_13 s_Arr_rangeCheck rfl (by decide) (by decide) (Nat.le_of_ble_eq_true rfl) d_Arr_fill_4 (kk := ?_)
  refine J_iload_n C 1 d_Arr_fill_7 rfl rfl ?_
  refine J_istore C d_Arr_fill_8 (by decide) rfl ?_
  generalize hM9 : fFil (nI 85) 22 8 M = M9
  have lp : ∀ (fu : Nat) (i : Nat) (M : Mem), 30 - i < fu → (i ≤ 30) → (fFil (nI 85) (30 - i) i M = M9) → J D dA A (fun _ _ => True) ad0 90 k_Arr_fill.2.2.1 p l e (zR 1 0 0) s m args below meth c (FQ D dA A ad0 below args s (none) (M9)) 10 [some (.ref 74), some (.int (nI 8)), some (.int (nI 30)), some (.int (nI 85)), some (.int (nI i))] [] (E M) 90 0 0 := by
    intro fu
    induction fu with
    | zero => intro i M hfu; exact absurd hfu (Nat.not_lt_zero _)
    | succ fu ih =>
      intro i M hfu hi hF
      refine J_iload C d_Arr_fill_10 rfl ?_
      refine J_iload_n C 2 d_Arr_fill_12 rfl rfl ?_
      refine J_icmpN_ge C 27 d_Arr_fill_13 (by decide) (by omega) (by omega) (fun hc13 => ?_) (fun hc13 => ?_)
      · exact F_ret C hr (by rw [show 30 - i = 0 by omega] at hF; exact hF) d_Arr_fill_27
      · refine J_aload_n C 0 d_Arr_fill_16 rfl rfl ?_
        refine J_iload C d_Arr_fill_17 rfl ?_
        refine J_iload_n C 3 d_Arr_fill_19 rfl rfl ?_
        refine K_ias C a_74 (j := i) rfl (by omega) d_Arr_fill_20 (kk := ?_)
        refine J_iinc C d_Arr_fill_21 rfl (v := nI (i + 1)) (nI_1 _) (by decide) rfl ?_
        refine J_goto C 10 d_Arr_fill_24 (by decide) ?_
        exact ih (i + 1) _ (by omega) (by omega) (by rw [show 30 - i = (30 - (i + 1)) + 1 by omega] at hF; exact hF)
  exact lp 23 8 M (by omega) (by omega) hM9

set_option maxHeartbeats 4000000 in
set_option maxRecDepth 100000 in
theorem p_hasByte (l : Launch) (D : va_G) (dA : Nat → ClassId) (M : Mem) (i : Int32) : PT l D dA k_Ear_hasByte 0 90 [.ref 73, .int i] (E M) (.int (if M 73 2 = 0 then 0 else if i < 0 then 0 else if nI 32 ≤ i then 0 else 1)) := by
  refine PT.of (by decide +kernel) (Nat.le_of_ble_eq_true rfl) (by intro v hv; simp only [List.mem_cons, List.not_mem_nil, or_false] at hv; rcases hv with rfl | rfl <;> rfl) ?_
  intro A ad0 p e s m args below meth c C hr
  refine J_aload_n C 0 d_Ear_hasByte_0 rfl rfl ?_
  refine J_get C f_Ear_18 (by decide) (e_73 _) rfl d_Ear_hasByte_1 ?_
  refine J_if_eq C 21 d_Ear_hasByte_4 (by decide) (fun hc4 => ?_) (fun hc4 => ?_)
  · refine J_iconst C d_Ear_hasByte_21 (v := nI 0) rfl ?_
    exact P_zretE C hr (Or.inl rfl) (by simp only [hc4, if_true, if_false]; try rfl) d_Ear_hasByte_22
  · refine J_iload_n C 1 d_Ear_hasByte_7 rfl rfl ?_
    refine J_if_lt C 21 d_Ear_hasByte_8 (by decide) (fun hc8 => ?_) (fun hc8 => ?_)
    · refine J_iconst C d_Ear_hasByte_21 (v := nI 0) rfl ?_
      exact P_zretE C hr (Or.inl rfl) (by simp only [hc4, hc8, if_true, if_false]; try rfl) d_Ear_hasByte_22
    · refine J_iload_n C 1 d_Ear_hasByte_11 rfl rfl ?_
      refine J_bipush C d_Ear_hasByte_12 (v := nI 32) rfl ?_
      refine J_icmp_ge C 21 d_Ear_hasByte_14 (by decide) (fun hc14 => ?_) (fun hc14 => ?_)
      · refine J_iconst C d_Ear_hasByte_21 (v := nI 0) rfl ?_
        exact P_zretE C hr (Or.inl rfl) (by simp only [hc4, hc8, hc14, if_true, if_false]; try rfl) d_Ear_hasByte_22
      · refine J_iconst C d_Ear_hasByte_17 (v := nI 1) rfl ?_
        refine J_goto C 22 d_Ear_hasByte_18 (by decide) ?_
        exact P_zretE C hr (Or.inr rfl) (by simp only [hc4, hc8, hc14, if_true, if_false]; try rfl) d_Ear_hasByte_22

def fPN (M : Mem) (at0 : Nat) (x : Int32) : Nat → Mem
  | 0 => M
  | 1 => mu M 74 (at0 + 0) (ush x (nI 0) &&& nI 255)
  | 2 => mu (mu M 74 (at0 + 0) (ush x (nI 8) &&& nI 255)) 74 (at0 + 1) (ush x (nI 0) &&& nI 255)
  | _ => mu (mu (mu M 74 (at0 + 0) (ush x (nI 16) &&& nI 255)) 74 (at0 + 1) (ush x (nI 8) &&& nI 255)) 74 (at0 + 2) (ush x (nI 0) &&& nI 255)
set_option maxHeartbeats 4000000 in
set_option maxRecDepth 100000 in
theorem f_putNumber1 (l : Launch) (D : va_G) (dA : Nat → ClassId) (M : Mem) (x : Int32) (at0 : Nat) (ha : at0 + 1 ≤ 32) : CF l D dA k_Ear_putNumber 0 [.ref 73, .int x, .int (nI at0), .int (nI 1)] M (none) (fPN M at0 x 1) := by
  refine CF.of (by decide +kernel) (Nat.le_of_ble_eq_true rfl) (by intro v hv; simp only [List.mem_cons, List.not_mem_nil, or_false] at hv; rcases hv with rfl | rfl | rfl | rfl <;> rfl) ?_
  intro A ad0 p e s m args below meth c C hr
  refine J_iconst C d_Ear_putNumber_0 (v := nI 0) rfl ?_
  refine J_istore C d_Ear_putNumber_1 (by decide) rfl ?_
  refine J_iload C d_Ear_putNumber_3 rfl ?_
  refine J_iload_n C 3 d_Ear_putNumber_5 rfl rfl ?_
  refine J_icmpN_ge C 39 d_Ear_putNumber_6 (by decide) (by omega) (by omega) (fun hc6 => absurd hc6 (by decide)) (fun hc6 => ?_)
  refine J_aload_n C 0 d_Ear_putNumber_9 rfl rfl ?_
  refine J_get C f_Ear_11 (by decide) (e_73 _) rfl d_Ear_putNumber_10 ?_
  refine J_iload_n C 2 d_Ear_putNumber_13 rfl rfl ?_
  refine J_iload C d_Ear_putNumber_14 rfl ?_
  refine J_iaddN C d_Ear_putNumber_16 ?_
  refine J_iload_n C 1 d_Ear_putNumber_17 rfl rfl ?_
  refine J_bipush C d_Ear_putNumber_18 (v := nI 8) rfl ?_
  refine J_iload_n C 3 d_Ear_putNumber_20 rfl rfl ?_
  refine J_iconst C d_Ear_putNumber_21 (v := nI 1) rfl ?_
  refine J_isubN C d_Ear_putNumber_22 (by omega) ?_
  refine J_val (y := nI 0) rfl ?_
  refine J_iload C d_Ear_putNumber_23 rfl ?_
  refine J_isubN C d_Ear_putNumber_25 (by omega) ?_
  refine J_val (y := nI 0) rfl ?_
  refine J_imulN C d_Ear_putNumber_26 ?_
  refine J_val (y := nI 0) rfl ?_
  refine J_iushr C d_Ear_putNumber_27 rfl ?_
  refine J_sipush C d_Ear_putNumber_28 (v := nI 255) rfl ?_
  refine J_iand C d_Ear_putNumber_31 ?_
  refine K_ias C a_74 (j := at0 + 0) rfl (by omega) d_Ear_putNumber_32 (kk := ?_)
  refine J_iinc C d_Ear_putNumber_33 rfl (v := nI 1) rfl (by decide) rfl ?_
  refine J_goto C 3 d_Ear_putNumber_36 (by decide) ?_
  refine J_iload C d_Ear_putNumber_3 rfl ?_
  refine J_iload_n C 3 d_Ear_putNumber_5 rfl rfl ?_
  refine J_icmpN_ge C 39 d_Ear_putNumber_6 (by decide) (by omega) (by omega) (fun hc6 => ?_) (fun hc6 => absurd hc6 (by decide))
  exact F_ret C hr rfl d_Ear_putNumber_39

set_option maxHeartbeats 4000000 in
set_option maxRecDepth 100000 in
theorem f_putNumber2 (l : Launch) (D : va_G) (dA : Nat → ClassId) (M : Mem) (x : Int32) (at0 : Nat) (ha : at0 + 2 ≤ 32) : CF l D dA k_Ear_putNumber 0 [.ref 73, .int x, .int (nI at0), .int (nI 2)] M (none) (fPN M at0 x 2) := by
  refine CF.of (by decide +kernel) (Nat.le_of_ble_eq_true rfl) (by intro v hv; simp only [List.mem_cons, List.not_mem_nil, or_false] at hv; rcases hv with rfl | rfl | rfl | rfl <;> rfl) ?_
  intro A ad0 p e s m args below meth c C hr
  refine J_iconst C d_Ear_putNumber_0 (v := nI 0) rfl ?_
  refine J_istore C d_Ear_putNumber_1 (by decide) rfl ?_
  refine J_iload C d_Ear_putNumber_3 rfl ?_
  refine J_iload_n C 3 d_Ear_putNumber_5 rfl rfl ?_
  refine J_icmpN_ge C 39 d_Ear_putNumber_6 (by decide) (by omega) (by omega) (fun hc6 => absurd hc6 (by decide)) (fun hc6 => ?_)
  refine J_aload_n C 0 d_Ear_putNumber_9 rfl rfl ?_
  refine J_get C f_Ear_11 (by decide) (e_73 _) rfl d_Ear_putNumber_10 ?_
  refine J_iload_n C 2 d_Ear_putNumber_13 rfl rfl ?_
  refine J_iload C d_Ear_putNumber_14 rfl ?_
  refine J_iaddN C d_Ear_putNumber_16 ?_
  refine J_iload_n C 1 d_Ear_putNumber_17 rfl rfl ?_
  refine J_bipush C d_Ear_putNumber_18 (v := nI 8) rfl ?_
  refine J_iload_n C 3 d_Ear_putNumber_20 rfl rfl ?_
  refine J_iconst C d_Ear_putNumber_21 (v := nI 1) rfl ?_
  refine J_isubN C d_Ear_putNumber_22 (by omega) ?_
  refine J_val (y := nI 1) rfl ?_
  refine J_iload C d_Ear_putNumber_23 rfl ?_
  refine J_isubN C d_Ear_putNumber_25 (by omega) ?_
  refine J_val (y := nI 1) rfl ?_
  refine J_imulN C d_Ear_putNumber_26 ?_
  refine J_val (y := nI 8) rfl ?_
  refine J_iushr C d_Ear_putNumber_27 rfl ?_
  refine J_sipush C d_Ear_putNumber_28 (v := nI 255) rfl ?_
  refine J_iand C d_Ear_putNumber_31 ?_
  refine K_ias C a_74 (j := at0 + 0) rfl (by omega) d_Ear_putNumber_32 (kk := ?_)
  refine J_iinc C d_Ear_putNumber_33 rfl (v := nI 1) rfl (by decide) rfl ?_
  refine J_goto C 3 d_Ear_putNumber_36 (by decide) ?_
  refine J_iload C d_Ear_putNumber_3 rfl ?_
  refine J_iload_n C 3 d_Ear_putNumber_5 rfl rfl ?_
  refine J_icmpN_ge C 39 d_Ear_putNumber_6 (by decide) (by omega) (by omega) (fun hc6 => absurd hc6 (by decide)) (fun hc6 => ?_)
  refine J_aload_n C 0 d_Ear_putNumber_9 rfl rfl ?_
  refine J_get C f_Ear_11 (by decide) (e_73 _) rfl d_Ear_putNumber_10 ?_
  refine J_iload_n C 2 d_Ear_putNumber_13 rfl rfl ?_
  refine J_iload C d_Ear_putNumber_14 rfl ?_
  refine J_iaddN C d_Ear_putNumber_16 ?_
  refine J_iload_n C 1 d_Ear_putNumber_17 rfl rfl ?_
  refine J_bipush C d_Ear_putNumber_18 (v := nI 8) rfl ?_
  refine J_iload_n C 3 d_Ear_putNumber_20 rfl rfl ?_
  refine J_iconst C d_Ear_putNumber_21 (v := nI 1) rfl ?_
  refine J_isubN C d_Ear_putNumber_22 (by omega) ?_
  refine J_val (y := nI 1) rfl ?_
  refine J_iload C d_Ear_putNumber_23 rfl ?_
  refine J_isubN C d_Ear_putNumber_25 (by omega) ?_
  refine J_val (y := nI 0) rfl ?_
  refine J_imulN C d_Ear_putNumber_26 ?_
  refine J_val (y := nI 0) rfl ?_
  refine J_iushr C d_Ear_putNumber_27 rfl ?_
  refine J_sipush C d_Ear_putNumber_28 (v := nI 255) rfl ?_
  refine J_iand C d_Ear_putNumber_31 ?_
  refine K_ias C a_74 (j := at0 + 1) rfl (by omega) d_Ear_putNumber_32 (kk := ?_)
  refine J_iinc C d_Ear_putNumber_33 rfl (v := nI 2) rfl (by decide) rfl ?_
  refine J_goto C 3 d_Ear_putNumber_36 (by decide) ?_
  refine J_iload C d_Ear_putNumber_3 rfl ?_
  refine J_iload_n C 3 d_Ear_putNumber_5 rfl rfl ?_
  refine J_icmpN_ge C 39 d_Ear_putNumber_6 (by decide) (by omega) (by omega) (fun hc6 => ?_) (fun hc6 => absurd hc6 (by decide))
  exact F_ret C hr rfl d_Ear_putNumber_39

set_option maxHeartbeats 4000000 in
set_option maxRecDepth 100000 in
theorem f_putNumber3 (l : Launch) (D : va_G) (dA : Nat → ClassId) (M : Mem) (x : Int32) (at0 : Nat) (ha : at0 + 3 ≤ 32) : CF l D dA k_Ear_putNumber 0 [.ref 73, .int x, .int (nI at0), .int (nI 3)] M (none) (fPN M at0 x 3) := by
  refine CF.of (by decide +kernel) (Nat.le_of_ble_eq_true rfl) (by intro v hv; simp only [List.mem_cons, List.not_mem_nil, or_false] at hv; rcases hv with rfl | rfl | rfl | rfl <;> rfl) ?_
  intro A ad0 p e s m args below meth c C hr
  refine J_iconst C d_Ear_putNumber_0 (v := nI 0) rfl ?_
  refine J_istore C d_Ear_putNumber_1 (by decide) rfl ?_
  refine J_iload C d_Ear_putNumber_3 rfl ?_
  refine J_iload_n C 3 d_Ear_putNumber_5 rfl rfl ?_
  refine J_icmpN_ge C 39 d_Ear_putNumber_6 (by decide) (by omega) (by omega) (fun hc6 => absurd hc6 (by decide)) (fun hc6 => ?_)
  refine J_aload_n C 0 d_Ear_putNumber_9 rfl rfl ?_
  refine J_get C f_Ear_11 (by decide) (e_73 _) rfl d_Ear_putNumber_10 ?_
  refine J_iload_n C 2 d_Ear_putNumber_13 rfl rfl ?_
  refine J_iload C d_Ear_putNumber_14 rfl ?_
  refine J_iaddN C d_Ear_putNumber_16 ?_
  refine J_iload_n C 1 d_Ear_putNumber_17 rfl rfl ?_
  refine J_bipush C d_Ear_putNumber_18 (v := nI 8) rfl ?_
  refine J_iload_n C 3 d_Ear_putNumber_20 rfl rfl ?_
  refine J_iconst C d_Ear_putNumber_21 (v := nI 1) rfl ?_
  refine J_isubN C d_Ear_putNumber_22 (by omega) ?_
  refine J_val (y := nI 2) rfl ?_
  refine J_iload C d_Ear_putNumber_23 rfl ?_
  refine J_isubN C d_Ear_putNumber_25 (by omega) ?_
  refine J_val (y := nI 2) rfl ?_
  refine J_imulN C d_Ear_putNumber_26 ?_
  refine J_val (y := nI 16) rfl ?_
  refine J_iushr C d_Ear_putNumber_27 rfl ?_
  refine J_sipush C d_Ear_putNumber_28 (v := nI 255) rfl ?_
  refine J_iand C d_Ear_putNumber_31 ?_
  refine K_ias C a_74 (j := at0 + 0) rfl (by omega) d_Ear_putNumber_32 (kk := ?_)
  refine J_iinc C d_Ear_putNumber_33 rfl (v := nI 1) rfl (by decide) rfl ?_
  refine J_goto C 3 d_Ear_putNumber_36 (by decide) ?_
  refine J_iload C d_Ear_putNumber_3 rfl ?_
  refine J_iload_n C 3 d_Ear_putNumber_5 rfl rfl ?_
  refine J_icmpN_ge C 39 d_Ear_putNumber_6 (by decide) (by omega) (by omega) (fun hc6 => absurd hc6 (by decide)) (fun hc6 => ?_)
  refine J_aload_n C 0 d_Ear_putNumber_9 rfl rfl ?_
  refine J_get C f_Ear_11 (by decide) (e_73 _) rfl d_Ear_putNumber_10 ?_
  refine J_iload_n C 2 d_Ear_putNumber_13 rfl rfl ?_
  refine J_iload C d_Ear_putNumber_14 rfl ?_
  refine J_iaddN C d_Ear_putNumber_16 ?_
  refine J_iload_n C 1 d_Ear_putNumber_17 rfl rfl ?_
  refine J_bipush C d_Ear_putNumber_18 (v := nI 8) rfl ?_
  refine J_iload_n C 3 d_Ear_putNumber_20 rfl rfl ?_
  refine J_iconst C d_Ear_putNumber_21 (v := nI 1) rfl ?_
  refine J_isubN C d_Ear_putNumber_22 (by omega) ?_
  refine J_val (y := nI 2) rfl ?_
  refine J_iload C d_Ear_putNumber_23 rfl ?_
  refine J_isubN C d_Ear_putNumber_25 (by omega) ?_
  refine J_val (y := nI 1) rfl ?_
  refine J_imulN C d_Ear_putNumber_26 ?_
  refine J_val (y := nI 8) rfl ?_
  refine J_iushr C d_Ear_putNumber_27 rfl ?_
  refine J_sipush C d_Ear_putNumber_28 (v := nI 255) rfl ?_
  refine J_iand C d_Ear_putNumber_31 ?_
  refine K_ias C a_74 (j := at0 + 1) rfl (by omega) d_Ear_putNumber_32 (kk := ?_)
  refine J_iinc C d_Ear_putNumber_33 rfl (v := nI 2) rfl (by decide) rfl ?_
  refine J_goto C 3 d_Ear_putNumber_36 (by decide) ?_
  refine J_iload C d_Ear_putNumber_3 rfl ?_
  refine J_iload_n C 3 d_Ear_putNumber_5 rfl rfl ?_
  refine J_icmpN_ge C 39 d_Ear_putNumber_6 (by decide) (by omega) (by omega) (fun hc6 => absurd hc6 (by decide)) (fun hc6 => ?_)
  refine J_aload_n C 0 d_Ear_putNumber_9 rfl rfl ?_
  refine J_get C f_Ear_11 (by decide) (e_73 _) rfl d_Ear_putNumber_10 ?_
  refine J_iload_n C 2 d_Ear_putNumber_13 rfl rfl ?_
  refine J_iload C d_Ear_putNumber_14 rfl ?_
  refine J_iaddN C d_Ear_putNumber_16 ?_
  refine J_iload_n C 1 d_Ear_putNumber_17 rfl rfl ?_
  refine J_bipush C d_Ear_putNumber_18 (v := nI 8) rfl ?_
  refine J_iload_n C 3 d_Ear_putNumber_20 rfl rfl ?_
  refine J_iconst C d_Ear_putNumber_21 (v := nI 1) rfl ?_
  refine J_isubN C d_Ear_putNumber_22 (by omega) ?_
  refine J_val (y := nI 2) rfl ?_
  refine J_iload C d_Ear_putNumber_23 rfl ?_
  refine J_isubN C d_Ear_putNumber_25 (by omega) ?_
  refine J_val (y := nI 0) rfl ?_
  refine J_imulN C d_Ear_putNumber_26 ?_
  refine J_val (y := nI 0) rfl ?_
  refine J_iushr C d_Ear_putNumber_27 rfl ?_
  refine J_sipush C d_Ear_putNumber_28 (v := nI 255) rfl ?_
  refine J_iand C d_Ear_putNumber_31 ?_
  refine K_ias C a_74 (j := at0 + 2) rfl (by omega) d_Ear_putNumber_32 (kk := ?_)
  refine J_iinc C d_Ear_putNumber_33 rfl (v := nI 3) rfl (by decide) rfl ?_
  refine J_goto C 3 d_Ear_putNumber_36 (by decide) ?_
  refine J_iload C d_Ear_putNumber_3 rfl ?_
  refine J_iload_n C 3 d_Ear_putNumber_5 rfl rfl ?_
  refine J_icmpN_ge C 39 d_Ear_putNumber_6 (by decide) (by omega) (by omega) (fun hc6 => ?_) (fun hc6 => absurd hc6 (by decide))
  exact F_ret C hr rfl d_Ear_putNumber_39

def PtW (pt pl em : Nat) : Nat := if em = 0 then (if pt = 2046 then pl else if pt = 2047 then pl else pt) else (if pt = 2046 then 2047 else if pt = 2047 then 2047 else pt)
theorem PtW_lt {pt pl em : Nat} (h1 : pt < 2048) (h2 : pl < 2048) : PtW pt pl em < 2048 := by unfold PtW; (repeat' split) <;> omega
set_option maxHeartbeats 4000000 in
set_option maxRecDepth 100000 in
theorem p_pointerWith (l : Launch) (D : va_G) (dA : Nat → ClassId) (M : Mem) (j pl pt em : Nat) (hj : j < 24) (he : M (7 + 2 * j) 4 = nI em) (he2 : em < 1000) (hpl : pl < 2048) (hpt : pt < 2048) : PT l D dA k_Ear_pointerWith 0 90 [.ref (7 + 2 * j), .int (nI pl), .int (nI pt)] (E M) (.int (nI (PtW pt pl em))) := by
  refine PT.of (by decide +kernel) (Nat.le_of_ble_eq_true rfl) (by intro v hv; simp only [List.mem_cons, List.not_mem_nil, or_false] at hv; rcases hv with rfl | rfl | rfl <;> rfl) ?_
  intro A ad0 p e s m args below meth c C hr
  refine J_iload_n C 2 d_Ear_pointerWith_0 rfl rfl ?_
  refine J_sipush C d_Ear_pointerWith_1 (v := nI 2046) rfl ?_
  refine J_icmpN_eq C 14 d_Ear_pointerWith_4 (by decide) (by omega) (by omega) (fun hc4 => ?_) (fun hc4 => ?_)
  · refine J_iconst C d_Ear_pointerWith_14 (v := nI 1) rfl ?_
    refine J_goto C 19 d_Ear_pointerWith_15 (by decide) ?_
    refine J_istore_n C 3 d_Ear_pointerWith_19 rfl (by decide) rfl ?_
    refine J_aload_n C 0 d_Ear_pointerWith_20 rfl rfl ?_
    refine J_get C f_Ear_67 (by omega) (e_pk _ (by omega)) rfl d_Ear_pointerWith_21 ?_
    refine J_val (y := nI em) he ?_
    refine J_ifN_ne C 37 d_Ear_pointerWith_24 (by decide) (by omega) (fun hc24 => ?_) (fun hc24 => ?_)
    · refine J_iload_n C 3 d_Ear_pointerWith_37 rfl rfl ?_
      refine J_ifN_eq C 47 d_Ear_pointerWith_38 (by decide) (by omega) (fun hc38 => absurd hc38 (by decide)) (fun hc38 => ?_)
      refine J_sipush C d_Ear_pointerWith_41 (v := nI 2047) rfl ?_
      refine J_goto C 48 d_Ear_pointerWith_44 (by decide) ?_
      exact P_iretE C hr (by unfold PtW; (repeat' split) <;> first | contradiction | (exfalso; omega) | rfl) d_Ear_pointerWith_48
    · refine J_iload_n C 3 d_Ear_pointerWith_27 rfl rfl ?_
      refine J_ifN_eq C 35 d_Ear_pointerWith_28 (by decide) (by omega) (fun hc28 => absurd hc28 (by decide)) (fun hc28 => ?_)
      refine J_iload_n C 1 d_Ear_pointerWith_31 rfl rfl ?_
      refine J_goto C 36 d_Ear_pointerWith_32 (by decide) ?_
      exact P_iretE C hr (by unfold PtW; (repeat' split) <;> first | contradiction | (exfalso; omega) | rfl) d_Ear_pointerWith_36
  · refine J_iload_n C 2 d_Ear_pointerWith_7 rfl rfl ?_
    refine J_sipush C d_Ear_pointerWith_8 (v := nI 2047) rfl ?_
    refine J_icmpN_ne C 18 d_Ear_pointerWith_11 (by decide) (by omega) (by omega) (fun hc11 => ?_) (fun hc11 => ?_)
    · refine J_iconst C d_Ear_pointerWith_18 (v := nI 0) rfl ?_
      refine J_istore_n C 3 d_Ear_pointerWith_19 rfl (by decide) rfl ?_
      refine J_aload_n C 0 d_Ear_pointerWith_20 rfl rfl ?_
      refine J_get C f_Ear_67 (by omega) (e_pk _ (by omega)) rfl d_Ear_pointerWith_21 ?_
      refine J_val (y := nI em) he ?_
      refine J_ifN_ne C 37 d_Ear_pointerWith_24 (by decide) (by omega) (fun hc24 => ?_) (fun hc24 => ?_)
      · refine J_iload_n C 3 d_Ear_pointerWith_37 rfl rfl ?_
        refine J_ifN_eq C 47 d_Ear_pointerWith_38 (by decide) (by omega) (fun hc38 => ?_) (fun hc38 => absurd hc38 (by decide))
        refine J_iload_n C 2 d_Ear_pointerWith_47 rfl rfl ?_
        exact P_iretE C hr (by unfold PtW; (repeat' split) <;> first | contradiction | (exfalso; omega) | rfl) d_Ear_pointerWith_48
      · refine J_iload_n C 3 d_Ear_pointerWith_27 rfl rfl ?_
        refine J_ifN_eq C 35 d_Ear_pointerWith_28 (by decide) (by omega) (fun hc28 => ?_) (fun hc28 => absurd hc28 (by decide))
        refine J_iload_n C 2 d_Ear_pointerWith_35 rfl rfl ?_
        exact P_iretE C hr (by unfold PtW; (repeat' split) <;> first | contradiction | (exfalso; omega) | rfl) d_Ear_pointerWith_36
    · refine J_iconst C d_Ear_pointerWith_14 (v := nI 1) rfl ?_
      refine J_goto C 19 d_Ear_pointerWith_15 (by decide) ?_
      refine J_istore_n C 3 d_Ear_pointerWith_19 rfl (by decide) rfl ?_
      refine J_aload_n C 0 d_Ear_pointerWith_20 rfl rfl ?_
      refine J_get C f_Ear_67 (by omega) (e_pk _ (by omega)) rfl d_Ear_pointerWith_21 ?_
      refine J_val (y := nI em) he ?_
      refine J_ifN_ne C 37 d_Ear_pointerWith_24 (by decide) (by omega) (fun hc24 => ?_) (fun hc24 => ?_)
      · refine J_iload_n C 3 d_Ear_pointerWith_37 rfl rfl ?_
        refine J_ifN_eq C 47 d_Ear_pointerWith_38 (by decide) (by omega) (fun hc38 => absurd hc38 (by decide)) (fun hc38 => ?_)
        refine J_sipush C d_Ear_pointerWith_41 (v := nI 2047) rfl ?_
        refine J_goto C 48 d_Ear_pointerWith_44 (by decide) ?_
        exact P_iretE C hr (by unfold PtW; (repeat' split) <;> first | contradiction | (exfalso; omega) | rfl) d_Ear_pointerWith_48
      · refine J_iload_n C 3 d_Ear_pointerWith_27 rfl rfl ?_
        refine J_ifN_eq C 35 d_Ear_pointerWith_28 (by decide) (by omega) (fun hc28 => absurd hc28 (by decide)) (fun hc28 => ?_)
        refine J_iload_n C 1 d_Ear_pointerWith_31 rfl rfl ?_
        refine J_goto C 36 d_Ear_pointerWith_32 (by decide) ?_
        exact P_iretE C hr (by unfold PtW; (repeat' split) <;> first | contradiction | (exfalso; omega) | rfl) d_Ear_pointerWith_36

def fEmP (g : Nat → Int32) (j : Nat) : Nat → Nat → Nat → Mem → Mem
  | 0, _, _, M => M
  | r + 1, a, em, M => fEmP g j r (a + 1) (em + 1) (mu (mu M 74 a (g em)) (7 + 2 * j) 4 (nI (em + 1)))
set_option maxHeartbeats 4000000 in
set_option maxRecDepth 100000 in
theorem f_emitPart (l : Launch) (D : va_G) (dA : Nat → ClassId) (M : Mem) (j a0 em0 L : Nat) (b : Nat → Nat) (g : Nat → Int32) (hj : j < 24) (ha : a0 ≤ 30) (hem : em0 ≤ L) (hL60 : L ≤ 60) (he : M (7 + 2 * j) 4 = nI em0) (hL : M (7 + 2 * j) 2 = nI L) (hb : ∀ k, k < 3 → M (8 + 2 * j) k = nI (b k)) (hb2 : ∀ k, k < 3 → b k < 24) (hg : ∀ k, k < L → M 4 (b (k / 20) * 20 + k % 20) = g k) : CF l D dA k_Ear_emitPart 1 [.ref 73, .ref (7 + 2 * j), .int (nI a0), .ref 3] M (some (.int (nI (a0 + min (30 - a0) (L - em0))))) (fEmP g j (min (30 - a0) (L - em0)) a0 em0 M) := by
  refine CF.of (by decide +kernel) (Nat.le_of_ble_eq_true rfl) (by intro v hv; simp only [List.mem_cons, List.not_mem_nil, or_false] at hv; rcases hv with rfl | rfl | rfl | rfl <;> rfl) ?_
  intro A ad0 p e s m args below meth c C hr
  refine J_iload_n C 2 d_Ear_emitPart_0 rfl rfl ?_
  refine J_istore C d_Ear_emitPart_1 (by decide) rfl ?_
  generalize hM9 : fEmP g j (min (30 - a0) (L - em0)) a0 em0 M = M9
  have lp : ∀ (fu : Nat) (a : Nat) (em : Nat) (M : Mem), 30 - a < fu → (a ≤ 30) → (em ≤ L) → (a + min (30 - a) (L - em) = a0 + min (30 - a0) (L - em0)) → (M (7 + 2 * j) 4 = nI em) → (M (7 + 2 * j) 2 = nI L) → (∀ k, k < 3 → M (8 + 2 * j) k = nI (b k)) → (∀ k, k < L → M 4 (b (k / 20) * 20 + k % 20) = g k) → (fEmP g j (min (30 - a) (L - em)) a em M = M9) → J D dA A (fun _ _ => True) ad0 90 k_Ear_emitPart.2.2.1 p l e (zR 1 0 0) s m args below meth c (FQ D dA A ad0 below args s (some (.int (nI (a0 + min (30 - a0) (L - em0))))) (M9)) 3 [some (.ref 73), some (.ref (7 + 2 * j)), some (.int (nI a0)), some (.ref 3), some (.int (nI a))] [] (E M) 90 0 0 := by
    intro fu
    induction fu with
    | zero => intro a em M hfu; exact absurd hfu (Nat.not_lt_zero _)
    | succ fu ih =>
      intro a em M hfu ha hem hs he hL hb hg hF
      refine J_iload C d_Ear_emitPart_3 rfl ?_
      refine J_bipush C d_Ear_emitPart_5 (v := nI 30) rfl ?_
      refine J_icmpN_ge C 53 d_Ear_emitPart_7 (by decide) (by omega) (by omega) (fun hc7 => ?_) (fun hc7 => ?_)
      · refine J_iload C d_Ear_emitPart_53 rfl ?_
        exact F_iret C hr (by congr 1; omega) (by rw [show min (30 - a) (L - em) = 0 by omega] at hF; exact hF) d_Ear_emitPart_55
      · refine J_aload_n C 1 d_Ear_emitPart_10 rfl rfl ?_
        refine J_get C f_Ear_67 (by omega) (e_pk _ (by omega)) rfl d_Ear_emitPart_11 ?_
        refine J_val (y := nI em) he ?_
        refine J_aload_n C 1 d_Ear_emitPart_14 rfl rfl ?_
        refine J_get C f_Ear_70 (by omega) (e_pk _ (by omega)) rfl d_Ear_emitPart_15 ?_
        refine J_val (y := nI L) hL ?_
        refine J_icmpN_ge C 53 d_Ear_emitPart_18 (by decide) (by omega) (by omega) (fun hc18 => ?_) (fun hc18 => ?_)
        · refine J_iload C d_Ear_emitPart_53 rfl ?_
          exact F_iret C hr (by congr 1; omega) (by rw [show min (30 - a) (L - em) = 0 by omega] at hF; exact hF) d_Ear_emitPart_55
        · refine J_aload_n C 0 d_Ear_emitPart_21 rfl rfl ?_
          refine J_get C f_Ear_11 (by decide) (e_73 _) rfl d_Ear_emitPart_22 ?_
          refine J_iload C d_Ear_emitPart_25 rfl ?_
          refine J_aload_n C 3 d_Ear_emitPart_27 rfl rfl ?_
          refine J_aload_n C 1 d_Ear_emitPart_28 rfl rfl ?_
          refine J_aload_n C 1 d_Ear_emitPart_29 rfl rfl ?_
          refine J_get C f_Ear_67 (by omega) (e_pk _ (by omega)) rfl d_Ear_emitPart_30 ?_
          refine J_val (y := nI em) he ?_
          refine P_callV C (as := [.ref (7 + 2 * j), .int (nI em)]) (st := [.int (nI a), .ref 74]) (p_byteOf l D dA M j em (b (em / 20)) hj (by omega) (hb _ (by omega)) (hb2 _ (by omega))) l_Ear_73 v_Sto_byteOf (by decide) (e_3 _) rfl (by decide) (by decide) (by decide) (Nat.le_of_ble_eq_true rfl) d_Ear_emitPart_33 (kk := ?_)
          refine K_ias C a_74 (j := a) rfl (by omega) d_Ear_emitPart_36 (kk := ?_)
          refine J_aload_n C 1 d_Ear_emitPart_37 rfl rfl ?_
          refine J_dup C d_Ear_emitPart_38 rfl ?_
          refine J_get C f_Ear_67 (by omega) (e_pk _ (by omega)) rfl d_Ear_emitPart_39 ?_
          refine J_val (y := nI em) (by simp [mu, va_up, show ¬ 7 + 2 * j = 74 by omega]; exact he) ?_
          refine J_iconst C d_Ear_emitPart_42 (v := nI 1) rfl ?_
          refine J_iaddN C d_Ear_emitPart_43 ?_
          refine K_putI C f_Ear_67 (by omega) (e_pk _ (by omega)) (Nat.le_of_ble_eq_true rfl) (Ec_pk (by omega) _) d_Ear_emitPart_44 (kk := ?_)
          refine J_iinc C d_Ear_emitPart_47 rfl (v := nI (a + 1)) (nI_1 _) (by decide) rfl ?_
          refine J_goto C 3 d_Ear_emitPart_50 (by decide) ?_
          exact ih (a + 1) (em + 1) _ (by omega) (by omega) (by omega) (by omega) (by simp [mu, va_up, upd]) (by simp [mu, va_up, upd, show ¬ 7 + 2 * j = 74 by omega]; exact hL) (by intro k hk; simp [mu, va_up, show ¬ 8 + 2 * j = 7 + 2 * j by omega, show ¬ 8 + 2 * j = 74 by omega]; exact hb k hk) (by intro k hk; simp [mu, va_up, show ¬ 4 = 7 + 2 * j by omega]; exact hg k hk) (by rw [show min (30 - a) (L - em) = min (30 - (a + 1)) (L - (em + 1)) + 1 by omega] at hF; unfold fEmP at hF; rw [hg em (by omega)]; exact hF)
  exact lp (30 - a0 + 1) a0 em0 M (by omega) ha hem rfl he hL hb hg hM9
end
section
def fWrM (M : Mem) : Mem := if M 76 4 ≤ 0 then mu M 76 23 (M 76 23 + nI 1) else if M 76 4 - nI 1 = 0 then mu (mu (mu M 76 23 (M 76 23 + nI 1)) 76 4 (M 76 4 - nI 1)) 76 3 (nI 1) else mu (mu M 76 23 (M 76 23 + nI 1)) 76 4 (M 76 4 - nI 1)
def rWrM (M : Mem) : Int32 := if M 76 4 ≤ 0 then (if M 76 3 = 0 then 1 else 0) else if M 76 4 - nI 1 = 0 then 0 else (if M 76 3 = 0 then 1 else 0)
theorem rWrM_z (M : Mem) : rWrM M = 0 ∨ rWrM M = 1 := by unfold rWrM; (repeat' split) <;> first | exact Or.inl rfl | exact Or.inr rfl
def fJrM (M : Mem) : Mem := if nI 40 ≤ M 76 22 then fWrM (mu M 76 22 (M 76 15)) else M
def rJrM (M : Mem) : Int32 := if nI 40 ≤ M 76 22 then rWrM (mu M 76 22 (M 76 15)) else 1
set_option maxHeartbeats 4000000 in
set_option maxRecDepth 100000 in
theorem fm_write (l : Launch) (D : va_G) (dA : Nat → ClassId) (M : Mem) : CF l D dA k_Mod_write 0 [.ref 76] M (some (.int (rWrM M))) (fWrM M) := by
  refine CF.of (by decide +kernel) (Nat.le_of_ble_eq_true rfl) (by intro v hv; simp only [List.mem_cons, List.not_mem_nil, or_false] at hv; rcases hv with rfl <;> rfl) ?_
  intro A ad0 p e s m args below meth c C hr
  refine J_aload_n C 0 d_Mod_write_0 rfl rfl ?_
  refine J_dup C d_Mod_write_1 rfl ?_
  refine J_get C f_Mod_82 (by decide) (e_76 _) rfl d_Mod_write_2 ?_
  refine J_iconst C d_Mod_write_5 (v := nI 1) rfl ?_
  refine J_iadd C d_Mod_write_6 ?_
  refine K_putI C f_Mod_82 (by decide) (e_76 _) (Nat.le_of_ble_eq_true rfl) rfl d_Mod_write_7 (kk := ?_)
  refine J_aload_n C 0 d_Mod_write_10 rfl rfl ?_
  refine J_get C f_Mod_24 (by decide) (e_76 _) rfl d_Mod_write_11 ?_
  refine J_val (y := M 76 4) rfl ?_
  refine J_if_le C 39 d_Mod_write_14 (by decide) (fun hc14 => ?_) (fun hc14 => ?_)
  · refine J_aload_n C 0 d_Mod_write_39 rfl rfl ?_
    refine J_get C f_Mod_20 (by decide) (e_76 _) rfl d_Mod_write_40 ?_
    refine J_val (y := M 76 3) rfl ?_
    refine J_if_ne C 50 d_Mod_write_43 (by decide) (fun hc43 => ?_) (fun hc43 => ?_)
    · refine J_iconst C d_Mod_write_50 (v := nI 0) rfl ?_
      exact F_zret C hr (Or.inl rfl) (by unfold rWrM; (repeat' split) <;> first | contradiction | (exfalso; omega) | rfl) (by unfold fWrM; (repeat' split) <;> first | contradiction | (exfalso; omega) | rfl) d_Mod_write_51
    · refine J_iconst C d_Mod_write_46 (v := nI 1) rfl ?_
      refine J_goto C 51 d_Mod_write_47 (by decide) ?_
      exact F_zret C hr (Or.inr rfl) (by unfold rWrM; (repeat' split) <;> first | contradiction | (exfalso; omega) | rfl) (by unfold fWrM; (repeat' split) <;> first | contradiction | (exfalso; omega) | rfl) d_Mod_write_51
  · refine J_aload_n C 0 d_Mod_write_17 rfl rfl ?_
    refine J_dup C d_Mod_write_18 rfl ?_
    refine J_get C f_Mod_24 (by decide) (e_76 _) rfl d_Mod_write_19 ?_
    refine J_val (y := M 76 4) rfl ?_
    refine J_iconst C d_Mod_write_22 (v := nI 1) rfl ?_
    refine J_isub C d_Mod_write_23 ?_
    refine K_putI C f_Mod_24 (by decide) (e_76 _) (Nat.le_of_ble_eq_true rfl) rfl d_Mod_write_24 (kk := ?_)
    refine J_aload_n C 0 d_Mod_write_27 rfl rfl ?_
    refine J_get C f_Mod_24 (by decide) (e_76 _) rfl d_Mod_write_28 ?_
    refine J_val (y := (M 76 4) - (nI 1)) rfl ?_
    refine J_if_ne C 39 d_Mod_write_31 (by decide) (fun hc31 => ?_) (fun hc31 => ?_)
    · refine J_aload_n C 0 d_Mod_write_39 rfl rfl ?_
      refine J_get C f_Mod_20 (by decide) (e_76 _) rfl d_Mod_write_40 ?_
      refine J_val (y := M 76 3) rfl ?_
      refine J_if_ne C 50 d_Mod_write_43 (by decide) (fun hc43 => ?_) (fun hc43 => ?_)
      · refine J_iconst C d_Mod_write_50 (v := nI 0) rfl ?_
        exact F_zret C hr (Or.inl rfl) (by unfold rWrM; (repeat' split) <;> first | contradiction | (exfalso; omega) | rfl) (by unfold fWrM; (repeat' split) <;> first | contradiction | (exfalso; omega) | rfl) d_Mod_write_51
      · refine J_iconst C d_Mod_write_46 (v := nI 1) rfl ?_
        refine J_goto C 51 d_Mod_write_47 (by decide) ?_
        exact F_zret C hr (Or.inr rfl) (by unfold rWrM; (repeat' split) <;> first | contradiction | (exfalso; omega) | rfl) (by unfold fWrM; (repeat' split) <;> first | contradiction | (exfalso; omega) | rfl) d_Mod_write_51
    · refine J_aload_n C 0 d_Mod_write_34 rfl rfl ?_
      refine J_iconst C d_Mod_write_35 (v := nI 1) rfl ?_
      refine K_putZ C f_Mod_20 (by decide) (e_76 _) (Nat.le_of_ble_eq_true rfl) (Or.inr rfl) rfl d_Mod_write_36 (kk := ?_)
      refine J_aload_n C 0 d_Mod_write_39 rfl rfl ?_
      refine J_get C f_Mod_20 (by decide) (e_76 _) rfl d_Mod_write_40 ?_
      refine J_val (y := nI 1) rfl ?_
      refine J_ifN_ne C 50 d_Mod_write_43 (by decide) (by omega) (fun hc43 => ?_) (fun hc43 => absurd hc43 (by decide))
      refine J_iconst C d_Mod_write_50 (v := nI 0) rfl ?_
      exact F_zret C hr (Or.inl rfl) (by unfold rWrM; (repeat' split) <;> first | contradiction | (exfalso; omega) | rfl) (by unfold fWrM; (repeat' split) <;> first | contradiction | (exfalso; omega) | rfl) d_Mod_write_51

set_option maxHeartbeats 4000000 in
set_option maxRecDepth 100000 in
theorem fm_journal (l : Launch) (D : va_G) (dA : Nat → ClassId) (M : Mem) : CF l D dA k_Mod_journal 1 [.ref 76] M (some (.int (rJrM M))) (fJrM M) := by
  refine CF.of (by decide +kernel) (Nat.le_of_ble_eq_true rfl) (by intro v hv; simp only [List.mem_cons, List.not_mem_nil, or_false] at hv; rcases hv with rfl <;> rfl) ?_
  intro A ad0 p e s m args below meth c C hr
  refine J_aload_n C 0 d_Mod_journal_0 rfl rfl ?_
  refine J_get C f_Mod_79 (by decide) (e_76 _) rfl d_Mod_journal_1 ?_
  refine J_bipush C d_Mod_journal_4 (v := nI 40) rfl ?_
  refine J_icmp_ge C 11 d_Mod_journal_6 (by decide) (fun hc6 => ?_) (fun hc6 => ?_)
  · refine J_aload_n C 0 d_Mod_journal_11 rfl rfl ?_
    refine J_aload_n C 0 d_Mod_journal_12 rfl rfl ?_
    refine J_get C f_Mod_58 (by decide) (e_76 _) rfl d_Mod_journal_13 ?_
    refine K_putI C f_Mod_79 (by decide) (e_76 _) (Nat.le_of_ble_eq_true rfl) rfl d_Mod_journal_16 (kk := ?_)
    refine J_aload_n C 0 d_Mod_journal_19 rfl rfl ?_
    refine F_callV C (as := []) (st := []) (fm_write l D dA (mu M 76 22 (M 76 15))) l_Mod_94 v_Mod_write (by decide) (e_76 _) rfl (by decide) (by decide) (Nat.le_of_ble_eq_true rfl) d_Mod_journal_20 (kk := ?_)
    exact F_zret C hr (rWrM_z _) (by unfold rJrM; (repeat' split) <;> first | contradiction | (exfalso; omega) | rfl) (by unfold fJrM; (repeat' split) <;> first | contradiction | (exfalso; omega) | rfl) d_Mod_journal_23
  · refine J_iconst C d_Mod_journal_9 (v := nI 1) rfl ?_
    exact F_zret C hr (Or.inr rfl) (by unfold rJrM; (repeat' split) <;> first | contradiction | (exfalso; omega) | rfl) (by unfold fJrM; (repeat' split) <;> first | contradiction | (exfalso; omega) | rfl) d_Mod_journal_10

set_option maxHeartbeats 4000000 in
set_option maxRecDepth 100000 in
theorem pm_blocksOf (l : Launch) (D : va_G) (dA : Nat → ClassId) (M : Mem) (n : Nat) (hn : n < 1000) : PT l D dA k_Mod_blocksOf 0 90 [.int (nI n)] (E M) (.int (nI ((n + 19) / 20))) := by
  refine PT.of (by decide +kernel) (Nat.le_of_ble_eq_true rfl) (by intro v hv; simp only [List.mem_cons, List.not_mem_nil, or_false] at hv; rcases hv with rfl <;> rfl) ?_
  intro A ad0 p e s m args below meth c C hr
  refine J_iload_n C 0 d_Mod_blocksOf_0 rfl rfl ?_
  refine J_bipush C d_Mod_blocksOf_1 (v := nI 19) rfl ?_
  refine J_iaddN C d_Mod_blocksOf_3 ?_
  refine J_bipush C d_Mod_blocksOf_4 (v := nI 20) rfl ?_
  refine J_idivN C d_Mod_blocksOf_6 (by omega) (by omega) (by omega) ?_
  exact P_iretE C hr rfl d_Mod_blocksOf_7

set_option maxHeartbeats 4000000 in
set_option maxRecDepth 100000 in
theorem pm_thrown (l : Launch) (D : va_G) (dA : Nat → ClassId) (M : Mem) : PT l D dA k_Mod_thrown 0 90 [.ref 76] (E M) (.int (M 76 0)) := by
  refine PT.of (by decide +kernel) (Nat.le_of_ble_eq_true rfl) (by intro v hv; simp only [List.mem_cons, List.not_mem_nil, or_false] at hv; rcases hv with rfl <;> rfl) ?_
  intro A ad0 p e s m args below meth c C hr
  refine J_aload_n C 0 d_Mod_thrown_0 rfl rfl ?_
  refine J_get C f_Mod_7 (by decide) (e_76 _) rfl d_Mod_thrown_1 ?_
  exact P_iretE C hr rfl d_Mod_thrown_4

set_option maxHeartbeats 4000000 in
set_option maxRecDepth 100000 in
theorem pm_seenBy0 (l : Launch) (D : va_G) (dA : Nat → ClassId) (M : Mem) (hp : ¬ (M 77 1).toInt64 = 0) : PT l D dA k_Mod_seenBy 0 90 [.ref 76, .int (nI 0)] (E M) (.int (fOpen (M 76 1) (M 77 0) (M 77 1) (M 77 2))) := by
  refine PT.of (by decide +kernel) (Nat.le_of_ble_eq_true rfl) (by intro v hv; simp only [List.mem_cons, List.not_mem_nil, or_false] at hv; rcases hv with rfl | rfl <;> rfl) ?_
  intro A ad0 p e s m args below meth c C hr
  refine J_aload_n C 0 d_Mod_seenBy_0 rfl rfl ?_
  refine J_get C f_Mod_13 (by decide) (e_76 _) rfl d_Mod_seenBy_1 ?_
  refine J_i2l C d_Mod_seenBy_4 ?_
  refine J_aload_n C 0 d_Mod_seenBy_5 rfl rfl ?_
  refine J_get C f_Mod_16 (by decide) (e_76 _) rfl d_Mod_seenBy_6 ?_
  refine J_iconst C d_Mod_seenBy_9 (v := nI 3) rfl ?_
  refine J_iload_n C 1 d_Mod_seenBy_10 rfl rfl ?_
  refine J_imulN C d_Mod_seenBy_11 ?_
  refine J_val (y := nI 0) rfl ?_
  refine K_ial C a_77 (j := 0) rfl (by omega) d_Mod_seenBy_12 ?_
  refine J_i2l C d_Mod_seenBy_13 ?_
  refine J_ladd C d_Mod_seenBy_14 ?_
  refine J_lstore_n C 2 d_Mod_seenBy_15 rfl (by decide) rfl ?_
  refine J_lload_n C 2 d_Mod_seenBy_16 rfl rfl ?_
  refine J_aload_n C 0 d_Mod_seenBy_17 rfl rfl ?_
  refine J_get C f_Mod_16 (by decide) (e_76 _) rfl d_Mod_seenBy_18 ?_
  refine J_iconst C d_Mod_seenBy_21 (v := nI 3) rfl ?_
  refine J_iload_n C 1 d_Mod_seenBy_22 rfl rfl ?_
  refine J_imulN C d_Mod_seenBy_23 ?_
  refine J_val (y := nI 0) rfl ?_
  refine J_iconst C d_Mod_seenBy_24 (v := nI 1) rfl ?_
  refine J_iaddN C d_Mod_seenBy_25 ?_
  refine J_val (y := nI 1) rfl ?_
  refine K_ial C a_77 (j := 1) rfl (by omega) d_Mod_seenBy_26 ?_
  refine J_i2l C d_Mod_seenBy_27 ?_
  refine J_lrem C d_Mod_seenBy_28 (by assumption) ?_
  refine J_aload_n C 0 d_Mod_seenBy_29 rfl rfl ?_
  refine J_get C f_Mod_16 (by decide) (e_76 _) rfl d_Mod_seenBy_30 ?_
  refine J_iconst C d_Mod_seenBy_33 (v := nI 3) rfl ?_
  refine J_iload_n C 1 d_Mod_seenBy_34 rfl rfl ?_
  refine J_imulN C d_Mod_seenBy_35 ?_
  refine J_val (y := nI 0) rfl ?_
  refine J_iconst C d_Mod_seenBy_36 (v := nI 2) rfl ?_
  refine J_iaddN C d_Mod_seenBy_37 ?_
  refine J_val (y := nI 2) rfl ?_
  refine K_ial C a_77 (j := 2) rfl (by omega) d_Mod_seenBy_38 ?_
  refine J_i2l C d_Mod_seenBy_39 ?_
  refine J_lcmp C d_Mod_seenBy_40 ?_
  refine J_if_ge C 48 d_Mod_seenBy_41 (by decide) (fun hc41 => ?_) (fun hc41 => ?_)
  · refine J_iconst C d_Mod_seenBy_48 (v := nI 0) rfl ?_
    exact P_zretE C hr (Or.inl rfl) (by simp only [fOpen, hc41, if_true, if_false]; try rfl) d_Mod_seenBy_49
  · refine J_iconst C d_Mod_seenBy_44 (v := nI 1) rfl ?_
    refine J_goto C 49 d_Mod_seenBy_45 (by decide) ?_
    exact P_zretE C hr (Or.inr rfl) (by simp only [fOpen, hc41, if_true, if_false]; try rfl) d_Mod_seenBy_49

set_option maxHeartbeats 4000000 in
set_option maxRecDepth 100000 in
theorem pm_seenBy1 (l : Launch) (D : va_G) (dA : Nat → ClassId) (M : Mem) (hp : ¬ (M 77 4).toInt64 = 0) : PT l D dA k_Mod_seenBy 0 90 [.ref 76, .int (nI 1)] (E M) (.int (fOpen (M 76 1) (M 77 3) (M 77 4) (M 77 5))) := by
  refine PT.of (by decide +kernel) (Nat.le_of_ble_eq_true rfl) (by intro v hv; simp only [List.mem_cons, List.not_mem_nil, or_false] at hv; rcases hv with rfl | rfl <;> rfl) ?_
  intro A ad0 p e s m args below meth c C hr
  refine J_aload_n C 0 d_Mod_seenBy_0 rfl rfl ?_
  refine J_get C f_Mod_13 (by decide) (e_76 _) rfl d_Mod_seenBy_1 ?_
  refine J_i2l C d_Mod_seenBy_4 ?_
  refine J_aload_n C 0 d_Mod_seenBy_5 rfl rfl ?_
  refine J_get C f_Mod_16 (by decide) (e_76 _) rfl d_Mod_seenBy_6 ?_
  refine J_iconst C d_Mod_seenBy_9 (v := nI 3) rfl ?_
  refine J_iload_n C 1 d_Mod_seenBy_10 rfl rfl ?_
  refine J_imulN C d_Mod_seenBy_11 ?_
  refine J_val (y := nI 3) rfl ?_
  refine K_ial C a_77 (j := 3) rfl (by omega) d_Mod_seenBy_12 ?_
  refine J_i2l C d_Mod_seenBy_13 ?_
  refine J_ladd C d_Mod_seenBy_14 ?_
  refine J_lstore_n C 2 d_Mod_seenBy_15 rfl (by decide) rfl ?_
  refine J_lload_n C 2 d_Mod_seenBy_16 rfl rfl ?_
  refine J_aload_n C 0 d_Mod_seenBy_17 rfl rfl ?_
  refine J_get C f_Mod_16 (by decide) (e_76 _) rfl d_Mod_seenBy_18 ?_
  refine J_iconst C d_Mod_seenBy_21 (v := nI 3) rfl ?_
  refine J_iload_n C 1 d_Mod_seenBy_22 rfl rfl ?_
  refine J_imulN C d_Mod_seenBy_23 ?_
  refine J_val (y := nI 3) rfl ?_
  refine J_iconst C d_Mod_seenBy_24 (v := nI 1) rfl ?_
  refine J_iaddN C d_Mod_seenBy_25 ?_
  refine J_val (y := nI 4) rfl ?_
  refine K_ial C a_77 (j := 4) rfl (by omega) d_Mod_seenBy_26 ?_
  refine J_i2l C d_Mod_seenBy_27 ?_
  refine J_lrem C d_Mod_seenBy_28 (by assumption) ?_
  refine J_aload_n C 0 d_Mod_seenBy_29 rfl rfl ?_
  refine J_get C f_Mod_16 (by decide) (e_76 _) rfl d_Mod_seenBy_30 ?_
  refine J_iconst C d_Mod_seenBy_33 (v := nI 3) rfl ?_
  refine J_iload_n C 1 d_Mod_seenBy_34 rfl rfl ?_
  refine J_imulN C d_Mod_seenBy_35 ?_
  refine J_val (y := nI 3) rfl ?_
  refine J_iconst C d_Mod_seenBy_36 (v := nI 2) rfl ?_
  refine J_iaddN C d_Mod_seenBy_37 ?_
  refine J_val (y := nI 5) rfl ?_
  refine K_ial C a_77 (j := 5) rfl (by omega) d_Mod_seenBy_38 ?_
  refine J_i2l C d_Mod_seenBy_39 ?_
  refine J_lcmp C d_Mod_seenBy_40 ?_
  refine J_if_ge C 48 d_Mod_seenBy_41 (by decide) (fun hc41 => ?_) (fun hc41 => ?_)
  · refine J_iconst C d_Mod_seenBy_48 (v := nI 0) rfl ?_
    exact P_zretE C hr (Or.inl rfl) (by simp only [fOpen, hc41, if_true, if_false]; try rfl) d_Mod_seenBy_49
  · refine J_iconst C d_Mod_seenBy_44 (v := nI 1) rfl ?_
    refine J_goto C 49 d_Mod_seenBy_45 (by decide) ?_
    exact P_zretE C hr (Or.inr rfl) (by simp only [fOpen, hc41, if_true, if_false]; try rfl) d_Mod_seenBy_49

def PlaM (g : Nat → Nat) (a en : Nat) : Nat := if en < a + 7 then 0 else if g a < 8 then 0 else if 15 < g a then 0 else if 60 < g (a + 4) * 256 + g (a + 5) + 7 then 0 else if en < a + (g (a + 4) * 256 + g (a + 5) + 7) then 0 else g (a + 4) * 256 + g (a + 5) + 7
theorem PlaM_le (g : Nat → Nat) (a en : Nat) : PlaM g a en ≤ 60 ∧ (PlaM g a en = 0 ∨ a + PlaM g a en ≤ en) := by unfold PlaM; (repeat' split) <;> constructor <;> first | omega | (left; rfl) | (right; omega)
set_option maxHeartbeats 4000000 in
set_option maxRecDepth 100000 in
theorem pm_packetAt78 (l : Launch) (D : va_G) (dA : Nat → ClassId) (M : Mem) (a en : Nat) (hen : en ≤ 80) (ha : a ≤ en) (g : Nat → Nat) (hg : ∀ i, a ≤ i → i < en → M 78 i = nI (g i)) (hg2 : ∀ i, a ≤ i → i < en → g i < 256) : PT l D dA k_Mod_packetAt 0 90 [.ref 78, .int (nI a), .int (nI en)] (E M) (.int (nI (PlaM g a en))) := by
  refine PT.of (by decide +kernel) (Nat.le_of_ble_eq_true rfl) (by intro v hv; simp only [List.mem_cons, List.not_mem_nil, or_false] at hv; rcases hv with rfl | rfl | rfl <;> rfl) ?_
  intro A ad0 p e s m args below meth c C hr
  refine J_iload_n C 1 d_Mod_packetAt_0 rfl rfl ?_
  refine J_bipush C d_Mod_packetAt_1 (v := nI 7) rfl ?_
  refine J_iaddN C d_Mod_packetAt_3 ?_
  refine J_iload_n C 2 d_Mod_packetAt_4 rfl rfl ?_
  refine J_icmpN_gt C 24 d_Mod_packetAt_5 (by decide) (by omega) (by omega) (fun hc5 => ?_) (fun hc5 => ?_)
  · refine J_iconst C d_Mod_packetAt_24 (v := nI 0) rfl ?_
    exact P_iretE C hr (by unfold PlaM; (repeat' split) <;> first | (exfalso; omega) | rfl) d_Mod_packetAt_25
  · refine J_aload_n C 0 d_Mod_packetAt_8 rfl rfl ?_
    refine J_iload_n C 1 d_Mod_packetAt_9 rfl rfl ?_
    refine K_ial C a_78 (j := a) rfl (by omega) d_Mod_packetAt_10 ?_
    refine J_val (y := nI (g a)) (hg _ (by omega) (by omega)) ?_
    have b1 := hg2 a (by omega) (by omega)
    refine J_bipush C d_Mod_packetAt_11 (v := nI 8) rfl ?_
    refine J_icmpN_lt C 24 d_Mod_packetAt_13 (by decide) (by omega) (by omega) (fun hc13 => ?_) (fun hc13 => ?_)
    · refine J_iconst C d_Mod_packetAt_24 (v := nI 0) rfl ?_
      exact P_iretE C hr (by unfold PlaM; (repeat' split) <;> first | (exfalso; omega) | rfl) d_Mod_packetAt_25
    · refine J_aload_n C 0 d_Mod_packetAt_16 rfl rfl ?_
      refine J_iload_n C 1 d_Mod_packetAt_17 rfl rfl ?_
      refine K_ial C a_78 (j := a) rfl (by omega) d_Mod_packetAt_18 ?_
      refine J_val (y := nI (g a)) (hg _ (by omega) (by omega)) ?_
      refine J_bipush C d_Mod_packetAt_19 (v := nI 15) rfl ?_
      refine J_icmpN_le C 26 d_Mod_packetAt_21 (by decide) (by omega) (by omega) (fun hc21 => ?_) (fun hc21 => ?_)
      · have b4 := hg2 (a + 4) (by omega) (by omega)
        have b5 := hg2 (a + 5) (by omega) (by omega)
        refine J_aload_n C 0 d_Mod_packetAt_26 rfl rfl ?_
        refine J_iload_n C 1 d_Mod_packetAt_27 rfl rfl ?_
        refine J_iconst C d_Mod_packetAt_28 (v := nI 4) rfl ?_
        refine J_iaddN C d_Mod_packetAt_29 ?_
        refine K_ial C a_78 (j := a + 4) rfl (by omega) d_Mod_packetAt_30 ?_
        refine J_val (y := nI (g (a + 4))) (hg _ (by omega) (by omega)) ?_
        refine J_sipush C d_Mod_packetAt_31 (v := nI 256) rfl ?_
        refine J_imulN C d_Mod_packetAt_34 ?_
        refine J_aload_n C 0 d_Mod_packetAt_35 rfl rfl ?_
        refine J_iload_n C 1 d_Mod_packetAt_36 rfl rfl ?_
        refine J_iconst C d_Mod_packetAt_37 (v := nI 5) rfl ?_
        refine J_iaddN C d_Mod_packetAt_38 ?_
        refine K_ial C a_78 (j := a + 5) rfl (by omega) d_Mod_packetAt_39 ?_
        refine J_val (y := nI (g (a + 5))) (hg _ (by omega) (by omega)) ?_
        refine J_iaddN C d_Mod_packetAt_40 ?_
        refine J_bipush C d_Mod_packetAt_41 (v := nI 7) rfl ?_
        refine J_iaddN C d_Mod_packetAt_43 ?_
        refine J_istore_n C 3 d_Mod_packetAt_44 rfl (by decide) rfl ?_
        refine J_iload_n C 3 d_Mod_packetAt_45 rfl rfl ?_
        refine J_bipush C d_Mod_packetAt_46 (v := nI 60) rfl ?_
        refine J_icmpN_gt C 62 d_Mod_packetAt_48 (by decide) (by omega) (by omega) (fun hc48 => ?_) (fun hc48 => ?_)
        · refine J_iconst C d_Mod_packetAt_62 (v := nI 0) rfl ?_
          exact P_iretE C hr (by unfold PlaM; (repeat' split) <;> first | (exfalso; omega) | rfl) d_Mod_packetAt_63
        · refine J_iload_n C 1 d_Mod_packetAt_51 rfl rfl ?_
          refine J_iload_n C 3 d_Mod_packetAt_52 rfl rfl ?_
          refine J_iaddN C d_Mod_packetAt_53 ?_
          refine J_iload_n C 2 d_Mod_packetAt_54 rfl rfl ?_
          refine J_icmpN_gt C 62 d_Mod_packetAt_55 (by decide) (by omega) (by omega) (fun hc55 => ?_) (fun hc55 => ?_)
          · refine J_iconst C d_Mod_packetAt_62 (v := nI 0) rfl ?_
            exact P_iretE C hr (by unfold PlaM; (repeat' split) <;> first | (exfalso; omega) | rfl) d_Mod_packetAt_63
          · refine J_iload_n C 3 d_Mod_packetAt_58 rfl rfl ?_
            refine J_goto C 63 d_Mod_packetAt_59 (by decide) ?_
            exact P_iretE C hr (by unfold PlaM; (repeat' split) <;> first | (exfalso; omega) | rfl) d_Mod_packetAt_63
      · refine J_iconst C d_Mod_packetAt_24 (v := nI 0) rfl ?_
        exact P_iretE C hr (by unfold PlaM; (repeat' split) <;> first | (exfalso; omega) | rfl) d_Mod_packetAt_25

set_option maxHeartbeats 4000000 in
set_option maxRecDepth 100000 in
theorem pm_packetAt81 (l : Launch) (D : va_G) (dA : Nat → ClassId) (M : Mem) (a en : Nat) (hen : en ≤ 240) (ha : a ≤ en) (g : Nat → Nat) (hg : ∀ i, a ≤ i → i < en → M 81 i = nI (g i)) (hg2 : ∀ i, a ≤ i → i < en → g i < 256) : PT l D dA k_Mod_packetAt 0 90 [.ref 81, .int (nI a), .int (nI en)] (E M) (.int (nI (PlaM g a en))) := by
  refine PT.of (by decide +kernel) (Nat.le_of_ble_eq_true rfl) (by intro v hv; simp only [List.mem_cons, List.not_mem_nil, or_false] at hv; rcases hv with rfl | rfl | rfl <;> rfl) ?_
  intro A ad0 p e s m args below meth c C hr
  refine J_iload_n C 1 d_Mod_packetAt_0 rfl rfl ?_
  refine J_bipush C d_Mod_packetAt_1 (v := nI 7) rfl ?_
  refine J_iaddN C d_Mod_packetAt_3 ?_
  refine J_iload_n C 2 d_Mod_packetAt_4 rfl rfl ?_
  refine J_icmpN_gt C 24 d_Mod_packetAt_5 (by decide) (by omega) (by omega) (fun hc5 => ?_) (fun hc5 => ?_)
  · refine J_iconst C d_Mod_packetAt_24 (v := nI 0) rfl ?_
    exact P_iretE C hr (by unfold PlaM; (repeat' split) <;> first | (exfalso; omega) | rfl) d_Mod_packetAt_25
  · refine J_aload_n C 0 d_Mod_packetAt_8 rfl rfl ?_
    refine J_iload_n C 1 d_Mod_packetAt_9 rfl rfl ?_
    refine K_ial C a_81 (j := a) rfl (by omega) d_Mod_packetAt_10 ?_
    refine J_val (y := nI (g a)) (hg _ (by omega) (by omega)) ?_
    have b1 := hg2 a (by omega) (by omega)
    refine J_bipush C d_Mod_packetAt_11 (v := nI 8) rfl ?_
    refine J_icmpN_lt C 24 d_Mod_packetAt_13 (by decide) (by omega) (by omega) (fun hc13 => ?_) (fun hc13 => ?_)
    · refine J_iconst C d_Mod_packetAt_24 (v := nI 0) rfl ?_
      exact P_iretE C hr (by unfold PlaM; (repeat' split) <;> first | (exfalso; omega) | rfl) d_Mod_packetAt_25
    · refine J_aload_n C 0 d_Mod_packetAt_16 rfl rfl ?_
      refine J_iload_n C 1 d_Mod_packetAt_17 rfl rfl ?_
      refine K_ial C a_81 (j := a) rfl (by omega) d_Mod_packetAt_18 ?_
      refine J_val (y := nI (g a)) (hg _ (by omega) (by omega)) ?_
      refine J_bipush C d_Mod_packetAt_19 (v := nI 15) rfl ?_
      refine J_icmpN_le C 26 d_Mod_packetAt_21 (by decide) (by omega) (by omega) (fun hc21 => ?_) (fun hc21 => ?_)
      · have b4 := hg2 (a + 4) (by omega) (by omega)
        have b5 := hg2 (a + 5) (by omega) (by omega)
        refine J_aload_n C 0 d_Mod_packetAt_26 rfl rfl ?_
        refine J_iload_n C 1 d_Mod_packetAt_27 rfl rfl ?_
        refine J_iconst C d_Mod_packetAt_28 (v := nI 4) rfl ?_
        refine J_iaddN C d_Mod_packetAt_29 ?_
        refine K_ial C a_81 (j := a + 4) rfl (by omega) d_Mod_packetAt_30 ?_
        refine J_val (y := nI (g (a + 4))) (hg _ (by omega) (by omega)) ?_
        refine J_sipush C d_Mod_packetAt_31 (v := nI 256) rfl ?_
        refine J_imulN C d_Mod_packetAt_34 ?_
        refine J_aload_n C 0 d_Mod_packetAt_35 rfl rfl ?_
        refine J_iload_n C 1 d_Mod_packetAt_36 rfl rfl ?_
        refine J_iconst C d_Mod_packetAt_37 (v := nI 5) rfl ?_
        refine J_iaddN C d_Mod_packetAt_38 ?_
        refine K_ial C a_81 (j := a + 5) rfl (by omega) d_Mod_packetAt_39 ?_
        refine J_val (y := nI (g (a + 5))) (hg _ (by omega) (by omega)) ?_
        refine J_iaddN C d_Mod_packetAt_40 ?_
        refine J_bipush C d_Mod_packetAt_41 (v := nI 7) rfl ?_
        refine J_iaddN C d_Mod_packetAt_43 ?_
        refine J_istore_n C 3 d_Mod_packetAt_44 rfl (by decide) rfl ?_
        refine J_iload_n C 3 d_Mod_packetAt_45 rfl rfl ?_
        refine J_bipush C d_Mod_packetAt_46 (v := nI 60) rfl ?_
        refine J_icmpN_gt C 62 d_Mod_packetAt_48 (by decide) (by omega) (by omega) (fun hc48 => ?_) (fun hc48 => ?_)
        · refine J_iconst C d_Mod_packetAt_62 (v := nI 0) rfl ?_
          exact P_iretE C hr (by unfold PlaM; (repeat' split) <;> first | (exfalso; omega) | rfl) d_Mod_packetAt_63
        · refine J_iload_n C 1 d_Mod_packetAt_51 rfl rfl ?_
          refine J_iload_n C 3 d_Mod_packetAt_52 rfl rfl ?_
          refine J_iaddN C d_Mod_packetAt_53 ?_
          refine J_iload_n C 2 d_Mod_packetAt_54 rfl rfl ?_
          refine J_icmpN_gt C 62 d_Mod_packetAt_55 (by decide) (by omega) (by omega) (fun hc55 => ?_) (fun hc55 => ?_)
          · refine J_iconst C d_Mod_packetAt_62 (v := nI 0) rfl ?_
            exact P_iretE C hr (by unfold PlaM; (repeat' split) <;> first | (exfalso; omega) | rfl) d_Mod_packetAt_63
          · refine J_iload_n C 3 d_Mod_packetAt_58 rfl rfl ?_
            refine J_goto C 63 d_Mod_packetAt_59 (by decide) ?_
            exact P_iretE C hr (by unfold PlaM; (repeat' split) <;> first | (exfalso; omega) | rfl) d_Mod_packetAt_63
      · refine J_iconst C d_Mod_packetAt_24 (v := nI 0) rfl ?_
        exact P_iretE C hr (by unfold PlaM; (repeat' split) <;> first | (exfalso; omega) | rfl) d_Mod_packetAt_25

set_option maxHeartbeats 4000000 in
set_option maxRecDepth 100000 in
theorem pm_isFree (l : Launch) (D : va_G) (dA : Nat → ClassId) (M : Mem) (cn : Nat) (b0 r : Int32) (hcn : M 76 15 = nI cn) (hc24 : cn ≤ 24) (h1 : (∀ q, q < 3 * cn → ¬ M 85 q = b0) → r = 1) (h0 : (∃ q, q < 3 * cn ∧ M 85 q = b0) → r = 0) : PT l D dA k_Mod_isFree 0 90 [.ref 76, .int b0] (E M) (.int r) := by
  refine PT.of (by decide +kernel) (Nat.le_of_ble_eq_true rfl) (by intro v hv; simp only [List.mem_cons, List.not_mem_nil, or_false] at hv; rcases hv with rfl | rfl <;> rfl) ?_
  intro A ad0 p e s m args below meth c C hr
  have lp : ∀ (fu p0 : Nat), cn - p0 < fu → p0 ≤ cn → (∀ q, q < 3 * p0 → ¬ M 85 q = b0) → J D dA A (fun H locs => H = s.heap ∧ locs = []) ad0 90 k_Mod_isFree.2.2.1 p l e (zR 0 0 0) s m args below meth c (MQ below (zQp ad0 (.int r)) args s 0 0 (fun _ => False)) 2 [some (.ref 76), some (.int b0), some (.int (nI p0)), none] [] (E M) 90 0 0 := by
    intro fu
    induction fu with
    | zero => intro p0 hfu; exact absurd hfu (Nat.not_lt_zero _)
    | succ fu iho =>
    intro p0 hfu hp0 hno
    have lpi : p0 < cn → ∀ (k0 : Nat), k0 ≤ 3 → 3 - k0 < 4 → (∀ q, q < 3 * p0 + k0 → ¬ M 85 q = b0) → J D dA A (fun H locs => H = s.heap ∧ locs = []) ad0 90 k_Mod_isFree.2.2.1 p l e (zR 0 0 0) s m args below meth c (MQ below (zQp ad0 (.int r)) args s 0 0 (fun _ => False)) 12 [some (.ref 76), some (.int b0), some (.int (nI p0)), some (.int (nI k0))] [] (E M) 90 0 0 := by
      intro hpc k0 hk0 hk3
      obtain ⟨fu2, hfu2⟩ : ∃ fu2, fu2 = 4 := ⟨_, rfl⟩
      rw [← hfu2] at hk3
      clear hfu2
      revert k0
      induction fu2 with
      | zero => intro k0 hk0 hk3; exact absurd hk3 (Nat.not_lt_zero _)
      | succ fu2 ih =>
        intro k0 hk0 hk3 hno
        refine J_iload_n C 3 d_Mod_isFree_12 rfl rfl ?_
        refine J_iconst C d_Mod_isFree_13 (v := nI 3) rfl ?_
        refine J_icmpN_ge C 39 d_Mod_isFree_14 (by decide) (by omega) (by omega) (fun hc14 => ?_) (fun hc14 => ?_)
        · refine J_iinc C d_Mod_isFree_39 rfl (v := nI (p0 + 1)) (nI_1 _) (by decide) rfl ?_
          refine J_goto C 2 d_Mod_isFree_42 (by decide) ?_
          refine J_lv (lv' := [some (.ref 76), some (.int b0), some (.int (nI (p0 + 1))), none]) (by intro i v hv; match i, hv with | 0, hv => exact hv | 1, hv => exact hv | 2, hv => exact hv | 3, hv => simp at hv | _ + 4, hv => simp at hv) ?_
          exact iho (p0 + 1) (by omega) (by omega) (fun q hq => hno q (by omega))
        · refine J_aload_n C 0 d_Mod_isFree_17 rfl rfl ?_
          refine J_get C f_Mod_70 (by decide) (e_76 _) rfl d_Mod_isFree_18 ?_
          refine J_iconst C d_Mod_isFree_21 (v := nI 3) rfl ?_
          refine J_iload_n C 2 d_Mod_isFree_22 rfl rfl ?_
          refine J_imulN C d_Mod_isFree_23 ?_
          refine J_iload_n C 3 d_Mod_isFree_24 rfl rfl ?_
          refine J_iaddN C d_Mod_isFree_25 ?_
          refine K_ial C a_85 (j := (3 * p0) + k0) rfl (by omega) d_Mod_isFree_26 ?_
          refine J_iload_n C 1 d_Mod_isFree_27 rfl rfl ?_
          refine J_icmp_ne C 33 d_Mod_isFree_28 (by decide) (fun hc28 => ?_) (fun hc28 => ?_)
          · refine J_iinc C d_Mod_isFree_33 rfl (v := nI (k0 + 1)) (nI_1 _) (by decide) rfl ?_
            refine J_goto C 12 d_Mod_isFree_36 (by decide) ?_
            exact ih (k0 + 1) (by omega) (by omega) (fun q hq => by rcases (show q < 3 * p0 + k0 ∨ q = 3 * p0 + k0 by omega) with h | h; exact hno q h; rw [h]; exact hc28)
          · refine J_iconst C d_Mod_isFree_31 (v := nI 0) rfl ?_
            exact P_zretE C hr (Or.inl rfl) ((h0 ⟨3 * p0 + k0, by omega, hc28⟩).symm) d_Mod_isFree_32
    refine J_iload_n C 2 d_Mod_isFree_2 rfl rfl ?_
    refine J_aload_n C 0 d_Mod_isFree_3 rfl rfl ?_
    refine J_get C f_Mod_58 (by decide) (e_76 _) rfl d_Mod_isFree_4 ?_
    refine J_val (y := nI cn) hcn ?_
    refine J_icmpN_ge C 45 d_Mod_isFree_7 (by decide) (by omega) (by omega) (fun hc7 => ?_) (fun hc7 => ?_)
    · refine J_iconst C d_Mod_isFree_45 (v := nI 1) rfl ?_
      exact P_zretE C hr (Or.inr rfl) ((h1 (fun q hq => hno q (by omega))).symm) d_Mod_isFree_46
    · refine J_iconst C d_Mod_isFree_10 (v := nI 0) rfl ?_
      refine J_istore_n C 3 d_Mod_isFree_11 rfl (by decide) rfl ?_
      exact lpi hc7 0 (by omega) (by omega) hno
  refine J_iconst C d_Mod_isFree_0 (v := nI 0) rfl ?_
  refine J_istore_n C 2 d_Mod_isFree_1 rfl (by decide) rfl ?_
  exact lp (cn + 1) 0 (by omega) (by omega) (fun q hq => absurd hq (by omega))

def cntF (u : Nat → Nat) : Nat → Nat
  | 0 => 0
  | k + 1 => cntF u k + u k
theorem cntF_le {u : Nat → Nat} (h : ∀ b, u b ≤ 1) (k : Nat) : cntF u k ≤ k := by
  induction k with
  | zero => exact Nat.le_refl _
  | succ k ih => unfold cntF; have := h k; omega
set_option maxHeartbeats 4000000 in
set_option maxRecDepth 100000 in
theorem pm_freeBlocks (l : Launch) (D : va_G) (dA : Nat → ClassId) (M : Mem) (cn : Nat) (u : Nat → Nat) (hcn : M 76 15 = nI cn) (hc24 : cn ≤ 24) (hu : ∀ b, u b ≤ 1) (hu1 : ∀ b, b < 24 → (∀ q, q < 3 * cn → ¬ M 85 q = nI b) → nI (u b) = 1) (hu0 : ∀ b, b < 24 → (∃ q, q < 3 * cn ∧ M 85 q = nI b) → nI (u b) = 0) : PT l D dA k_Mod_freeBlocks 1 90 [.ref 76] (E M) (.int (nI (cntF u 24))) := by
  refine PT.of (by decide +kernel) (Nat.le_of_ble_eq_true rfl) (by intro v hv; simp only [List.mem_cons, List.not_mem_nil, or_false] at hv; rcases hv with rfl <;> rfl) ?_
  intro A ad0 p e s m args below meth c C hr
  have lp : ∀ (fu : Nat) (k : Nat), 24 - k < fu → (k ≤ 24) → J D dA A (fun H locs => H = s.heap ∧ locs = []) ad0 90 k_Mod_freeBlocks.2.2.1 p l e (zR 1 0 0) s m args below meth c (MQ below (zQp ad0 (.int (nI (cntF u 24)))) args s 0 0 (fun _ => False)) 4 [some (.ref 76), some (.int (nI (cntF u k))), some (.int (nI k))] [] (E M) 90 0 0 := by
    intro fu
    induction fu with
    | zero => intro k hfu; exact absurd hfu (Nat.not_lt_zero _)
    | succ fu ih =>
      intro k hfu hk
      have ih2 : k < 24 → ∀ z : Nat, z = cntF u (k + 1) → J D dA A (fun H locs => H = s.heap ∧ locs = []) ad0 90 k_Mod_freeBlocks.2.2.1 p l e (zR 1 0 0) s m args below meth c (MQ below (zQp ad0 (.int (nI (cntF u 24)))) args s 0 0 (fun _ => False)) 4 [some (.ref 76), some (.int (nI z)), some (.int (nI (k + 1)))] [] (E M) 90 0 0 := fun hk2 z hz => by rw [hz]; exact ih (k + 1) (by omega) (by omega)
      refine J_iload_n C 2 d_Mod_freeBlocks_4 rfl rfl ?_
      refine J_bipush C d_Mod_freeBlocks_5 (v := nI 24) rfl ?_
      refine J_icmpN_ge C 32 d_Mod_freeBlocks_7 (by decide) (by omega) (by omega) (fun hc7 => ?_) (fun hc7 => ?_)
      · refine J_iload_n C 1 d_Mod_freeBlocks_32 rfl rfl ?_
        exact P_iretE C hr (by rw [show k = 24 by omega]) d_Mod_freeBlocks_33
      · refine J_iload_n C 1 d_Mod_freeBlocks_10 rfl rfl ?_
        refine J_aload_n C 0 d_Mod_freeBlocks_11 rfl rfl ?_
        refine J_iload_n C 2 d_Mod_freeBlocks_12 rfl rfl ?_
        refine P_callV C (as := [.int (nI k)]) (st := [.int (nI (cntF u k))]) (pm_isFree l D dA M cn (nI k) (nI (u k)) hcn hc24 (hu1 k (by omega)) (hu0 k (by omega))) l_Mod_98 v_Mod_isFree (by decide) (e_76 _) rfl (by decide) (by decide) (by decide) (Nat.le_of_ble_eq_true rfl) d_Mod_freeBlocks_13 (kk := ?_)
        have b1 := hu k
        have b2 := cntF_le hu k
        refine J_ifN_eq C 23 d_Mod_freeBlocks_16 (by decide) (by omega) (fun hc16 => ?_) (fun hc16 => ?_)
        · refine J_iconst C d_Mod_freeBlocks_23 (v := nI 0) rfl ?_
          refine J_iaddN C d_Mod_freeBlocks_24 ?_
          refine J_istore_n C 1 d_Mod_freeBlocks_25 rfl (by decide) rfl ?_
          refine J_iinc C d_Mod_freeBlocks_26 rfl (v := nI (k + 1)) (nI_1 _) (by decide) rfl ?_
          refine J_goto C 4 d_Mod_freeBlocks_29 (by decide) ?_
          exact ih2 hc7 _ (by show _ = cntF u k + u k; omega)
        · refine J_iconst C d_Mod_freeBlocks_19 (v := nI 1) rfl ?_
          refine J_goto C 24 d_Mod_freeBlocks_20 (by decide) ?_
          refine J_iaddN C d_Mod_freeBlocks_24 ?_
          refine J_istore_n C 1 d_Mod_freeBlocks_25 rfl (by decide) rfl ?_
          refine J_iinc C d_Mod_freeBlocks_26 rfl (v := nI (k + 1)) (nI_1 _) (by decide) rfl ?_
          refine J_goto C 4 d_Mod_freeBlocks_29 (by decide) ?_
          exact ih2 hc7 _ (by show _ = cntF u k + u k; omega)
  refine J_iconst C d_Mod_freeBlocks_0 (v := nI 0) rfl ?_
  refine J_istore_n C 1 d_Mod_freeBlocks_1 rfl (by decide) rfl ?_
  refine J_iconst C d_Mod_freeBlocks_2 (v := nI 0) rfl ?_
  refine J_istore_n C 2 d_Mod_freeBlocks_3 rfl (by decide) rfl ?_
  exact lp 25 0 (by omega) (by omega)
end
