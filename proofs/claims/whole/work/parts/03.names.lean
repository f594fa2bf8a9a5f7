def R_Orb : String := "RelayOrbiter"
def T_Orb : u_T := fun k => match k with
  | 0 => ("RelayOrbiter", "landerWindow", "LRelayOrbiter$Window;", true)
  | 1 => ("RelayOrbiter", "earthWindow", "LRelayOrbiter$Window;", true)
  | 2 => ("RelayOrbiter", "memory", "LRelayOrbiter$Store;", true)
  | 3 => ("RelayOrbiter", "session", "LRelayOrbiter$Session;", true)
  | 4 => ("RelayOrbiter", "landerLink", "LRelayOrbiter$LanderLink;", true)
  | 5 => ("RelayOrbiter", "earthLink", "LRelayOrbiter$EarthLink;", true)
  | _ => ("RelayOrbiter", "now", "I", false)
def ty_Orb : Nat → FieldType := fun k => match k with
  | 0 => .object "RelayOrbiter$Window"
  | 1 => .object "RelayOrbiter$Window"
  | 2 => .object "RelayOrbiter$Store"
  | 3 => .object "RelayOrbiter$Session"
  | 4 => .object "RelayOrbiter$LanderLink"
  | 5 => .object "RelayOrbiter$EarthLink"
  | _ => .int
theorem nm_Orb : ∀ a, a < 7 → ∀ b, b < 7 → a ≠ b → (T_Orb a).2.1 ≠ (T_Orb b).2.1 := by decide +kernel
theorem tk_Orb : ∀ k, k < 7 → parseFieldDescriptor (T_Orb k).2.2.1 = some (ty_Orb k) := by decide +kernel
def R_Win : String := "RelayOrbiter$Window"
def T_Win : u_T := fun k => match k with
  | 0 => ("RelayOrbiter$Window", "shift", "I", false)
  | 1 => ("RelayOrbiter$Window", "period", "I", false)
  | _ => ("RelayOrbiter$Window", "length", "I", false)
def ty_Win : Nat → FieldType := fun k => match k with
  | 0 => .int
  | 1 => .int
  | _ => .int
theorem nm_Win : ∀ a, a < 3 → ∀ b, b < 3 → a ≠ b → (T_Win a).2.1 ≠ (T_Win b).2.1 := by decide +kernel
theorem tk_Win : ∀ k, k < 3 → parseFieldDescriptor (T_Win k).2.2.1 = some (ty_Win k) := by decide +kernel
def R_Sto : String := "RelayOrbiter$Store"
def T_Sto : u_T := fun k => match k with
  | 0 => ("RelayOrbiter$Store", "bytes", "[I", true)
  | 1 => ("RelayOrbiter$Store", "used", "[Z", true)
  | 2 => ("RelayOrbiter$Store", "packets", "[LRelayOrbiter$Packet;", true)
  | 3 => ("RelayOrbiter$Store", "count", "I", false)
  | 4 => ("RelayOrbiter$Store", "freeBlocks", "I", false)
  | 5 => ("RelayOrbiter$Store", "nextNumber", "I", false)
  | 6 => ("RelayOrbiter$Store", "entries", "I", false)
  | 7 => ("RelayOrbiter$Store", "writes", "I", false)
  | 8 => ("RelayOrbiter$Store", "writesLeft", "I", false)
  | _ => ("RelayOrbiter$Store", "out", "Z", false)
def ty_Sto : Nat → FieldType := fun k => match k with
  | 0 => .array (.int)
  | 1 => .array (.boolean)
  | 2 => .array (.object "RelayOrbiter$Packet")
  | 3 => .int
  | 4 => .int
  | 5 => .int
  | 6 => .int
  | 7 => .int
  | 8 => .int
  | _ => .boolean
theorem nm_Sto : ∀ a, a < 10 → ∀ b, b < 10 → a ≠ b → (T_Sto a).2.1 ≠ (T_Sto b).2.1 := by decide +kernel
theorem tk_Sto : ∀ k, k < 10 → parseFieldDescriptor (T_Sto k).2.2.1 = some (ty_Sto k) := by decide +kernel
def R_Pkt : String := "RelayOrbiter$Packet"
def T_Pkt : u_T := fun k => match k with
  | 0 => ("RelayOrbiter$Packet", "blocks", "[I", true)
  | 1 => ("RelayOrbiter$Packet", "number", "I", false)
  | 2 => ("RelayOrbiter$Packet", "length", "I", false)
  | 3 => ("RelayOrbiter$Packet", "apid", "I", false)
  | _ => ("RelayOrbiter$Packet", "emitted", "I", false)
def ty_Pkt : Nat → FieldType := fun k => match k with
  | 0 => .array (.int)
  | 1 => .int
  | 2 => .int
  | 3 => .int
  | _ => .int
theorem nm_Pkt : ∀ a, a < 5 → ∀ b, b < 5 → a ≠ b → (T_Pkt a).2.1 ≠ (T_Pkt b).2.1 := by decide +kernel
theorem tk_Pkt : ∀ k, k < 5 → parseFieldDescriptor (T_Pkt k).2.2.1 = some (ty_Pkt k) := by decide +kernel
def R_Ses : String := "RelayOrbiter$Session"
def T_Ses : u_T := fun k => match k with
  | 0 => ("RelayOrbiter$Session", "memory", "LRelayOrbiter$Store;", true)
  | 1 => ("RelayOrbiter$Session", "harvest", "LRelayOrbiter$Harvest;", true)
  | 2 => ("RelayOrbiter$Session", "streams", "[LRelayOrbiter$Stream;", true)
  | 3 => ("RelayOrbiter$Session", "on", "Z", false)
  | 4 => ("RelayOrbiter$Session", "channel", "I", false)
  | 5 => ("RelayOrbiter$Session", "expected", "I", false)
  | 6 => ("RelayOrbiter$Session", "retransmit", "Z", false)
  | 7 => ("RelayOrbiter$Session", "expeditedCount", "I", false)
  | 8 => ("RelayOrbiter$Session", "touched", "LRelayOrbiter$Stream;", false)
  | _ => ("RelayOrbiter$Session", "touchedGoesOn", "Z", false)
def ty_Ses : Nat → FieldType := fun k => match k with
  | 0 => .object "RelayOrbiter$Store"
  | 1 => .object "RelayOrbiter$Harvest"
  | 2 => .array (.object "RelayOrbiter$Stream")
  | 3 => .boolean
  | 4 => .int
  | 5 => .int
  | 6 => .boolean
  | 7 => .int
  | 8 => .object "RelayOrbiter$Stream"
  | _ => .boolean
theorem nm_Ses : ∀ a, a < 10 → ∀ b, b < 10 → a ≠ b → (T_Ses a).2.1 ≠ (T_Ses b).2.1 := by decide +kernel
theorem tk_Ses : ∀ k, k < 10 → parseFieldDescriptor (T_Ses k).2.2.1 = some (ty_Ses k) := by decide +kernel
def R_Har : String := "RelayOrbiter$Harvest"
def T_Har : u_T := fun k => match k with
  | 0 => ("RelayOrbiter$Harvest", "row", "[I", true)
  | 1 => ("RelayOrbiter$Harvest", "starts", "[I", true)
  | 2 => ("RelayOrbiter$Harvest", "lengths", "[I", true)
  | 3 => ("RelayOrbiter$Harvest", "length", "I", false)
  | _ => ("RelayOrbiter$Harvest", "count", "I", false)
def ty_Har : Nat → FieldType := fun k => match k with
  | 0 => .array (.int)
  | 1 => .array (.int)
  | 2 => .array (.int)
  | 3 => .int
  | _ => .int
theorem nm_Har : ∀ a, a < 5 → ∀ b, b < 5 → a ≠ b → (T_Har a).2.1 ≠ (T_Har b).2.1 := by decide +kernel
theorem tk_Har : ∀ k, k < 5 → parseFieldDescriptor (T_Har k).2.2.1 = some (ty_Har k) := by decide +kernel
def R_Str : String := "RelayOrbiter$Stream"
def T_Str : u_T := fun k => match k with
  | 0 => ("RelayOrbiter$Stream", "part", "[I", true)
  | 1 => ("RelayOrbiter$Stream", "length", "I", false)
  | _ => ("RelayOrbiter$Stream", "begun", "Z", false)
def ty_Str : Nat → FieldType := fun k => match k with
  | 0 => .array (.int)
  | 1 => .int
  | _ => .boolean
theorem nm_Str : ∀ a, a < 3 → ∀ b, b < 3 → a ≠ b → (T_Str a).2.1 ≠ (T_Str b).2.1 := by decide +kernel
theorem tk_Str : ∀ k, k < 3 → parseFieldDescriptor (T_Str k).2.2.1 = some (ty_Str k) := by decide +kernel
def R_Lan : String := "RelayOrbiter$LanderLink"
def T_Lan : u_T := fun k => match k with
  | 0 => ("RelayOrbiter$LanderLink", "row", "[I", true)
  | 1 => ("RelayOrbiter$LanderLink", "frame", "LRelayOrbiter$Frame;", true)
  | _ => ("RelayOrbiter$LanderLink", "length", "I", false)
def ty_Lan : Nat → FieldType := fun k => match k with
  | 0 => .array (.int)
  | 1 => .object "RelayOrbiter$Frame"
  | _ => .int
theorem nm_Lan : ∀ a, a < 3 → ∀ b, b < 3 → a ≠ b → (T_Lan a).2.1 ≠ (T_Lan b).2.1 := by decide +kernel
theorem tk_Lan : ∀ k, k < 3 → parseFieldDescriptor (T_Lan k).2.2.1 = some (ty_Lan k) := by decide +kernel
def R_Frm : String := "RelayOrbiter$Frame"
def T_Frm : u_T := fun k => match k with
  | 0 => ("RelayOrbiter$Frame", "bytes", "[I", true)
  | _ => ("RelayOrbiter$Frame", "length", "I", false)
def ty_Frm : Nat → FieldType := fun k => match k with
  | 0 => .array (.int)
  | _ => .int
theorem nm_Frm : ∀ a, a < 2 → ∀ b, b < 2 → a ≠ b → (T_Frm a).2.1 ≠ (T_Frm b).2.1 := by decide +kernel
theorem tk_Frm : ∀ k, k < 2 → parseFieldDescriptor (T_Frm k).2.2.1 = some (ty_Frm k) := by decide +kernel
def R_Ear : String := "RelayOrbiter$EarthLink"
def T_Ear : u_T := fun k => match k with
  | 0 => ("RelayOrbiter$EarthLink", "frame", "[I", true)
  | 1 => ("RelayOrbiter$EarthLink", "counts", "[I", true)
  | _ => ("RelayOrbiter$EarthLink", "any", "Z", false)
def ty_Ear : Nat → FieldType := fun k => match k with
  | 0 => .array (.int)
  | 1 => .array (.int)
  | _ => .boolean
theorem nm_Ear : ∀ a, a < 3 → ∀ b, b < 3 → a ≠ b → (T_Ear a).2.1 ≠ (T_Ear b).2.1 := by decide +kernel
theorem tk_Ear : ∀ k, k < 3 → parseFieldDescriptor (T_Ear k).2.2.1 = some (ty_Ear k) := by decide +kernel
def R_Mod : String := "RelayOrbiterModel"
def T_Mod : u_T := fun k => match k with
  | 0 => ("RelayOrbiterModel", "thrownCode", "I", false)
  | 1 => ("RelayOrbiterModel", "now", "I", false)
  | 2 => ("RelayOrbiterModel", "windows", "[I", true)
  | 3 => ("RelayOrbiterModel", "isOut", "Z", false)
  | 4 => ("RelayOrbiterModel", "failIn", "I", false)
  | 5 => ("RelayOrbiterModel", "wait", "[I", true)
  | 6 => ("RelayOrbiterModel", "waiting", "I", false)
  | 7 => ("RelayOrbiterModel", "on", "Z", false)
  | 8 => ("RelayOrbiterModel", "channel", "I", false)
  | 9 => ("RelayOrbiterModel", "v", "I", false)
  | 10 => ("RelayOrbiterModel", "flag", "I", false)
  | 11 => ("RelayOrbiterModel", "count", "I", false)
  | 12 => ("RelayOrbiterModel", "begun", "[Z", true)
  | 13 => ("RelayOrbiterModel", "parts", "[I", true)
  | 14 => ("RelayOrbiterModel", "part", "[I", true)
  | 15 => ("RelayOrbiterModel", "packets", "I", false)
  | 16 => ("RelayOrbiterModel", "number", "[I", true)
  | 17 => ("RelayOrbiterModel", "length", "[I", true)
  | 18 => ("RelayOrbiterModel", "bytes", "[I", true)
  | 19 => ("RelayOrbiterModel", "blocks", "[I", true)
  | 20 => ("RelayOrbiterModel", "emitted", "[I", true)
  | 21 => ("RelayOrbiterModel", "nextNumber", "I", false)
  | 22 => ("RelayOrbiterModel", "entries", "I", false)
  | 23 => ("RelayOrbiterModel", "writes", "I", false)
  | 24 => ("RelayOrbiterModel", "frame", "[I", true)
  | 25 => ("RelayOrbiterModel", "framed", "Z", false)
  | _ => ("RelayOrbiterModel", "frames", "[I", true)
def ty_Mod : Nat → FieldType := fun k => match k with
  | 0 => .int
  | 1 => .int
  | 2 => .array (.int)
  | 3 => .boolean
  | 4 => .int
  | 5 => .array (.int)
  | 6 => .int
  | 7 => .boolean
  | 8 => .int
  | 9 => .int
  | 10 => .int
  | 11 => .int
  | 12 => .array (.boolean)
  | 13 => .array (.int)
  | 14 => .array (.int)
  | 15 => .int
  | 16 => .array (.int)
  | 17 => .array (.int)
  | 18 => .array (.int)
  | 19 => .array (.int)
  | 20 => .array (.int)
  | 21 => .int
  | 22 => .int
  | 23 => .int
  | 24 => .array (.int)
  | 25 => .boolean
  | _ => .array (.int)
theorem nm_Mod : ∀ a, a < 27 → ∀ b, b < 27 → a ≠ b → (T_Mod a).2.1 ≠ (T_Mod b).2.1 := by decide +kernel
theorem tk_Mod : ∀ k, k < 27 → parseFieldDescriptor (T_Mod k).2.2.1 = some (ty_Mod k) := by decide +kernel
def R_Law : String := "RelayOrbiterLaw"
def cls : List vw_C := [(R_Orb, T_Orb, 7), (R_Win, T_Win, 3), (R_Sto, T_Sto, 10), (R_Pkt, T_Pkt, 5), (R_Ses, T_Ses, 10), (R_Har, T_Har, 5), (R_Str, T_Str, 3), (R_Lan, T_Lan, 3), (R_Frm, T_Frm, 2), (R_Ear, T_Ear, 3), (R_Mod, T_Mod, 27)]
def zNest : Cond → Bool
  | .fieldLinkNest .. => true
  | .methodLinkNest .. => true
  | _ => false
def zCast : Cond → Bool
  | .castable .. => true
  | .declares _ => true
  | .not (.castable ..) => true
  | .arrayOver (.object _) => true
  | _ => false
def zOk (w : Cond) : Bool := goodWord w || zNest w || zCast w
def zNC : List Cond := [.not (.castable "java/lang/IllegalArgumentException" "java/lang/UnsupportedOperationException"), .not (.castable "java/lang/IllegalStateException" "java/lang/UnsupportedOperationException"), .not (.castable "java/lang/IllegalStateException" "java/lang/IllegalArgumentException"), .not (.castable "java/lang/IllegalArgumentException" "java/lang/IndexOutOfBoundsException")]
def tb : List Cond := (lw_tbl ++ zNC).filter zOk
theorem tb_ok {w : Cond} (h : w ∈ tb) : zOk w = true := (List.mem_filter.mp h).2
theorem tb_in {w : Cond} (i : Nat) (h : (lw_tbl ++ zNC)[i]? = some w) (hk : zOk w = true) : w ∈ tb := List.mem_filter.mpr ⟨List.mem_of_getElem? h, hk⟩
