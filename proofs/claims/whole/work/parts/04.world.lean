def T_P : u_T := fun k => match k with
  | 0 => ("SecurePair", "client", "LSecurePair$Client;", true)
  | _ => ("SecurePair", "server", "LSecurePair$Server;", true)
def t_P : Nat → FieldType := fun k => match k with
  | 0 => .object "SecurePair$Client"
  | _ => .object "SecurePair$Server"
theorem n_P : ∀ a, a < 2 → ∀ b, b < 2 → a ≠ b → (T_P a).2.1 ≠ (T_P b).2.1 := by decide +kernel
theorem t_P_ok : ∀ k, k < 2 → parseFieldDescriptor (T_P k).2.2.1 = some (t_P k) := by decide +kernel
theorem in_P : ∀ w ∈ u_ws "SecurePair" T_P 2, w ∈ xa := xa_u [331, 333] (by decide +kernel) (by decide +kernel)
def T_Line : u_T := fun k => match k with
  | 0 => ("SecurePair$Line", "rows", "[J", true)
  | _ => ("SecurePair$Line", "size", "I", false)
def t_Line : Nat → FieldType := fun k => match k with
  | 0 => .array .long
  | _ => .int
theorem n_Line : ∀ a, a < 2 → ∀ b, b < 2 → a ≠ b → (T_Line a).2.1 ≠ (T_Line b).2.1 := by decide +kernel
theorem t_Line_ok : ∀ k, k < 2 → parseFieldDescriptor (T_Line k).2.2.1 = some (t_Line k) := by decide +kernel
theorem in_Line : ∀ w ∈ u_ws "SecurePair$Line" T_Line 2, w ∈ xa := xa_u [39, 41] (by decide +kernel) (by decide +kernel)
def T_Packet : u_T := fun k => match k with
  | 0 => ("SecurePair$Packet", "kind", "I", false)
  | 1 => ("SecurePair$Packet", "w", "J", false)
  | 2 => ("SecurePair$Packet", "x", "J", false)
  | 3 => ("SecurePair$Packet", "y", "J", false)
  | 4 => ("SecurePair$Packet", "z", "J", false)
  | _ => ("SecurePair$Packet", "tag", "J", false)
def t_Packet : Nat → FieldType := fun k => match k with
  | 0 => .int
  | 1 => .long
  | 2 => .long
  | 3 => .long
  | 4 => .long
  | _ => .long
theorem n_Packet : ∀ a, a < 6 → ∀ b, b < 6 → a ≠ b → (T_Packet a).2.1 ≠ (T_Packet b).2.1 := by decide +kernel
theorem t_Packet_ok : ∀ k, k < 6 → parseFieldDescriptor (T_Packet k).2.2.1 = some (t_Packet k) := by decide +kernel
theorem in_Packet : ∀ w ∈ u_ws "SecurePair$Packet" T_Packet 6, w ∈ xa := xa_u [83, 85, 87, 89, 91, 93] (by decide +kernel) (by decide +kernel)
def T_Keys : u_T := fun k => match k with
  | 0 => ("SecurePair$Keys", "present", "Z", false)
  | 1 => ("SecurePair$Keys", "cipherKey", "J", false)
  | 2 => ("SecurePair$Keys", "tagKey", "J", false)
  | 3 => ("SecurePair$Keys", "cipher", "I", false)
  | 4 => ("SecurePair$Keys", "tagKind", "I", false)
  | _ => ("SecurePair$Keys", "number", "I", false)
def t_Keys : Nat → FieldType := fun k => match k with
  | 0 => .boolean
  | 1 => .long
  | 2 => .long
  | 3 => .int
  | 4 => .int
  | _ => .int
theorem n_Keys : ∀ a, a < 6 → ∀ b, b < 6 → a ≠ b → (T_Keys a).2.1 ≠ (T_Keys b).2.1 := by decide +kernel
theorem t_Keys_ok : ∀ k, k < 6 → parseFieldDescriptor (T_Keys k).2.2.1 = some (t_Keys k) := by decide +kernel
theorem in_Keys : ∀ w ∈ u_ws "SecurePair$Keys" T_Keys 6, w ∈ xa := xa_u [113, 115, 117, 119, 121, 123] (by decide +kernel) (by decide +kernel)
def T_Init : u_T := fun k => match k with
  | 0 => ("SecurePair$Init", "count", "J", false)
  | 1 => ("SecurePair$Init", "ciphers", "J", false)
  | _ => ("SecurePair$Init", "tags", "J", false)
def t_Init : Nat → FieldType := fun k => match k with
  | 0 => .long
  | 1 => .long
  | _ => .long
theorem n_Init : ∀ a, a < 3 → ∀ b, b < 3 → a ≠ b → (T_Init a).2.1 ≠ (T_Init b).2.1 := by decide +kernel
theorem t_Init_ok : ∀ k, k < 3 → parseFieldDescriptor (T_Init k).2.2.1 = some (t_Init k) := by decide +kernel
theorem in_Init : ∀ w ∈ u_ws "SecurePair$Init" T_Init 3, w ∈ xa := xa_u [144, 146, 148] (by decide +kernel) (by decide +kernel)
def T_Exchange : u_T := fun k => match k with
  | 0 => ("SecurePair$Exchange", "ofClient", "LSecurePair$Init;", true)
  | 1 => ("SecurePair$Exchange", "ofServer", "LSecurePair$Init;", true)
  | 2 => ("SecurePair$Exchange", "secret", "J", false)
  | 3 => ("SecurePair$Exchange", "cipher", "I", false)
  | 4 => ("SecurePair$Exchange", "tagKind", "I", false)
  | 5 => ("SecurePair$Exchange", "common", "J", false)
  | _ => ("SecurePair$Exchange", "hash", "J", false)
def t_Exchange : Nat → FieldType := fun k => match k with
  | 0 => .object "SecurePair$Init"
  | 1 => .object "SecurePair$Init"
  | 2 => .long
  | 3 => .int
  | 4 => .int
  | 5 => .long
  | _ => .long
theorem n_Exchange : ∀ a, a < 7 → ∀ b, b < 7 → a ≠ b → (T_Exchange a).2.1 ≠ (T_Exchange b).2.1 := by decide +kernel
theorem t_Exchange_ok : ∀ k, k < 7 → parseFieldDescriptor (T_Exchange k).2.2.1 = some (t_Exchange k) := by decide +kernel
theorem in_Exchange : ∀ w ∈ u_ws "SecurePair$Exchange" T_Exchange 7, w ∈ xa := xa_u [168, 170, 172, 174, 176, 178, 180] (by decide +kernel) (by decide +kernel)
def T_Channel : u_T := fun k => match k with
  | 0 => ("SecurePair$Channel", "index", "I", true)
  | 1 => ("SecurePair$Channel", "inbox", "[I", true)
  | 2 => ("SecurePair$Channel", "state", "I", false)
  | 3 => ("SecurePair$Channel", "peer", "J", false)
  | 4 => ("SecurePair$Channel", "window", "J", false)
  | 5 => ("SecurePair$Channel", "room", "I", false)
  | 6 => ("SecurePair$Channel", "first", "I", false)
  | 7 => ("SecurePair$Channel", "held", "I", false)
  | _ => ("SecurePair$Channel", "readSinceWindow", "I", false)
def t_Channel : Nat → FieldType := fun k => match k with
  | 0 => .int
  | 1 => .array .int
  | 2 => .int
  | 3 => .long
  | 4 => .long
  | 5 => .int
  | 6 => .int
  | 7 => .int
  | _ => .int
theorem n_Channel : ∀ a, a < 9 → ∀ b, b < 9 → a ≠ b → (T_Channel a).2.1 ≠ (T_Channel b).2.1 := by decide +kernel
theorem t_Channel_ok : ∀ k, k < 9 → parseFieldDescriptor (T_Channel k).2.2.1 = some (t_Channel k) := by decide +kernel
theorem in_Channel : ∀ w ∈ u_ws "SecurePair$Channel" T_Channel 9, w ∈ xa := xa_u [207, 209, 211, 213, 215, 217, 219, 221, 223] (by decide +kernel) (by decide +kernel)
def T_Client : u_T := fun k => match k with
  | 0 => ("SecurePair$Endpoint", "arriving", "LSecurePair$Line;", true)
  | 1 => ("SecurePair$Endpoint", "departing", "LSecurePair$Line;", true)
  | 2 => ("SecurePair$Endpoint", "direction", "I", true)
  | 3 => ("SecurePair$Endpoint", "taken", "LSecurePair$Packet;", true)
  | 4 => ("SecurePair$Endpoint", "made", "LSecurePair$Packet;", true)
  | 5 => ("SecurePair$Endpoint", "incoming", "LSecurePair$Keys;", true)
  | 6 => ("SecurePair$Endpoint", "outgoing", "LSecurePair$Keys;", true)
  | 7 => ("SecurePair$Endpoint", "exchange", "LSecurePair$Exchange;", true)
  | 8 => ("SecurePair$Endpoint", "channels", "[LSecurePair$Channel;", true)
  | 9 => ("SecurePair$Endpoint", "phase", "I", false)
  | 10 => ("SecurePair$Endpoint", "reason", "J", false)
  | 11 => ("SecurePair$Endpoint", "ciphers", "I", false)
  | 12 => ("SecurePair$Endpoint", "tags", "I", false)
  | 13 => ("SecurePair$Endpoint", "nextSecret", "I", false)
  | 14 => ("SecurePair$Endpoint", "initsSent", "I", false)
  | 15 => ("SecurePair$Endpoint", "hasSession", "Z", false)
  | 16 => ("SecurePair$Endpoint", "session", "J", false)
  | _ => ("SecurePair$Client", "trusted", "I", false)
def t_Client : Nat → FieldType := fun k => match k with
  | 0 => .object "SecurePair$Line"
  | 1 => .object "SecurePair$Line"
  | 2 => .int
  | 3 => .object "SecurePair$Packet"
  | 4 => .object "SecurePair$Packet"
  | 5 => .object "SecurePair$Keys"
  | 6 => .object "SecurePair$Keys"
  | 7 => .object "SecurePair$Exchange"
  | 8 => .array (.object "SecurePair$Channel")
  | 9 => .int
  | 10 => .long
  | 11 => .int
  | 12 => .int
  | 13 => .int
  | 14 => .int
  | 15 => .boolean
  | 16 => .long
  | _ => .int
theorem n_Client : ∀ a, a < 18 → ∀ b, b < 18 → a ≠ b → (T_Client a).2.1 ≠ (T_Client b).2.1 := by decide +kernel
theorem t_Client_ok : ∀ k, k < 18 → parseFieldDescriptor (T_Client k).2.2.1 = some (t_Client k) := by decide +kernel
theorem in_Client : ∀ w ∈ u_ws "SecurePair$Client" T_Client 18, w ∈ xa := xa_u [266, 268, 270, 272, 274, 276, 278, 280, 282, 284, 286, 288, 290, 292, 294, 296, 298, 264] (by decide +kernel) (by decide +kernel)
def T_Server : u_T := fun k => match k with
  | 0 => ("SecurePair$Endpoint", "arriving", "LSecurePair$Line;", true)
  | 1 => ("SecurePair$Endpoint", "departing", "LSecurePair$Line;", true)
  | 2 => ("SecurePair$Endpoint", "direction", "I", true)
  | 3 => ("SecurePair$Endpoint", "taken", "LSecurePair$Packet;", true)
  | 4 => ("SecurePair$Endpoint", "made", "LSecurePair$Packet;", true)
  | 5 => ("SecurePair$Endpoint", "incoming", "LSecurePair$Keys;", true)
  | 6 => ("SecurePair$Endpoint", "outgoing", "LSecurePair$Keys;", true)
  | 7 => ("SecurePair$Endpoint", "exchange", "LSecurePair$Exchange;", true)
  | 8 => ("SecurePair$Endpoint", "channels", "[LSecurePair$Channel;", true)
  | 9 => ("SecurePair$Endpoint", "phase", "I", false)
  | 10 => ("SecurePair$Endpoint", "reason", "J", false)
  | 11 => ("SecurePair$Endpoint", "ciphers", "I", false)
  | 12 => ("SecurePair$Endpoint", "tags", "I", false)
  | 13 => ("SecurePair$Endpoint", "nextSecret", "I", false)
  | 14 => ("SecurePair$Endpoint", "initsSent", "I", false)
  | 15 => ("SecurePair$Endpoint", "hasSession", "Z", false)
  | 16 => ("SecurePair$Endpoint", "session", "J", false)
  | _ => ("SecurePair$Server", "hostSecret", "I", false)
def t_Server : Nat → FieldType := fun k => match k with
  | 0 => .object "SecurePair$Line"
  | 1 => .object "SecurePair$Line"
  | 2 => .int
  | 3 => .object "SecurePair$Packet"
  | 4 => .object "SecurePair$Packet"
  | 5 => .object "SecurePair$Keys"
  | 6 => .object "SecurePair$Keys"
  | 7 => .object "SecurePair$Exchange"
  | 8 => .array (.object "SecurePair$Channel")
  | 9 => .int
  | 10 => .long
  | 11 => .int
  | 12 => .int
  | 13 => .int
  | 14 => .int
  | 15 => .boolean
  | 16 => .long
  | _ => .int
theorem n_Server : ∀ a, a < 18 → ∀ b, b < 18 → a ≠ b → (T_Server a).2.1 ≠ (T_Server b).2.1 := by decide +kernel
theorem t_Server_ok : ∀ k, k < 18 → parseFieldDescriptor (T_Server k).2.2.1 = some (t_Server k) := by decide +kernel
theorem in_Server : ∀ w ∈ u_ws "SecurePair$Server" T_Server 18, w ∈ xa := xa_u [311, 312, 313, 314, 315, 316, 317, 318, 319, 320, 321, 322, 323, 324, 325, 326, 327, 309] (by decide +kernel) (by decide +kernel)
def T_Model : u_T := fun k => match k with
  | 0 => ("SecurePairModel", "thrown", "I", false)
  | 1 => ("SecurePairModel", "ciphers", "[I", true)
  | 2 => ("SecurePairModel", "tags", "[I", true)
  | 3 => ("SecurePairModel", "secrets", "[I", true)
  | 4 => ("SecurePairModel", "hostSecret", "J", false)
  | 5 => ("SecurePairModel", "trusted", "I", false)
  | 6 => ("SecurePairModel", "phase", "[I", true)
  | 7 => ("SecurePairModel", "reason", "[J", true)
  | 8 => ("SecurePairModel", "inits", "[I", true)
  | 9 => ("SecurePairModel", "sent", "[I", true)
  | 10 => ("SecurePairModel", "heard", "[I", true)
  | 11 => ("SecurePairModel", "session", "[J", true)
  | 12 => ("SecurePairModel", "hasSession", "[Z", true)
  | 13 => ("SecurePairModel", "turned", "[Z", true)
  | 14 => ("SecurePairModel", "offered", "[J", true)
  | 15 => ("SecurePairModel", "inUse", "[J", true)
  | 16 => ("SecurePairModel", "clientShare", "[J", true)
  | 17 => ("SecurePairModel", "chosenCipher", "[I", true)
  | 18 => ("SecurePairModel", "chosenTag", "[I", true)
  | 19 => ("SecurePairModel", "keyed", "[Z", true)
  | 20 => ("SecurePairModel", "cipherKey", "[J", true)
  | 21 => ("SecurePairModel", "tagKey", "[J", true)
  | 22 => ("SecurePairModel", "cipher", "[I", true)
  | 23 => ("SecurePairModel", "tagKind", "[I", true)
  | 24 => ("SecurePairModel", "nextCipherKey", "[J", true)
  | 25 => ("SecurePairModel", "nextTagKey", "[J", true)
  | 26 => ("SecurePairModel", "lines", "[I", true)
  | 27 => ("SecurePairModel", "kind", "[I", true)
  | 28 => ("SecurePairModel", "word", "[J", true)
  | 29 => ("SecurePairModel", "tag", "[J", true)
  | 30 => ("SecurePairModel", "stage", "[I", true)
  | 31 => ("SecurePairModel", "peer", "[J", true)
  | 32 => ("SecurePairModel", "window", "[J", true)
  | 33 => ("SecurePairModel", "room", "[I", true)
  | 34 => ("SecurePairModel", "many", "[I", true)
  | 35 => ("SecurePairModel", "taken", "[I", true)
  | _ => ("SecurePairModel", "inbox", "[I", true)
def t_Model : Nat → FieldType := fun k => match k with
  | 0 => .int
  | 1 => .array .int
  | 2 => .array .int
  | 3 => .array .int
  | 4 => .long
  | 5 => .int
  | 6 => .array .int
  | 7 => .array .long
  | 8 => .array .int
  | 9 => .array .int
  | 10 => .array .int
  | 11 => .array .long
  | 12 => .array .boolean
  | 13 => .array .boolean
  | 14 => .array .long
  | 15 => .array .long
  | 16 => .array .long
  | 17 => .array .int
  | 18 => .array .int
  | 19 => .array .boolean
  | 20 => .array .long
  | 21 => .array .long
  | 22 => .array .int
  | 23 => .array .int
  | 24 => .array .long
  | 25 => .array .long
  | 26 => .array .int
  | 27 => .array .int
  | 28 => .array .long
  | 29 => .array .long
  | 30 => .array .int
  | 31 => .array .long
  | 32 => .array .long
  | 33 => .array .int
  | 34 => .array .int
  | 35 => .array .int
  | _ => .array .int
theorem n_Model : ∀ a, a < 37 → ∀ b, b < 37 → a ≠ b → (T_Model a).2.1 ≠ (T_Model b).2.1 := by decide +kernel
theorem t_Model_ok : ∀ k, k < 37 → parseFieldDescriptor (T_Model k).2.2.1 = some (t_Model k) := by decide +kernel
theorem in_Model : ∀ w ∈ u_ws "SecurePairModel" T_Model 37, w ∈ xa := xa_u [989, 991, 993, 995, 997, 999, 1001, 1003, 1005, 1007, 1009, 1011, 1013, 1015, 1017, 1019, 1021, 1023, 1025, 1027, 1029, 1031, 1033, 1035, 1037, 1039, 1041, 1043, 1045, 1047, 1049, 1051, 1053, 1055, 1057, 1059, 1061] (by decide +kernel) (by decide +kernel)
abbrev xC : List vw_C := [("SecurePair", T_P, 2), ("SecurePair$Line", T_Line, 2), ("SecurePair$Packet", T_Packet, 6), ("SecurePair$Keys", T_Keys, 6), ("SecurePair$Init", T_Init, 3), ("SecurePair$Exchange", T_Exchange, 7), ("SecurePair$Channel", T_Channel, 9), ("SecurePair$Client", T_Client, 18), ("SecurePair$Server", T_Server, 18), ("SecurePairModel", T_Model, 37)]
def sp_lnA (B : Nat) : Nat := if B = 5 then 1 else 2
def sp_lnD (B : Nat) : Nat := if B = 5 then 2 else 1
abbrev sp_isP (K : Nat) : Prop := K = 0
abbrev sp_isLine (K : Nat) : Prop := K = 1 ∨ K = 2
abbrev sp_isrows (K : Nat) : Prop := K = 3 ∨ K = 4
abbrev sp_isEndpoint (K : Nat) : Prop := K = 5 ∨ K = 20
abbrev sp_isPacket (K : Nat) : Prop := K = 6 ∨ K = 7 ∨ K = 21 ∨ K = 22
abbrev sp_isKeys (K : Nat) : Prop := K = 8 ∨ K = 9 ∨ K = 23 ∨ K = 24
abbrev sp_isExchange (K : Nat) : Prop := K = 10 ∨ K = 25
abbrev sp_isInit (K : Nat) : Prop := K = 11 ∨ K = 12 ∨ K = 26 ∨ K = 27
abbrev sp_ischArr (K : Nat) : Prop := K = 13 ∨ K = 28
abbrev sp_isChannel (K : Nat) : Prop := K = 14 ∨ K = 15 ∨ K = 16 ∨ K = 29 ∨ K = 30 ∨ K = 31
abbrev sp_isinbox (K : Nat) : Prop := K = 17 ∨ K = 18 ∨ K = 19 ∨ K = 32 ∨ K = 33 ∨ K = 34
abbrev sp_isClient (K : Nat) : Prop := K = 5
abbrev sp_isServer (K : Nat) : Prop := K = 20
theorem sp_lnA_is {B : Nat} (h : sp_isEndpoint B) : sp_isLine (sp_lnA B) := by rcases h with rfl | rfl <;> decide
theorem sp_lnD_is {B : Nat} (h : sp_isEndpoint B) : sp_isLine (sp_lnD B) := by rcases h with rfl | rfl <;> decide
theorem sp_ln_ne {B : Nat} (h : sp_isEndpoint B) : sp_lnA B ≠ sp_lnD B := by rcases h with rfl | rfl <;> decide
def sp_cP (α : Nat → Nat) (K : Nat) (i : Nat → Int32) (l : Nat → Int64) : List Value := [.ref (α (5)), .ref (α (20))]
def sp_cLine (α : Nat → Nat) (K : Nat) (i : Nat → Int32) (l : Nat → Int64) : List Value := [.ref (α (K + 2)), .int (i 1)]
def sp_cPacket (α : Nat → Nat) (K : Nat) (i : Nat → Int32) (l : Nat → Int64) : List Value := [.int (i 0), .long (l 1), .long (l 2), .long (l 3), .long (l 4), .long (l 5)]
def sp_cKeys (α : Nat → Nat) (K : Nat) (i : Nat → Int32) (l : Nat → Int64) : List Value := [.int (i 0), .long (l 1), .long (l 2), .int (i 3), .int (i 4), .int (i 5)]
def sp_cInit (α : Nat → Nat) (K : Nat) (i : Nat → Int32) (l : Nat → Int64) : List Value := [.long (l 0), .long (l 1), .long (l 2)]
def sp_cExchange (α : Nat → Nat) (K : Nat) (i : Nat → Int32) (l : Nat → Int64) : List Value := [.ref (α (K + 1)), .ref (α (K + 2)), .long (l 2), .int (i 3), .int (i 4), .long (l 5), .long (l 6)]
def sp_cChannel (α : Nat → Nat) (K : Nat) (i : Nat → Int32) (l : Nat → Int64) : List Value := [.int (i 0), .ref (α (K + 3)), .int (i 2), .long (l 3), .long (l 4), .int (i 5), .int (i 6), .int (i 7), .int (i 8)]
def sp_cEndpoint (α : Nat → Nat) (K : Nat) (i : Nat → Int32) (l : Nat → Int64) : List Value := [.ref (α (sp_lnA K)), .ref (α (sp_lnD K)), .int (i 2), .ref (α (K + 1)), .ref (α (K + 2)), .ref (α (K + 3)), .ref (α (K + 4)), .ref (α (K + 5)), .ref (α (K + 8)), .int (i 9), .long (l 10), .int (i 11), .int (i 12), .int (i 13), .int (i 14), .int (i 15), .long (l 16), .int (i 17)]
def sp_w (α : Nat → Nat) (κ : Nat → ClassId) (σ : xb_St) : va_W := [(α 0, .inr (0, sp_cP α 0 (σ.1 0) (σ.2 0))), (α 1, .inr (1, sp_cLine α 1 (σ.1 1) (σ.2 1))), (α 2, .inr (1, sp_cLine α 2 (σ.1 2) (σ.2 2))), (α 3, .inl (κ 3, 96, .inr (.inl (σ.2 3)))), (α 4, .inl (κ 4, 96, .inr (.inl (σ.2 4)))), (α 5, .inr (7, sp_cEndpoint α 5 (σ.1 5) (σ.2 5))), (α 6, .inr (2, sp_cPacket α 6 (σ.1 6) (σ.2 6))), (α 7, .inr (2, sp_cPacket α 7 (σ.1 7) (σ.2 7))), (α 8, .inr (3, sp_cKeys α 8 (σ.1 8) (σ.2 8))), (α 9, .inr (3, sp_cKeys α 9 (σ.1 9) (σ.2 9))), (α 10, .inr (5, sp_cExchange α 10 (σ.1 10) (σ.2 10))), (α 11, .inr (4, sp_cInit α 11 (σ.1 11) (σ.2 11))), (α 12, .inr (4, sp_cInit α 12 (σ.1 12) (σ.2 12))), (α 13, .inl (κ 13, 3, .inr (.inr (.inr (.inr (fun j => some (α (13 + 1 + j)))))))), (α 14, .inr (6, sp_cChannel α 14 (σ.1 14) (σ.2 14))), (α 15, .inr (6, sp_cChannel α 15 (σ.1 15) (σ.2 15))), (α 16, .inr (6, sp_cChannel α 16 (σ.1 16) (σ.2 16))), (α 17, .inl (κ 17, 24, .inl (σ.1 17))), (α 18, .inl (κ 18, 24, .inl (σ.1 18))), (α 19, .inl (κ 19, 24, .inl (σ.1 19))), (α 20, .inr (8, sp_cEndpoint α 20 (σ.1 20) (σ.2 20))), (α 21, .inr (2, sp_cPacket α 21 (σ.1 21) (σ.2 21))), (α 22, .inr (2, sp_cPacket α 22 (σ.1 22) (σ.2 22))), (α 23, .inr (3, sp_cKeys α 23 (σ.1 23) (σ.2 23))), (α 24, .inr (3, sp_cKeys α 24 (σ.1 24) (σ.2 24))), (α 25, .inr (5, sp_cExchange α 25 (σ.1 25) (σ.2 25))), (α 26, .inr (4, sp_cInit α 26 (σ.1 26) (σ.2 26))), (α 27, .inr (4, sp_cInit α 27 (σ.1 27) (σ.2 27))), (α 28, .inl (κ 28, 3, .inr (.inr (.inr (.inr (fun j => some (α (28 + 1 + j)))))))), (α 29, .inr (6, sp_cChannel α 29 (σ.1 29) (σ.2 29))), (α 30, .inr (6, sp_cChannel α 30 (σ.1 30) (σ.2 30))), (α 31, .inr (6, sp_cChannel α 31 (σ.1 31) (σ.2 31))), (α 32, .inl (κ 32, 24, .inl (σ.1 32))), (α 33, .inl (κ 33, 24, .inl (σ.1 33))), (α 34, .inl (κ 34, 24, .inl (σ.1 34)))]
def sp_t (κ : Nat → ClassId) : List (ClassId × FieldType) := [(κ 3, .long), (κ 4, .long), (κ 13, .object "SecurePair$Channel"), (κ 28, .object "SecurePair$Channel"), (κ 17, .int), (κ 18, .int), (κ 19, .int), (κ 32, .int), (κ 33, .int), (κ 34, .int)]
theorem sp_D {α : Nat → Nat} (hα : xb_inj α 35) (κ : Nat → ClassId) (σ : xb_St) : va_D (xb_A α 35) (sp_w α κ σ) := xb_D hα rfl
theorem sp_at_P {α : Nat → Nat} {κ : Nat → ClassId} {σ : xb_St} {K : Nat} (h : sp_isP K) : (sp_w α κ σ)[K]? = some (α K, .inr (0, sp_cP α K (σ.1 K) (σ.2 K))) := by rcases h with rfl <;> rfl
theorem sp_at_Line {α : Nat → Nat} {κ : Nat → ClassId} {σ : xb_St} {K : Nat} (h : sp_isLine K) : (sp_w α κ σ)[K]? = some (α K, .inr (1, sp_cLine α K (σ.1 K) (σ.2 K))) := by rcases h with rfl | rfl <;> rfl
theorem sp_si_Line {α : Nat → Nat} {κ : Nat → ClassId} {σ : xb_St} {K : Nat} (h : sp_isLine K) (j : Nat) (x : Int32) (hf : (sp_cLine α K (σ.1 K) (σ.2 K)).set j (.int x) = sp_cLine α K (va_up (σ.1 K) j x) (σ.2 K)) : (sp_w α κ σ).set K (α K, .inr (1, (sp_cLine α K (σ.1 K) (σ.2 K)).set j (.int x))) = sp_w α κ (xb_si σ K j x) := by rw [hf]; rcases h with rfl | rfl <;> rfl
theorem sp_sl_Line {α : Nat → Nat} {κ : Nat → ClassId} {σ : xb_St} {K : Nat} (h : sp_isLine K) (j : Nat) (x : Int64) (hf : (sp_cLine α K (σ.1 K) (σ.2 K)).set j (.long x) = sp_cLine α K (σ.1 K) (va_up (σ.2 K) j x)) : (sp_w α κ σ).set K (α K, .inr (1, (sp_cLine α K (σ.1 K) (σ.2 K)).set j (.long x))) = sp_w α κ (xb_sl σ K j x) := by rw [hf]; rcases h with rfl | rfl <;> rfl
theorem sp_at_Packet {α : Nat → Nat} {κ : Nat → ClassId} {σ : xb_St} {K : Nat} (h : sp_isPacket K) : (sp_w α κ σ)[K]? = some (α K, .inr (2, sp_cPacket α K (σ.1 K) (σ.2 K))) := by rcases h with rfl | rfl | rfl | rfl <;> rfl
theorem sp_si_Packet {α : Nat → Nat} {κ : Nat → ClassId} {σ : xb_St} {K : Nat} (h : sp_isPacket K) (j : Nat) (x : Int32) (hf : (sp_cPacket α K (σ.1 K) (σ.2 K)).set j (.int x) = sp_cPacket α K (va_up (σ.1 K) j x) (σ.2 K)) : (sp_w α κ σ).set K (α K, .inr (2, (sp_cPacket α K (σ.1 K) (σ.2 K)).set j (.int x))) = sp_w α κ (xb_si σ K j x) := by rw [hf]; rcases h with rfl | rfl | rfl | rfl <;> rfl
theorem sp_sl_Packet {α : Nat → Nat} {κ : Nat → ClassId} {σ : xb_St} {K : Nat} (h : sp_isPacket K) (j : Nat) (x : Int64) (hf : (sp_cPacket α K (σ.1 K) (σ.2 K)).set j (.long x) = sp_cPacket α K (σ.1 K) (va_up (σ.2 K) j x)) : (sp_w α κ σ).set K (α K, .inr (2, (sp_cPacket α K (σ.1 K) (σ.2 K)).set j (.long x))) = sp_w α κ (xb_sl σ K j x) := by rw [hf]; rcases h with rfl | rfl | rfl | rfl <;> rfl
theorem sp_at_Keys {α : Nat → Nat} {κ : Nat → ClassId} {σ : xb_St} {K : Nat} (h : sp_isKeys K) : (sp_w α κ σ)[K]? = some (α K, .inr (3, sp_cKeys α K (σ.1 K) (σ.2 K))) := by rcases h with rfl | rfl | rfl | rfl <;> rfl
theorem sp_si_Keys {α : Nat → Nat} {κ : Nat → ClassId} {σ : xb_St} {K : Nat} (h : sp_isKeys K) (j : Nat) (x : Int32) (hf : (sp_cKeys α K (σ.1 K) (σ.2 K)).set j (.int x) = sp_cKeys α K (va_up (σ.1 K) j x) (σ.2 K)) : (sp_w α κ σ).set K (α K, .inr (3, (sp_cKeys α K (σ.1 K) (σ.2 K)).set j (.int x))) = sp_w α κ (xb_si σ K j x) := by rw [hf]; rcases h with rfl | rfl | rfl | rfl <;> rfl
theorem sp_sl_Keys {α : Nat → Nat} {κ : Nat → ClassId} {σ : xb_St} {K : Nat} (h : sp_isKeys K) (j : Nat) (x : Int64) (hf : (sp_cKeys α K (σ.1 K) (σ.2 K)).set j (.long x) = sp_cKeys α K (σ.1 K) (va_up (σ.2 K) j x)) : (sp_w α κ σ).set K (α K, .inr (3, (sp_cKeys α K (σ.1 K) (σ.2 K)).set j (.long x))) = sp_w α κ (xb_sl σ K j x) := by rw [hf]; rcases h with rfl | rfl | rfl | rfl <;> rfl
theorem sp_at_Init {α : Nat → Nat} {κ : Nat → ClassId} {σ : xb_St} {K : Nat} (h : sp_isInit K) : (sp_w α κ σ)[K]? = some (α K, .inr (4, sp_cInit α K (σ.1 K) (σ.2 K))) := by rcases h with rfl | rfl | rfl | rfl <;> rfl
theorem sp_si_Init {α : Nat → Nat} {κ : Nat → ClassId} {σ : xb_St} {K : Nat} (h : sp_isInit K) (j : Nat) (x : Int32) (hf : (sp_cInit α K (σ.1 K) (σ.2 K)).set j (.int x) = sp_cInit α K (va_up (σ.1 K) j x) (σ.2 K)) : (sp_w α κ σ).set K (α K, .inr (4, (sp_cInit α K (σ.1 K) (σ.2 K)).set j (.int x))) = sp_w α κ (xb_si σ K j x) := by rw [hf]; rcases h with rfl | rfl | rfl | rfl <;> rfl
theorem sp_sl_Init {α : Nat → Nat} {κ : Nat → ClassId} {σ : xb_St} {K : Nat} (h : sp_isInit K) (j : Nat) (x : Int64) (hf : (sp_cInit α K (σ.1 K) (σ.2 K)).set j (.long x) = sp_cInit α K (σ.1 K) (va_up (σ.2 K) j x)) : (sp_w α κ σ).set K (α K, .inr (4, (sp_cInit α K (σ.1 K) (σ.2 K)).set j (.long x))) = sp_w α κ (xb_sl σ K j x) := by rw [hf]; rcases h with rfl | rfl | rfl | rfl <;> rfl
theorem sp_at_Exchange {α : Nat → Nat} {κ : Nat → ClassId} {σ : xb_St} {K : Nat} (h : sp_isExchange K) : (sp_w α κ σ)[K]? = some (α K, .inr (5, sp_cExchange α K (σ.1 K) (σ.2 K))) := by rcases h with rfl | rfl <;> rfl
theorem sp_si_Exchange {α : Nat → Nat} {κ : Nat → ClassId} {σ : xb_St} {K : Nat} (h : sp_isExchange K) (j : Nat) (x : Int32) (hf : (sp_cExchange α K (σ.1 K) (σ.2 K)).set j (.int x) = sp_cExchange α K (va_up (σ.1 K) j x) (σ.2 K)) : (sp_w α κ σ).set K (α K, .inr (5, (sp_cExchange α K (σ.1 K) (σ.2 K)).set j (.int x))) = sp_w α κ (xb_si σ K j x) := by rw [hf]; rcases h with rfl | rfl <;> rfl
theorem sp_sl_Exchange {α : Nat → Nat} {κ : Nat → ClassId} {σ : xb_St} {K : Nat} (h : sp_isExchange K) (j : Nat) (x : Int64) (hf : (sp_cExchange α K (σ.1 K) (σ.2 K)).set j (.long x) = sp_cExchange α K (σ.1 K) (va_up (σ.2 K) j x)) : (sp_w α κ σ).set K (α K, .inr (5, (sp_cExchange α K (σ.1 K) (σ.2 K)).set j (.long x))) = sp_w α κ (xb_sl σ K j x) := by rw [hf]; rcases h with rfl | rfl <;> rfl
theorem sp_at_Channel {α : Nat → Nat} {κ : Nat → ClassId} {σ : xb_St} {K : Nat} (h : sp_isChannel K) : (sp_w α κ σ)[K]? = some (α K, .inr (6, sp_cChannel α K (σ.1 K) (σ.2 K))) := by rcases h with rfl | rfl | rfl | rfl | rfl | rfl <;> rfl
theorem sp_si_Channel {α : Nat → Nat} {κ : Nat → ClassId} {σ : xb_St} {K : Nat} (h : sp_isChannel K) (j : Nat) (x : Int32) (hf : (sp_cChannel α K (σ.1 K) (σ.2 K)).set j (.int x) = sp_cChannel α K (va_up (σ.1 K) j x) (σ.2 K)) : (sp_w α κ σ).set K (α K, .inr (6, (sp_cChannel α K (σ.1 K) (σ.2 K)).set j (.int x))) = sp_w α κ (xb_si σ K j x) := by rw [hf]; rcases h with rfl | rfl | rfl | rfl | rfl | rfl <;> rfl
theorem sp_sl_Channel {α : Nat → Nat} {κ : Nat → ClassId} {σ : xb_St} {K : Nat} (h : sp_isChannel K) (j : Nat) (x : Int64) (hf : (sp_cChannel α K (σ.1 K) (σ.2 K)).set j (.long x) = sp_cChannel α K (σ.1 K) (va_up (σ.2 K) j x)) : (sp_w α κ σ).set K (α K, .inr (6, (sp_cChannel α K (σ.1 K) (σ.2 K)).set j (.long x))) = sp_w α κ (xb_sl σ K j x) := by rw [hf]; rcases h with rfl | rfl | rfl | rfl | rfl | rfl <;> rfl
theorem sp_at_Client {α : Nat → Nat} {κ : Nat → ClassId} {σ : xb_St} {K : Nat} (h : sp_isClient K) : (sp_w α κ σ)[K]? = some (α K, .inr (7, sp_cEndpoint α K (σ.1 K) (σ.2 K))) := by rcases h with rfl <;> rfl
theorem sp_si_Client {α : Nat → Nat} {κ : Nat → ClassId} {σ : xb_St} {K : Nat} (h : sp_isClient K) (j : Nat) (x : Int32) (hf : (sp_cEndpoint α K (σ.1 K) (σ.2 K)).set j (.int x) = sp_cEndpoint α K (va_up (σ.1 K) j x) (σ.2 K)) : (sp_w α κ σ).set K (α K, .inr (7, (sp_cEndpoint α K (σ.1 K) (σ.2 K)).set j (.int x))) = sp_w α κ (xb_si σ K j x) := by rw [hf]; rcases h with rfl <;> rfl
theorem sp_sl_Client {α : Nat → Nat} {κ : Nat → ClassId} {σ : xb_St} {K : Nat} (h : sp_isClient K) (j : Nat) (x : Int64) (hf : (sp_cEndpoint α K (σ.1 K) (σ.2 K)).set j (.long x) = sp_cEndpoint α K (σ.1 K) (va_up (σ.2 K) j x)) : (sp_w α κ σ).set K (α K, .inr (7, (sp_cEndpoint α K (σ.1 K) (σ.2 K)).set j (.long x))) = sp_w α κ (xb_sl σ K j x) := by rw [hf]; rcases h with rfl <;> rfl
theorem sp_at_Server {α : Nat → Nat} {κ : Nat → ClassId} {σ : xb_St} {K : Nat} (h : sp_isServer K) : (sp_w α κ σ)[K]? = some (α K, .inr (8, sp_cEndpoint α K (σ.1 K) (σ.2 K))) := by rcases h with rfl <;> rfl
theorem sp_si_Server {α : Nat → Nat} {κ : Nat → ClassId} {σ : xb_St} {K : Nat} (h : sp_isServer K) (j : Nat) (x : Int32) (hf : (sp_cEndpoint α K (σ.1 K) (σ.2 K)).set j (.int x) = sp_cEndpoint α K (va_up (σ.1 K) j x) (σ.2 K)) : (sp_w α κ σ).set K (α K, .inr (8, (sp_cEndpoint α K (σ.1 K) (σ.2 K)).set j (.int x))) = sp_w α κ (xb_si σ K j x) := by rw [hf]; rcases h with rfl <;> rfl
theorem sp_sl_Server {α : Nat → Nat} {κ : Nat → ClassId} {σ : xb_St} {K : Nat} (h : sp_isServer K) (j : Nat) (x : Int64) (hf : (sp_cEndpoint α K (σ.1 K) (σ.2 K)).set j (.long x) = sp_cEndpoint α K (σ.1 K) (va_up (σ.2 K) j x)) : (sp_w α κ σ).set K (α K, .inr (8, (sp_cEndpoint α K (σ.1 K) (σ.2 K)).set j (.long x))) = sp_w α κ (xb_sl σ K j x) := by rw [hf]; rcases h with rfl <;> rfl
section SPW
variable {p : Program} {l : Launch} {e : Env} {R : Room} {s : State} {m : MethodId} {args : Array Value} {below : List Frame} {meth : Method} {c : Code} {H : Heap} {locs : List Loc} {cells slots : Nat} {Q : State → Prop}
variable {cc : ByteArray} {pc : Nat} {ls : Array Slot} {rest : List Value} {D : va_G} {α : Nat → Nat} {κ : Nat → ClassId} {σ : xb_St} {A : Nat → Prop} {H0 : Heap} {own ref : String} {index : Nat} {K : Nat}
theorem sp_g_P (hx : p.tables.exec = Jvm.exec) (hb : c.code = cc) (ht : ∀ w ∈ xa, w.before args s = true) (hown : s.vm.findClass own = some m.cls) (hK : va_K D xC (sp_t κ) s) (hP : va_P D xC (sp_w α κ σ) H) (hk : sp_isP K) (j : Nat) (hj : j < 2) (hlink : (Cond.fieldLink own index ref (T_P j).2.1 (T_P j).2.2.1).before args s = true) (hsame : ∀ x, s.fieldFound? (T_P j).1 (T_P j).2.1 (T_P j).2.2.1 = some x → s.fieldFound? ref (T_P j).2.1 (T_P j).2.2.1 = some x) {v : Value} (hv : (sp_cP α K (σ.1 K) (σ.2 K))[j]? = some v) (hdg : decode cc pc = .ok (.getfield index, 3))
    (kk : W p l e R s m args below meth c H locs cells slots Q (F0 m (pc + 3) ls (v :: rest))) : W p l e R s m args below meth c H locs cells slots Q (F0 m pc ls (.ref (α K) :: rest)) :=
  va_get (D := D) (ci := 0) (C := "SecurePair") (T := T_P) (N := 2) hx hb ht in_P hown hK hP K (sp_at_P hk) rfl j hj hlink hsame hv hdg kk
theorem sp_g_Line (hx : p.tables.exec = Jvm.exec) (hb : c.code = cc) (ht : ∀ w ∈ xa, w.before args s = true) (hown : s.vm.findClass own = some m.cls) (hK : va_K D xC (sp_t κ) s) (hP : va_P D xC (sp_w α κ σ) H) (hk : sp_isLine K) (j : Nat) (hj : j < 2) (hlink : (Cond.fieldLink own index ref (T_Line j).2.1 (T_Line j).2.2.1).before args s = true) (hsame : ∀ x, s.fieldFound? (T_Line j).1 (T_Line j).2.1 (T_Line j).2.2.1 = some x → s.fieldFound? ref (T_Line j).2.1 (T_Line j).2.2.1 = some x) {v : Value} (hv : (sp_cLine α K (σ.1 K) (σ.2 K))[j]? = some v) (hdg : decode cc pc = .ok (.getfield index, 3))
    (kk : W p l e R s m args below meth c H locs cells slots Q (F0 m (pc + 3) ls (v :: rest))) : W p l e R s m args below meth c H locs cells slots Q (F0 m pc ls (.ref (α K) :: rest)) :=
  va_get (D := D) (ci := 1) (C := "SecurePair$Line") (T := T_Line) (N := 2) hx hb ht in_Line hown hK hP K (sp_at_Line hk) rfl j hj hlink hsame hv hdg kk
theorem sp_pi_Line (hx : p.tables.exec = Jvm.exec) (hb : c.code = cc) (ht : ∀ w ∈ xa, w.before args s = true) (hown : s.vm.findClass own = some m.cls) (hK : va_K D xC (sp_t κ) s) (hP : va_P D xC (sp_w α κ σ) H) (hk : sp_isLine K) (j : Nat) (hj : j < 2) (hlink : (Cond.fieldLink own index ref (T_Line j).2.1 (T_Line j).2.2.1).before args s = true) (hsame : ∀ x, s.fieldFound? (T_Line j).1 (T_Line j).2.1 (T_Line j).2.2.1 = some x → s.fieldFound? ref (T_Line j).2.1 (T_Line j).2.2.1 = some x) (hD : ∀ σ, va_D A (sp_w α κ σ)) (hS : va_S A H0 H locs) {x : Int32} (hfin : (T_Line j).2.2.2 = false) {ty : FieldType} (hd : parseFieldDescriptor (T_Line j).2.2.1 = some ty) (hn : narrow ty (.int x) = .int x) (hfit : fits ty (.int x) = true) (hf : (sp_cLine α K (σ.1 K) (σ.2 K)).set j (.int x) = sp_cLine α K (va_up (σ.1 K) j x) (σ.2 K)) (hdg : decode cc pc = .ok (.putfield index, 3))
    (kk : ∀ (H1 : Heap) (locs1 : List Loc), va_P D xC (sp_w α κ (xb_si σ K j x)) H1 → va_S A H0 H1 locs1 → W p l e R s m args below meth c H1 locs1 cells slots Q (F0 m (pc + 3) ls rest)) : W p l e R s m args below meth c H locs cells slots Q (F0 m pc ls (.int x :: .ref (α K) :: rest)) := by
  refine va_put (D := D) (ci := 1) (C := "SecurePair$Line") (T := T_Line) (N := 2) hx hb ht in_Line t_Line t_Line_ok n_Line hown hK hP (hD σ) hS K (sp_at_Line hk) rfl j hj hlink hsame hfin hd hn hfit (by show j < 2; exact hj) hdg (fun H1 locs1 hP1 _ hS1 => ?_)
  rw [sp_si_Line hk j x hf] at hP1
  exact kk H1 locs1 hP1 hS1
theorem sp_pl_Line (hx : p.tables.exec = Jvm.exec) (hb : c.code = cc) (ht : ∀ w ∈ xa, w.before args s = true) (hown : s.vm.findClass own = some m.cls) (hK : va_K D xC (sp_t κ) s) (hP : va_P D xC (sp_w α κ σ) H) (hk : sp_isLine K) (j : Nat) (hj : j < 2) (hlink : (Cond.fieldLink own index ref (T_Line j).2.1 (T_Line j).2.2.1).before args s = true) (hsame : ∀ x, s.fieldFound? (T_Line j).1 (T_Line j).2.1 (T_Line j).2.2.1 = some x → s.fieldFound? ref (T_Line j).2.1 (T_Line j).2.2.1 = some x) (hD : ∀ σ, va_D A (sp_w α κ σ)) (hS : va_S A H0 H locs) {x : Int64} (hfin : (T_Line j).2.2.2 = false) {ty : FieldType} (hd : parseFieldDescriptor (T_Line j).2.2.1 = some ty) (hn : narrow ty (.long x) = .long x) (hfit : fits ty (.long x) = true) (hf : (sp_cLine α K (σ.1 K) (σ.2 K)).set j (.long x) = sp_cLine α K (σ.1 K) (va_up (σ.2 K) j x)) (hdg : decode cc pc = .ok (.putfield index, 3))
    (kk : ∀ (H1 : Heap) (locs1 : List Loc), va_P D xC (sp_w α κ (xb_sl σ K j x)) H1 → va_S A H0 H1 locs1 → W p l e R s m args below meth c H1 locs1 cells slots Q (F0 m (pc + 3) ls rest)) : W p l e R s m args below meth c H locs cells slots Q (F0 m pc ls (.long x :: .ref (α K) :: rest)) := by
  refine va_put (D := D) (ci := 1) (C := "SecurePair$Line") (T := T_Line) (N := 2) hx hb ht in_Line t_Line t_Line_ok n_Line hown hK hP (hD σ) hS K (sp_at_Line hk) rfl j hj hlink hsame hfin hd hn hfit (by show j < 2; exact hj) hdg (fun H1 locs1 hP1 _ hS1 => ?_)
  rw [sp_sl_Line hk j x hf] at hP1
  exact kk H1 locs1 hP1 hS1
theorem sp_g_Packet (hx : p.tables.exec = Jvm.exec) (hb : c.code = cc) (ht : ∀ w ∈ xa, w.before args s = true) (hown : s.vm.findClass own = some m.cls) (hK : va_K D xC (sp_t κ) s) (hP : va_P D xC (sp_w α κ σ) H) (hk : sp_isPacket K) (j : Nat) (hj : j < 6) (hlink : (Cond.fieldLink own index ref (T_Packet j).2.1 (T_Packet j).2.2.1).before args s = true) (hsame : ∀ x, s.fieldFound? (T_Packet j).1 (T_Packet j).2.1 (T_Packet j).2.2.1 = some x → s.fieldFound? ref (T_Packet j).2.1 (T_Packet j).2.2.1 = some x) {v : Value} (hv : (sp_cPacket α K (σ.1 K) (σ.2 K))[j]? = some v) (hdg : decode cc pc = .ok (.getfield index, 3))
    (kk : W p l e R s m args below meth c H locs cells slots Q (F0 m (pc + 3) ls (v :: rest))) : W p l e R s m args below meth c H locs cells slots Q (F0 m pc ls (.ref (α K) :: rest)) :=
  va_get (D := D) (ci := 2) (C := "SecurePair$Packet") (T := T_Packet) (N := 6) hx hb ht in_Packet hown hK hP K (sp_at_Packet hk) rfl j hj hlink hsame hv hdg kk
theorem sp_pi_Packet (hx : p.tables.exec = Jvm.exec) (hb : c.code = cc) (ht : ∀ w ∈ xa, w.before args s = true) (hown : s.vm.findClass own = some m.cls) (hK : va_K D xC (sp_t κ) s) (hP : va_P D xC (sp_w α κ σ) H) (hk : sp_isPacket K) (j : Nat) (hj : j < 6) (hlink : (Cond.fieldLink own index ref (T_Packet j).2.1 (T_Packet j).2.2.1).before args s = true) (hsame : ∀ x, s.fieldFound? (T_Packet j).1 (T_Packet j).2.1 (T_Packet j).2.2.1 = some x → s.fieldFound? ref (T_Packet j).2.1 (T_Packet j).2.2.1 = some x) (hD : ∀ σ, va_D A (sp_w α κ σ)) (hS : va_S A H0 H locs) {x : Int32} (hfin : (T_Packet j).2.2.2 = false) {ty : FieldType} (hd : parseFieldDescriptor (T_Packet j).2.2.1 = some ty) (hn : narrow ty (.int x) = .int x) (hfit : fits ty (.int x) = true) (hf : (sp_cPacket α K (σ.1 K) (σ.2 K)).set j (.int x) = sp_cPacket α K (va_up (σ.1 K) j x) (σ.2 K)) (hdg : decode cc pc = .ok (.putfield index, 3))
    (kk : ∀ (H1 : Heap) (locs1 : List Loc), va_P D xC (sp_w α κ (xb_si σ K j x)) H1 → va_S A H0 H1 locs1 → W p l e R s m args below meth c H1 locs1 cells slots Q (F0 m (pc + 3) ls rest)) : W p l e R s m args below meth c H locs cells slots Q (F0 m pc ls (.int x :: .ref (α K) :: rest)) := by
  refine va_put (D := D) (ci := 2) (C := "SecurePair$Packet") (T := T_Packet) (N := 6) hx hb ht in_Packet t_Packet t_Packet_ok n_Packet hown hK hP (hD σ) hS K (sp_at_Packet hk) rfl j hj hlink hsame hfin hd hn hfit (by show j < 6; exact hj) hdg (fun H1 locs1 hP1 _ hS1 => ?_)
  rw [sp_si_Packet hk j x hf] at hP1
  exact kk H1 locs1 hP1 hS1
theorem sp_pl_Packet (hx : p.tables.exec = Jvm.exec) (hb : c.code = cc) (ht : ∀ w ∈ xa, w.before args s = true) (hown : s.vm.findClass own = some m.cls) (hK : va_K D xC (sp_t κ) s) (hP : va_P D xC (sp_w α κ σ) H) (hk : sp_isPacket K) (j : Nat) (hj : j < 6) (hlink : (Cond.fieldLink own index ref (T_Packet j).2.1 (T_Packet j).2.2.1).before args s = true) (hsame : ∀ x, s.fieldFound? (T_Packet j).1 (T_Packet j).2.1 (T_Packet j).2.2.1 = some x → s.fieldFound? ref (T_Packet j).2.1 (T_Packet j).2.2.1 = some x) (hD : ∀ σ, va_D A (sp_w α κ σ)) (hS : va_S A H0 H locs) {x : Int64} (hfin : (T_Packet j).2.2.2 = false) {ty : FieldType} (hd : parseFieldDescriptor (T_Packet j).2.2.1 = some ty) (hn : narrow ty (.long x) = .long x) (hfit : fits ty (.long x) = true) (hf : (sp_cPacket α K (σ.1 K) (σ.2 K)).set j (.long x) = sp_cPacket α K (σ.1 K) (va_up (σ.2 K) j x)) (hdg : decode cc pc = .ok (.putfield index, 3))
    (kk : ∀ (H1 : Heap) (locs1 : List Loc), va_P D xC (sp_w α κ (xb_sl σ K j x)) H1 → va_S A H0 H1 locs1 → W p l e R s m args below meth c H1 locs1 cells slots Q (F0 m (pc + 3) ls rest)) : W p l e R s m args below meth c H locs cells slots Q (F0 m pc ls (.long x :: .ref (α K) :: rest)) := by
  refine va_put (D := D) (ci := 2) (C := "SecurePair$Packet") (T := T_Packet) (N := 6) hx hb ht in_Packet t_Packet t_Packet_ok n_Packet hown hK hP (hD σ) hS K (sp_at_Packet hk) rfl j hj hlink hsame hfin hd hn hfit (by show j < 6; exact hj) hdg (fun H1 locs1 hP1 _ hS1 => ?_)
  rw [sp_sl_Packet hk j x hf] at hP1
  exact kk H1 locs1 hP1 hS1
theorem sp_g_Keys (hx : p.tables.exec = Jvm.exec) (hb : c.code = cc) (ht : ∀ w ∈ xa, w.before args s = true) (hown : s.vm.findClass own = some m.cls) (hK : va_K D xC (sp_t κ) s) (hP : va_P D xC (sp_w α κ σ) H) (hk : sp_isKeys K) (j : Nat) (hj : j < 6) (hlink : (Cond.fieldLink own index ref (T_Keys j).2.1 (T_Keys j).2.2.1).before args s = true) (hsame : ∀ x, s.fieldFound? (T_Keys j).1 (T_Keys j).2.1 (T_Keys j).2.2.1 = some x → s.fieldFound? ref (T_Keys j).2.1 (T_Keys j).2.2.1 = some x) {v : Value} (hv : (sp_cKeys α K (σ.1 K) (σ.2 K))[j]? = some v) (hdg : decode cc pc = .ok (.getfield index, 3))
    (kk : W p l e R s m args below meth c H locs cells slots Q (F0 m (pc + 3) ls (v :: rest))) : W p l e R s m args below meth c H locs cells slots Q (F0 m pc ls (.ref (α K) :: rest)) :=
  va_get (D := D) (ci := 3) (C := "SecurePair$Keys") (T := T_Keys) (N := 6) hx hb ht in_Keys hown hK hP K (sp_at_Keys hk) rfl j hj hlink hsame hv hdg kk
theorem sp_pi_Keys (hx : p.tables.exec = Jvm.exec) (hb : c.code = cc) (ht : ∀ w ∈ xa, w.before args s = true) (hown : s.vm.findClass own = some m.cls) (hK : va_K D xC (sp_t κ) s) (hP : va_P D xC (sp_w α κ σ) H) (hk : sp_isKeys K) (j : Nat) (hj : j < 6) (hlink : (Cond.fieldLink own index ref (T_Keys j).2.1 (T_Keys j).2.2.1).before args s = true) (hsame : ∀ x, s.fieldFound? (T_Keys j).1 (T_Keys j).2.1 (T_Keys j).2.2.1 = some x → s.fieldFound? ref (T_Keys j).2.1 (T_Keys j).2.2.1 = some x) (hD : ∀ σ, va_D A (sp_w α κ σ)) (hS : va_S A H0 H locs) {x : Int32} (hfin : (T_Keys j).2.2.2 = false) {ty : FieldType} (hd : parseFieldDescriptor (T_Keys j).2.2.1 = some ty) (hn : narrow ty (.int x) = .int x) (hfit : fits ty (.int x) = true) (hf : (sp_cKeys α K (σ.1 K) (σ.2 K)).set j (.int x) = sp_cKeys α K (va_up (σ.1 K) j x) (σ.2 K)) (hdg : decode cc pc = .ok (.putfield index, 3))
    (kk : ∀ (H1 : Heap) (locs1 : List Loc), va_P D xC (sp_w α κ (xb_si σ K j x)) H1 → va_S A H0 H1 locs1 → W p l e R s m args below meth c H1 locs1 cells slots Q (F0 m (pc + 3) ls rest)) : W p l e R s m args below meth c H locs cells slots Q (F0 m pc ls (.int x :: .ref (α K) :: rest)) := by
  refine va_put (D := D) (ci := 3) (C := "SecurePair$Keys") (T := T_Keys) (N := 6) hx hb ht in_Keys t_Keys t_Keys_ok n_Keys hown hK hP (hD σ) hS K (sp_at_Keys hk) rfl j hj hlink hsame hfin hd hn hfit (by show j < 6; exact hj) hdg (fun H1 locs1 hP1 _ hS1 => ?_)
  rw [sp_si_Keys hk j x hf] at hP1
  exact kk H1 locs1 hP1 hS1
theorem sp_pl_Keys (hx : p.tables.exec = Jvm.exec) (hb : c.code = cc) (ht : ∀ w ∈ xa, w.before args s = true) (hown : s.vm.findClass own = some m.cls) (hK : va_K D xC (sp_t κ) s) (hP : va_P D xC (sp_w α κ σ) H) (hk : sp_isKeys K) (j : Nat) (hj : j < 6) (hlink : (Cond.fieldLink own index ref (T_Keys j).2.1 (T_Keys j).2.2.1).before args s = true) (hsame : ∀ x, s.fieldFound? (T_Keys j).1 (T_Keys j).2.1 (T_Keys j).2.2.1 = some x → s.fieldFound? ref (T_Keys j).2.1 (T_Keys j).2.2.1 = some x) (hD : ∀ σ, va_D A (sp_w α κ σ)) (hS : va_S A H0 H locs) {x : Int64} (hfin : (T_Keys j).2.2.2 = false) {ty : FieldType} (hd : parseFieldDescriptor (T_Keys j).2.2.1 = some ty) (hn : narrow ty (.long x) = .long x) (hfit : fits ty (.long x) = true) (hf : (sp_cKeys α K (σ.1 K) (σ.2 K)).set j (.long x) = sp_cKeys α K (σ.1 K) (va_up (σ.2 K) j x)) (hdg : decode cc pc = .ok (.putfield index, 3))
    (kk : ∀ (H1 : Heap) (locs1 : List Loc), va_P D xC (sp_w α κ (xb_sl σ K j x)) H1 → va_S A H0 H1 locs1 → W p l e R s m args below meth c H1 locs1 cells slots Q (F0 m (pc + 3) ls rest)) : W p l e R s m args below meth c H locs cells slots Q (F0 m pc ls (.long x :: .ref (α K) :: rest)) := by
  refine va_put (D := D) (ci := 3) (C := "SecurePair$Keys") (T := T_Keys) (N := 6) hx hb ht in_Keys t_Keys t_Keys_ok n_Keys hown hK hP (hD σ) hS K (sp_at_Keys hk) rfl j hj hlink hsame hfin hd hn hfit (by show j < 6; exact hj) hdg (fun H1 locs1 hP1 _ hS1 => ?_)
  rw [sp_sl_Keys hk j x hf] at hP1
  exact kk H1 locs1 hP1 hS1
theorem sp_g_Init (hx : p.tables.exec = Jvm.exec) (hb : c.code = cc) (ht : ∀ w ∈ xa, w.before args s = true) (hown : s.vm.findClass own = some m.cls) (hK : va_K D xC (sp_t κ) s) (hP : va_P D xC (sp_w α κ σ) H) (hk : sp_isInit K) (j : Nat) (hj : j < 3) (hlink : (Cond.fieldLink own index ref (T_Init j).2.1 (T_Init j).2.2.1).before args s = true) (hsame : ∀ x, s.fieldFound? (T_Init j).1 (T_Init j).2.1 (T_Init j).2.2.1 = some x → s.fieldFound? ref (T_Init j).2.1 (T_Init j).2.2.1 = some x) {v : Value} (hv : (sp_cInit α K (σ.1 K) (σ.2 K))[j]? = some v) (hdg : decode cc pc = .ok (.getfield index, 3))
    (kk : W p l e R s m args below meth c H locs cells slots Q (F0 m (pc + 3) ls (v :: rest))) : W p l e R s m args below meth c H locs cells slots Q (F0 m pc ls (.ref (α K) :: rest)) :=
  va_get (D := D) (ci := 4) (C := "SecurePair$Init") (T := T_Init) (N := 3) hx hb ht in_Init hown hK hP K (sp_at_Init hk) rfl j hj hlink hsame hv hdg kk
theorem sp_pi_Init (hx : p.tables.exec = Jvm.exec) (hb : c.code = cc) (ht : ∀ w ∈ xa, w.before args s = true) (hown : s.vm.findClass own = some m.cls) (hK : va_K D xC (sp_t κ) s) (hP : va_P D xC (sp_w α κ σ) H) (hk : sp_isInit K) (j : Nat) (hj : j < 3) (hlink : (Cond.fieldLink own index ref (T_Init j).2.1 (T_Init j).2.2.1).before args s = true) (hsame : ∀ x, s.fieldFound? (T_Init j).1 (T_Init j).2.1 (T_Init j).2.2.1 = some x → s.fieldFound? ref (T_Init j).2.1 (T_Init j).2.2.1 = some x) (hD : ∀ σ, va_D A (sp_w α κ σ)) (hS : va_S A H0 H locs) {x : Int32} (hfin : (T_Init j).2.2.2 = false) {ty : FieldType} (hd : parseFieldDescriptor (T_Init j).2.2.1 = some ty) (hn : narrow ty (.int x) = .int x) (hfit : fits ty (.int x) = true) (hf : (sp_cInit α K (σ.1 K) (σ.2 K)).set j (.int x) = sp_cInit α K (va_up (σ.1 K) j x) (σ.2 K)) (hdg : decode cc pc = .ok (.putfield index, 3))
    (kk : ∀ (H1 : Heap) (locs1 : List Loc), va_P D xC (sp_w α κ (xb_si σ K j x)) H1 → va_S A H0 H1 locs1 → W p l e R s m args below meth c H1 locs1 cells slots Q (F0 m (pc + 3) ls rest)) : W p l e R s m args below meth c H locs cells slots Q (F0 m pc ls (.int x :: .ref (α K) :: rest)) := by
  refine va_put (D := D) (ci := 4) (C := "SecurePair$Init") (T := T_Init) (N := 3) hx hb ht in_Init t_Init t_Init_ok n_Init hown hK hP (hD σ) hS K (sp_at_Init hk) rfl j hj hlink hsame hfin hd hn hfit (by show j < 3; exact hj) hdg (fun H1 locs1 hP1 _ hS1 => ?_)
  rw [sp_si_Init hk j x hf] at hP1
  exact kk H1 locs1 hP1 hS1
theorem sp_pl_Init (hx : p.tables.exec = Jvm.exec) (hb : c.code = cc) (ht : ∀ w ∈ xa, w.before args s = true) (hown : s.vm.findClass own = some m.cls) (hK : va_K D xC (sp_t κ) s) (hP : va_P D xC (sp_w α κ σ) H) (hk : sp_isInit K) (j : Nat) (hj : j < 3) (hlink : (Cond.fieldLink own index ref (T_Init j).2.1 (T_Init j).2.2.1).before args s = true) (hsame : ∀ x, s.fieldFound? (T_Init j).1 (T_Init j).2.1 (T_Init j).2.2.1 = some x → s.fieldFound? ref (T_Init j).2.1 (T_Init j).2.2.1 = some x) (hD : ∀ σ, va_D A (sp_w α κ σ)) (hS : va_S A H0 H locs) {x : Int64} (hfin : (T_Init j).2.2.2 = false) {ty : FieldType} (hd : parseFieldDescriptor (T_Init j).2.2.1 = some ty) (hn : narrow ty (.long x) = .long x) (hfit : fits ty (.long x) = true) (hf : (sp_cInit α K (σ.1 K) (σ.2 K)).set j (.long x) = sp_cInit α K (σ.1 K) (va_up (σ.2 K) j x)) (hdg : decode cc pc = .ok (.putfield index, 3))
    (kk : ∀ (H1 : Heap) (locs1 : List Loc), va_P D xC (sp_w α κ (xb_sl σ K j x)) H1 → va_S A H0 H1 locs1 → W p l e R s m args below meth c H1 locs1 cells slots Q (F0 m (pc + 3) ls rest)) : W p l e R s m args below meth c H locs cells slots Q (F0 m pc ls (.long x :: .ref (α K) :: rest)) := by
  refine va_put (D := D) (ci := 4) (C := "SecurePair$Init") (T := T_Init) (N := 3) hx hb ht in_Init t_Init t_Init_ok n_Init hown hK hP (hD σ) hS K (sp_at_Init hk) rfl j hj hlink hsame hfin hd hn hfit (by show j < 3; exact hj) hdg (fun H1 locs1 hP1 _ hS1 => ?_)
  rw [sp_sl_Init hk j x hf] at hP1
  exact kk H1 locs1 hP1 hS1
theorem sp_g_Exchange (hx : p.tables.exec = Jvm.exec) (hb : c.code = cc) (ht : ∀ w ∈ xa, w.before args s = true) (hown : s.vm.findClass own = some m.cls) (hK : va_K D xC (sp_t κ) s) (hP : va_P D xC (sp_w α κ σ) H) (hk : sp_isExchange K) (j : Nat) (hj : j < 7) (hlink : (Cond.fieldLink own index ref (T_Exchange j).2.1 (T_Exchange j).2.2.1).before args s = true) (hsame : ∀ x, s.fieldFound? (T_Exchange j).1 (T_Exchange j).2.1 (T_Exchange j).2.2.1 = some x → s.fieldFound? ref (T_Exchange j).2.1 (T_Exchange j).2.2.1 = some x) {v : Value} (hv : (sp_cExchange α K (σ.1 K) (σ.2 K))[j]? = some v) (hdg : decode cc pc = .ok (.getfield index, 3))
    (kk : W p l e R s m args below meth c H locs cells slots Q (F0 m (pc + 3) ls (v :: rest))) : W p l e R s m args below meth c H locs cells slots Q (F0 m pc ls (.ref (α K) :: rest)) :=
  va_get (D := D) (ci := 5) (C := "SecurePair$Exchange") (T := T_Exchange) (N := 7) hx hb ht in_Exchange hown hK hP K (sp_at_Exchange hk) rfl j hj hlink hsame hv hdg kk
theorem sp_pi_Exchange (hx : p.tables.exec = Jvm.exec) (hb : c.code = cc) (ht : ∀ w ∈ xa, w.before args s = true) (hown : s.vm.findClass own = some m.cls) (hK : va_K D xC (sp_t κ) s) (hP : va_P D xC (sp_w α κ σ) H) (hk : sp_isExchange K) (j : Nat) (hj : j < 7) (hlink : (Cond.fieldLink own index ref (T_Exchange j).2.1 (T_Exchange j).2.2.1).before args s = true) (hsame : ∀ x, s.fieldFound? (T_Exchange j).1 (T_Exchange j).2.1 (T_Exchange j).2.2.1 = some x → s.fieldFound? ref (T_Exchange j).2.1 (T_Exchange j).2.2.1 = some x) (hD : ∀ σ, va_D A (sp_w α κ σ)) (hS : va_S A H0 H locs) {x : Int32} (hfin : (T_Exchange j).2.2.2 = false) {ty : FieldType} (hd : parseFieldDescriptor (T_Exchange j).2.2.1 = some ty) (hn : narrow ty (.int x) = .int x) (hfit : fits ty (.int x) = true) (hf : (sp_cExchange α K (σ.1 K) (σ.2 K)).set j (.int x) = sp_cExchange α K (va_up (σ.1 K) j x) (σ.2 K)) (hdg : decode cc pc = .ok (.putfield index, 3))
    (kk : ∀ (H1 : Heap) (locs1 : List Loc), va_P D xC (sp_w α κ (xb_si σ K j x)) H1 → va_S A H0 H1 locs1 → W p l e R s m args below meth c H1 locs1 cells slots Q (F0 m (pc + 3) ls rest)) : W p l e R s m args below meth c H locs cells slots Q (F0 m pc ls (.int x :: .ref (α K) :: rest)) := by
  refine va_put (D := D) (ci := 5) (C := "SecurePair$Exchange") (T := T_Exchange) (N := 7) hx hb ht in_Exchange t_Exchange t_Exchange_ok n_Exchange hown hK hP (hD σ) hS K (sp_at_Exchange hk) rfl j hj hlink hsame hfin hd hn hfit (by show j < 7; exact hj) hdg (fun H1 locs1 hP1 _ hS1 => ?_)
  rw [sp_si_Exchange hk j x hf] at hP1
  exact kk H1 locs1 hP1 hS1
theorem sp_pl_Exchange (hx : p.tables.exec = Jvm.exec) (hb : c.code = cc) (ht : ∀ w ∈ xa, w.before args s = true) (hown : s.vm.findClass own = some m.cls) (hK : va_K D xC (sp_t κ) s) (hP : va_P D xC (sp_w α κ σ) H) (hk : sp_isExchange K) (j : Nat) (hj : j < 7) (hlink : (Cond.fieldLink own index ref (T_Exchange j).2.1 (T_Exchange j).2.2.1).before args s = true) (hsame : ∀ x, s.fieldFound? (T_Exchange j).1 (T_Exchange j).2.1 (T_Exchange j).2.2.1 = some x → s.fieldFound? ref (T_Exchange j).2.1 (T_Exchange j).2.2.1 = some x) (hD : ∀ σ, va_D A (sp_w α κ σ)) (hS : va_S A H0 H locs) {x : Int64} (hfin : (T_Exchange j).2.2.2 = false) {ty : FieldType} (hd : parseFieldDescriptor (T_Exchange j).2.2.1 = some ty) (hn : narrow ty (.long x) = .long x) (hfit : fits ty (.long x) = true) (hf : (sp_cExchange α K (σ.1 K) (σ.2 K)).set j (.long x) = sp_cExchange α K (σ.1 K) (va_up (σ.2 K) j x)) (hdg : decode cc pc = .ok (.putfield index, 3))
    (kk : ∀ (H1 : Heap) (locs1 : List Loc), va_P D xC (sp_w α κ (xb_sl σ K j x)) H1 → va_S A H0 H1 locs1 → W p l e R s m args below meth c H1 locs1 cells slots Q (F0 m (pc + 3) ls rest)) : W p l e R s m args below meth c H locs cells slots Q (F0 m pc ls (.long x :: .ref (α K) :: rest)) := by
  refine va_put (D := D) (ci := 5) (C := "SecurePair$Exchange") (T := T_Exchange) (N := 7) hx hb ht in_Exchange t_Exchange t_Exchange_ok n_Exchange hown hK hP (hD σ) hS K (sp_at_Exchange hk) rfl j hj hlink hsame hfin hd hn hfit (by show j < 7; exact hj) hdg (fun H1 locs1 hP1 _ hS1 => ?_)
  rw [sp_sl_Exchange hk j x hf] at hP1
  exact kk H1 locs1 hP1 hS1
theorem sp_g_Channel (hx : p.tables.exec = Jvm.exec) (hb : c.code = cc) (ht : ∀ w ∈ xa, w.before args s = true) (hown : s.vm.findClass own = some m.cls) (hK : va_K D xC (sp_t κ) s) (hP : va_P D xC (sp_w α κ σ) H) (hk : sp_isChannel K) (j : Nat) (hj : j < 9) (hlink : (Cond.fieldLink own index ref (T_Channel j).2.1 (T_Channel j).2.2.1).before args s = true) (hsame : ∀ x, s.fieldFound? (T_Channel j).1 (T_Channel j).2.1 (T_Channel j).2.2.1 = some x → s.fieldFound? ref (T_Channel j).2.1 (T_Channel j).2.2.1 = some x) {v : Value} (hv : (sp_cChannel α K (σ.1 K) (σ.2 K))[j]? = some v) (hdg : decode cc pc = .ok (.getfield index, 3))
    (kk : W p l e R s m args below meth c H locs cells slots Q (F0 m (pc + 3) ls (v :: rest))) : W p l e R s m args below meth c H locs cells slots Q (F0 m pc ls (.ref (α K) :: rest)) :=
  va_get (D := D) (ci := 6) (C := "SecurePair$Channel") (T := T_Channel) (N := 9) hx hb ht in_Channel hown hK hP K (sp_at_Channel hk) rfl j hj hlink hsame hv hdg kk
theorem sp_pi_Channel (hx : p.tables.exec = Jvm.exec) (hb : c.code = cc) (ht : ∀ w ∈ xa, w.before args s = true) (hown : s.vm.findClass own = some m.cls) (hK : va_K D xC (sp_t κ) s) (hP : va_P D xC (sp_w α κ σ) H) (hk : sp_isChannel K) (j : Nat) (hj : j < 9) (hlink : (Cond.fieldLink own index ref (T_Channel j).2.1 (T_Channel j).2.2.1).before args s = true) (hsame : ∀ x, s.fieldFound? (T_Channel j).1 (T_Channel j).2.1 (T_Channel j).2.2.1 = some x → s.fieldFound? ref (T_Channel j).2.1 (T_Channel j).2.2.1 = some x) (hD : ∀ σ, va_D A (sp_w α κ σ)) (hS : va_S A H0 H locs) {x : Int32} (hfin : (T_Channel j).2.2.2 = false) {ty : FieldType} (hd : parseFieldDescriptor (T_Channel j).2.2.1 = some ty) (hn : narrow ty (.int x) = .int x) (hfit : fits ty (.int x) = true) (hf : (sp_cChannel α K (σ.1 K) (σ.2 K)).set j (.int x) = sp_cChannel α K (va_up (σ.1 K) j x) (σ.2 K)) (hdg : decode cc pc = .ok (.putfield index, 3))
    (kk : ∀ (H1 : Heap) (locs1 : List Loc), va_P D xC (sp_w α κ (xb_si σ K j x)) H1 → va_S A H0 H1 locs1 → W p l e R s m args below meth c H1 locs1 cells slots Q (F0 m (pc + 3) ls rest)) : W p l e R s m args below meth c H locs cells slots Q (F0 m pc ls (.int x :: .ref (α K) :: rest)) := by
  refine va_put (D := D) (ci := 6) (C := "SecurePair$Channel") (T := T_Channel) (N := 9) hx hb ht in_Channel t_Channel t_Channel_ok n_Channel hown hK hP (hD σ) hS K (sp_at_Channel hk) rfl j hj hlink hsame hfin hd hn hfit (by show j < 9; exact hj) hdg (fun H1 locs1 hP1 _ hS1 => ?_)
  rw [sp_si_Channel hk j x hf] at hP1
  exact kk H1 locs1 hP1 hS1
theorem sp_pl_Channel (hx : p.tables.exec = Jvm.exec) (hb : c.code = cc) (ht : ∀ w ∈ xa, w.before args s = true) (hown : s.vm.findClass own = some m.cls) (hK : va_K D xC (sp_t κ) s) (hP : va_P D xC (sp_w α κ σ) H) (hk : sp_isChannel K) (j : Nat) (hj : j < 9) (hlink : (Cond.fieldLink own index ref (T_Channel j).2.1 (T_Channel j).2.2.1).before args s = true) (hsame : ∀ x, s.fieldFound? (T_Channel j).1 (T_Channel j).2.1 (T_Channel j).2.2.1 = some x → s.fieldFound? ref (T_Channel j).2.1 (T_Channel j).2.2.1 = some x) (hD : ∀ σ, va_D A (sp_w α κ σ)) (hS : va_S A H0 H locs) {x : Int64} (hfin : (T_Channel j).2.2.2 = false) {ty : FieldType} (hd : parseFieldDescriptor (T_Channel j).2.2.1 = some ty) (hn : narrow ty (.long x) = .long x) (hfit : fits ty (.long x) = true) (hf : (sp_cChannel α K (σ.1 K) (σ.2 K)).set j (.long x) = sp_cChannel α K (σ.1 K) (va_up (σ.2 K) j x)) (hdg : decode cc pc = .ok (.putfield index, 3))
    (kk : ∀ (H1 : Heap) (locs1 : List Loc), va_P D xC (sp_w α κ (xb_sl σ K j x)) H1 → va_S A H0 H1 locs1 → W p l e R s m args below meth c H1 locs1 cells slots Q (F0 m (pc + 3) ls rest)) : W p l e R s m args below meth c H locs cells slots Q (F0 m pc ls (.long x :: .ref (α K) :: rest)) := by
  refine va_put (D := D) (ci := 6) (C := "SecurePair$Channel") (T := T_Channel) (N := 9) hx hb ht in_Channel t_Channel t_Channel_ok n_Channel hown hK hP (hD σ) hS K (sp_at_Channel hk) rfl j hj hlink hsame hfin hd hn hfit (by show j < 9; exact hj) hdg (fun H1 locs1 hP1 _ hS1 => ?_)
  rw [sp_sl_Channel hk j x hf] at hP1
  exact kk H1 locs1 hP1 hS1
theorem sp_g_Client (hx : p.tables.exec = Jvm.exec) (hb : c.code = cc) (ht : ∀ w ∈ xa, w.before args s = true) (hown : s.vm.findClass own = some m.cls) (hK : va_K D xC (sp_t κ) s) (hP : va_P D xC (sp_w α κ σ) H) (hk : sp_isClient K) (j : Nat) (hj : j < 18) (hlink : (Cond.fieldLink own index ref (T_Client j).2.1 (T_Client j).2.2.1).before args s = true) (hsame : ∀ x, s.fieldFound? (T_Client j).1 (T_Client j).2.1 (T_Client j).2.2.1 = some x → s.fieldFound? ref (T_Client j).2.1 (T_Client j).2.2.1 = some x) {v : Value} (hv : (sp_cEndpoint α K (σ.1 K) (σ.2 K))[j]? = some v) (hdg : decode cc pc = .ok (.getfield index, 3))
    (kk : W p l e R s m args below meth c H locs cells slots Q (F0 m (pc + 3) ls (v :: rest))) : W p l e R s m args below meth c H locs cells slots Q (F0 m pc ls (.ref (α K) :: rest)) :=
  va_get (D := D) (ci := 7) (C := "SecurePair$Client") (T := T_Client) (N := 18) hx hb ht in_Client hown hK hP K (sp_at_Client hk) rfl j hj hlink hsame hv hdg kk
theorem sp_pi_Client (hx : p.tables.exec = Jvm.exec) (hb : c.code = cc) (ht : ∀ w ∈ xa, w.before args s = true) (hown : s.vm.findClass own = some m.cls) (hK : va_K D xC (sp_t κ) s) (hP : va_P D xC (sp_w α κ σ) H) (hk : sp_isClient K) (j : Nat) (hj : j < 18) (hlink : (Cond.fieldLink own index ref (T_Client j).2.1 (T_Client j).2.2.1).before args s = true) (hsame : ∀ x, s.fieldFound? (T_Client j).1 (T_Client j).2.1 (T_Client j).2.2.1 = some x → s.fieldFound? ref (T_Client j).2.1 (T_Client j).2.2.1 = some x) (hD : ∀ σ, va_D A (sp_w α κ σ)) (hS : va_S A H0 H locs) {x : Int32} (hfin : (T_Client j).2.2.2 = false) {ty : FieldType} (hd : parseFieldDescriptor (T_Client j).2.2.1 = some ty) (hn : narrow ty (.int x) = .int x) (hfit : fits ty (.int x) = true) (hf : (sp_cEndpoint α K (σ.1 K) (σ.2 K)).set j (.int x) = sp_cEndpoint α K (va_up (σ.1 K) j x) (σ.2 K)) (hdg : decode cc pc = .ok (.putfield index, 3))
    (kk : ∀ (H1 : Heap) (locs1 : List Loc), va_P D xC (sp_w α κ (xb_si σ K j x)) H1 → va_S A H0 H1 locs1 → W p l e R s m args below meth c H1 locs1 cells slots Q (F0 m (pc + 3) ls rest)) : W p l e R s m args below meth c H locs cells slots Q (F0 m pc ls (.int x :: .ref (α K) :: rest)) := by
  refine va_put (D := D) (ci := 7) (C := "SecurePair$Client") (T := T_Client) (N := 18) hx hb ht in_Client t_Client t_Client_ok n_Client hown hK hP (hD σ) hS K (sp_at_Client hk) rfl j hj hlink hsame hfin hd hn hfit (by show j < 18; exact hj) hdg (fun H1 locs1 hP1 _ hS1 => ?_)
  rw [sp_si_Client hk j x hf] at hP1
  exact kk H1 locs1 hP1 hS1
theorem sp_pl_Client (hx : p.tables.exec = Jvm.exec) (hb : c.code = cc) (ht : ∀ w ∈ xa, w.before args s = true) (hown : s.vm.findClass own = some m.cls) (hK : va_K D xC (sp_t κ) s) (hP : va_P D xC (sp_w α κ σ) H) (hk : sp_isClient K) (j : Nat) (hj : j < 18) (hlink : (Cond.fieldLink own index ref (T_Client j).2.1 (T_Client j).2.2.1).before args s = true) (hsame : ∀ x, s.fieldFound? (T_Client j).1 (T_Client j).2.1 (T_Client j).2.2.1 = some x → s.fieldFound? ref (T_Client j).2.1 (T_Client j).2.2.1 = some x) (hD : ∀ σ, va_D A (sp_w α κ σ)) (hS : va_S A H0 H locs) {x : Int64} (hfin : (T_Client j).2.2.2 = false) {ty : FieldType} (hd : parseFieldDescriptor (T_Client j).2.2.1 = some ty) (hn : narrow ty (.long x) = .long x) (hfit : fits ty (.long x) = true) (hf : (sp_cEndpoint α K (σ.1 K) (σ.2 K)).set j (.long x) = sp_cEndpoint α K (σ.1 K) (va_up (σ.2 K) j x)) (hdg : decode cc pc = .ok (.putfield index, 3))
    (kk : ∀ (H1 : Heap) (locs1 : List Loc), va_P D xC (sp_w α κ (xb_sl σ K j x)) H1 → va_S A H0 H1 locs1 → W p l e R s m args below meth c H1 locs1 cells slots Q (F0 m (pc + 3) ls rest)) : W p l e R s m args below meth c H locs cells slots Q (F0 m pc ls (.long x :: .ref (α K) :: rest)) := by
  refine va_put (D := D) (ci := 7) (C := "SecurePair$Client") (T := T_Client) (N := 18) hx hb ht in_Client t_Client t_Client_ok n_Client hown hK hP (hD σ) hS K (sp_at_Client hk) rfl j hj hlink hsame hfin hd hn hfit (by show j < 18; exact hj) hdg (fun H1 locs1 hP1 _ hS1 => ?_)
  rw [sp_sl_Client hk j x hf] at hP1
  exact kk H1 locs1 hP1 hS1
theorem sp_g_Server (hx : p.tables.exec = Jvm.exec) (hb : c.code = cc) (ht : ∀ w ∈ xa, w.before args s = true) (hown : s.vm.findClass own = some m.cls) (hK : va_K D xC (sp_t κ) s) (hP : va_P D xC (sp_w α κ σ) H) (hk : sp_isServer K) (j : Nat) (hj : j < 18) (hlink : (Cond.fieldLink own index ref (T_Server j).2.1 (T_Server j).2.2.1).before args s = true) (hsame : ∀ x, s.fieldFound? (T_Server j).1 (T_Server j).2.1 (T_Server j).2.2.1 = some x → s.fieldFound? ref (T_Server j).2.1 (T_Server j).2.2.1 = some x) {v : Value} (hv : (sp_cEndpoint α K (σ.1 K) (σ.2 K))[j]? = some v) (hdg : decode cc pc = .ok (.getfield index, 3))
    (kk : W p l e R s m args below meth c H locs cells slots Q (F0 m (pc + 3) ls (v :: rest))) : W p l e R s m args below meth c H locs cells slots Q (F0 m pc ls (.ref (α K) :: rest)) :=
  va_get (D := D) (ci := 8) (C := "SecurePair$Server") (T := T_Server) (N := 18) hx hb ht in_Server hown hK hP K (sp_at_Server hk) rfl j hj hlink hsame hv hdg kk
theorem sp_pi_Server (hx : p.tables.exec = Jvm.exec) (hb : c.code = cc) (ht : ∀ w ∈ xa, w.before args s = true) (hown : s.vm.findClass own = some m.cls) (hK : va_K D xC (sp_t κ) s) (hP : va_P D xC (sp_w α κ σ) H) (hk : sp_isServer K) (j : Nat) (hj : j < 18) (hlink : (Cond.fieldLink own index ref (T_Server j).2.1 (T_Server j).2.2.1).before args s = true) (hsame : ∀ x, s.fieldFound? (T_Server j).1 (T_Server j).2.1 (T_Server j).2.2.1 = some x → s.fieldFound? ref (T_Server j).2.1 (T_Server j).2.2.1 = some x) (hD : ∀ σ, va_D A (sp_w α κ σ)) (hS : va_S A H0 H locs) {x : Int32} (hfin : (T_Server j).2.2.2 = false) {ty : FieldType} (hd : parseFieldDescriptor (T_Server j).2.2.1 = some ty) (hn : narrow ty (.int x) = .int x) (hfit : fits ty (.int x) = true) (hf : (sp_cEndpoint α K (σ.1 K) (σ.2 K)).set j (.int x) = sp_cEndpoint α K (va_up (σ.1 K) j x) (σ.2 K)) (hdg : decode cc pc = .ok (.putfield index, 3))
    (kk : ∀ (H1 : Heap) (locs1 : List Loc), va_P D xC (sp_w α κ (xb_si σ K j x)) H1 → va_S A H0 H1 locs1 → W p l e R s m args below meth c H1 locs1 cells slots Q (F0 m (pc + 3) ls rest)) : W p l e R s m args below meth c H locs cells slots Q (F0 m pc ls (.int x :: .ref (α K) :: rest)) := by
  refine va_put (D := D) (ci := 8) (C := "SecurePair$Server") (T := T_Server) (N := 18) hx hb ht in_Server t_Server t_Server_ok n_Server hown hK hP (hD σ) hS K (sp_at_Server hk) rfl j hj hlink hsame hfin hd hn hfit (by show j < 18; exact hj) hdg (fun H1 locs1 hP1 _ hS1 => ?_)
  rw [sp_si_Server hk j x hf] at hP1
  exact kk H1 locs1 hP1 hS1
theorem sp_pl_Server (hx : p.tables.exec = Jvm.exec) (hb : c.code = cc) (ht : ∀ w ∈ xa, w.before args s = true) (hown : s.vm.findClass own = some m.cls) (hK : va_K D xC (sp_t κ) s) (hP : va_P D xC (sp_w α κ σ) H) (hk : sp_isServer K) (j : Nat) (hj : j < 18) (hlink : (Cond.fieldLink own index ref (T_Server j).2.1 (T_Server j).2.2.1).before args s = true) (hsame : ∀ x, s.fieldFound? (T_Server j).1 (T_Server j).2.1 (T_Server j).2.2.1 = some x → s.fieldFound? ref (T_Server j).2.1 (T_Server j).2.2.1 = some x) (hD : ∀ σ, va_D A (sp_w α κ σ)) (hS : va_S A H0 H locs) {x : Int64} (hfin : (T_Server j).2.2.2 = false) {ty : FieldType} (hd : parseFieldDescriptor (T_Server j).2.2.1 = some ty) (hn : narrow ty (.long x) = .long x) (hfit : fits ty (.long x) = true) (hf : (sp_cEndpoint α K (σ.1 K) (σ.2 K)).set j (.long x) = sp_cEndpoint α K (σ.1 K) (va_up (σ.2 K) j x)) (hdg : decode cc pc = .ok (.putfield index, 3))
    (kk : ∀ (H1 : Heap) (locs1 : List Loc), va_P D xC (sp_w α κ (xb_sl σ K j x)) H1 → va_S A H0 H1 locs1 → W p l e R s m args below meth c H1 locs1 cells slots Q (F0 m (pc + 3) ls rest)) : W p l e R s m args below meth c H locs cells slots Q (F0 m pc ls (.long x :: .ref (α K) :: rest)) := by
  refine va_put (D := D) (ci := 8) (C := "SecurePair$Server") (T := T_Server) (N := 18) hx hb ht in_Server t_Server t_Server_ok n_Server hown hK hP (hD σ) hS K (sp_at_Server hk) rfl j hj hlink hsame hfin hd hn hfit (by show j < 18; exact hj) hdg (fun H1 locs1 hP1 _ hS1 => ?_)
  rw [sp_sl_Server hk j x hf] at hP1
  exact kk H1 locs1 hP1 hS1
theorem sp_TE : ∀ j, j < 17 → T_Server j = T_Client j := by decide +kernel
theorem sp_g_Endpoint (hx : p.tables.exec = Jvm.exec) (hb : c.code = cc) (ht : ∀ w ∈ xa, w.before args s = true) (hown : s.vm.findClass own = some m.cls) (hK : va_K D xC (sp_t κ) s) (hP : va_P D xC (sp_w α κ σ) H) (hk : sp_isEndpoint K) (j : Nat) (hj : j < 17) (hlink : (Cond.fieldLink own index ref (T_Client j).2.1 (T_Client j).2.2.1).before args s = true) (hsame : ∀ x, s.fieldFound? (T_Client j).1 (T_Client j).2.1 (T_Client j).2.2.1 = some x → s.fieldFound? ref (T_Client j).2.1 (T_Client j).2.2.1 = some x) {v : Value} (hv : (sp_cEndpoint α K (σ.1 K) (σ.2 K))[j]? = some v) (hdg : decode cc pc = .ok (.getfield index, 3))
    (kk : W p l e R s m args below meth c H locs cells slots Q (F0 m (pc + 3) ls (v :: rest))) : W p l e R s m args below meth c H locs cells slots Q (F0 m pc ls (.ref (α K) :: rest)) := by
  rcases hk with hk | hk
  · exact sp_g_Client hx hb ht hown hK hP hk j (by omega) hlink hsame hv hdg kk
  · rw [← sp_TE j hj] at hlink hsame
    exact sp_g_Server hx hb ht hown hK hP hk j (by omega) hlink hsame hv hdg kk
theorem sp_pi_Endpoint (hx : p.tables.exec = Jvm.exec) (hb : c.code = cc) (ht : ∀ w ∈ xa, w.before args s = true) (hown : s.vm.findClass own = some m.cls) (hK : va_K D xC (sp_t κ) s) (hP : va_P D xC (sp_w α κ σ) H) (hk : sp_isEndpoint K) (j : Nat) (hj : j < 17) (hlink : (Cond.fieldLink own index ref (T_Client j).2.1 (T_Client j).2.2.1).before args s = true) (hsame : ∀ x, s.fieldFound? (T_Client j).1 (T_Client j).2.1 (T_Client j).2.2.1 = some x → s.fieldFound? ref (T_Client j).2.1 (T_Client j).2.2.1 = some x) (hD : ∀ σ, va_D A (sp_w α κ σ)) (hS : va_S A H0 H locs) {x : Int32} (hfin : (T_Client j).2.2.2 = false) {ty : FieldType} (hd : parseFieldDescriptor (T_Client j).2.2.1 = some ty) (hn : narrow ty (.int x) = .int x) (hfit : fits ty (.int x) = true) (hf : (sp_cEndpoint α K (σ.1 K) (σ.2 K)).set j (.int x) = sp_cEndpoint α K (va_up (σ.1 K) j x) (σ.2 K)) (hdg : decode cc pc = .ok (.putfield index, 3))
    (kk : ∀ (H1 : Heap) (locs1 : List Loc), va_P D xC (sp_w α κ (xb_si σ K j x)) H1 → va_S A H0 H1 locs1 → W p l e R s m args below meth c H1 locs1 cells slots Q (F0 m (pc + 3) ls rest)) : W p l e R s m args below meth c H locs cells slots Q (F0 m pc ls (.int x :: .ref (α K) :: rest)) := by
  rcases hk with hk | hk
  · exact sp_pi_Client hx hb ht hown hK hP hk j (by omega) hlink hsame hD hS hfin hd hn hfit hf hdg kk
  · rw [← sp_TE j hj] at hlink hsame hfin hd
    exact sp_pi_Server hx hb ht hown hK hP hk j (by omega) hlink hsame hD hS hfin hd hn hfit hf hdg kk
theorem sp_pl_Endpoint (hx : p.tables.exec = Jvm.exec) (hb : c.code = cc) (ht : ∀ w ∈ xa, w.before args s = true) (hown : s.vm.findClass own = some m.cls) (hK : va_K D xC (sp_t κ) s) (hP : va_P D xC (sp_w α κ σ) H) (hk : sp_isEndpoint K) (j : Nat) (hj : j < 17) (hlink : (Cond.fieldLink own index ref (T_Client j).2.1 (T_Client j).2.2.1).before args s = true) (hsame : ∀ x, s.fieldFound? (T_Client j).1 (T_Client j).2.1 (T_Client j).2.2.1 = some x → s.fieldFound? ref (T_Client j).2.1 (T_Client j).2.2.1 = some x) (hD : ∀ σ, va_D A (sp_w α κ σ)) (hS : va_S A H0 H locs) {x : Int64} (hfin : (T_Client j).2.2.2 = false) {ty : FieldType} (hd : parseFieldDescriptor (T_Client j).2.2.1 = some ty) (hn : narrow ty (.long x) = .long x) (hfit : fits ty (.long x) = true) (hf : (sp_cEndpoint α K (σ.1 K) (σ.2 K)).set j (.long x) = sp_cEndpoint α K (σ.1 K) (va_up (σ.2 K) j x)) (hdg : decode cc pc = .ok (.putfield index, 3))
    (kk : ∀ (H1 : Heap) (locs1 : List Loc), va_P D xC (sp_w α κ (xb_sl σ K j x)) H1 → va_S A H0 H1 locs1 → W p l e R s m args below meth c H1 locs1 cells slots Q (F0 m (pc + 3) ls rest)) : W p l e R s m args below meth c H locs cells slots Q (F0 m pc ls (.long x :: .ref (α K) :: rest)) := by
  rcases hk with hk | hk
  · exact sp_pl_Client hx hb ht hown hK hP hk j (by omega) hlink hsame hD hS hfin hd hn hfit hf hdg kk
  · rw [← sp_TE j hj] at hlink hsame hfin hd
    exact sp_pl_Server hx hb ht hown hK hP hk j (by omega) hlink hsame hD hS hfin hd hn hfit hf hdg kk
theorem sp_ga_rows (hx : p.tables.exec = Jvm.exec) (hb : c.code = cc) (hK : va_K D xC (sp_t κ) s) (hP : va_P D xC (sp_w α κ σ) H) (hk : sp_isrows K) {i : Int32} (hin : vp_in i 96) {n : Nat} (hi : i.toNatClampNeg = n) {v : Int64} (hv : σ.2 K n = v) (hdg : decode cc pc = .ok (.laload, 1)) (kk : W p l e R s m args below meth c H locs cells slots Q (F0 m (pc + 1) ls (.long v :: rest))) : W p l e R s m args below meth c H locs cells slots Q (F0 m pc ls (.int i :: .ref (α K) :: rest)) := by
  subst hi
  subst hv
  rcases hk with rfl | rfl
  · exact va_lald hx hb hK hP 3 0 rfl rfl hin hdg kk
  · exact va_lald hx hb hK hP 4 1 rfl rfl hin hdg kk
theorem sp_pa_rows (hx : p.tables.exec = Jvm.exec) (hb : c.code = cc) (hK : va_K D xC (sp_t κ) s) (hP : va_P D xC (sp_w α κ σ) H) (hk : sp_isrows K) (hD : ∀ σ, va_D A (sp_w α κ σ)) (hS : va_S A H0 H locs) {i : Int32} {x : Int64} (hin : vp_in i 96) {n : Nat} (hi : i.toNatClampNeg = n) (hdg : decode cc pc = .ok (.lastore, 1)) (kk : ∀ (H1 : Heap) (locs1 : List Loc), va_P D xC (sp_w α κ (xb_sl σ K n x)) H1 → va_S A H0 H1 locs1 → W p l e R s m args below meth c H1 locs1 cells slots Q (F0 m (pc + 1) ls rest)) : W p l e R s m args below meth c H locs cells slots Q (F0 m pc ls (.long x :: .int i :: .ref (α K) :: rest)) := by
  subst hi
  rcases hk with rfl | rfl
  · exact va_last hx hb hK hP (hD σ) hS 3 0 rfl rfl hin hdg (fun H1 locs1 hP1 _ hS1 => kk H1 locs1 hP1 hS1)
  · exact va_last hx hb hK hP (hD σ) hS 4 1 rfl rfl hin hdg (fun H1 locs1 hP1 _ hS1 => kk H1 locs1 hP1 hS1)
theorem sp_ga_inbox (hx : p.tables.exec = Jvm.exec) (hb : c.code = cc) (hK : va_K D xC (sp_t κ) s) (hP : va_P D xC (sp_w α κ σ) H) (hk : sp_isinbox K) {i : Int32} (hin : vp_in i 24) {n : Nat} (hi : i.toNatClampNeg = n) {v : Int32} (hv : σ.1 K n = v) (hdg : decode cc pc = .ok (.iaload, 1)) (kk : W p l e R s m args below meth c H locs cells slots Q (F0 m (pc + 1) ls (.int v :: rest))) : W p l e R s m args below meth c H locs cells slots Q (F0 m pc ls (.int i :: .ref (α K) :: rest)) := by
  subst hi
  subst hv
  rcases hk with rfl | rfl | rfl | rfl | rfl | rfl
  · exact va_iald hx hb hK hP 17 4 rfl rfl hin hdg kk
  · exact va_iald hx hb hK hP 18 5 rfl rfl hin hdg kk
  · exact va_iald hx hb hK hP 19 6 rfl rfl hin hdg kk
  · exact va_iald hx hb hK hP 32 7 rfl rfl hin hdg kk
  · exact va_iald hx hb hK hP 33 8 rfl rfl hin hdg kk
  · exact va_iald hx hb hK hP 34 9 rfl rfl hin hdg kk
theorem sp_pa_inbox (hx : p.tables.exec = Jvm.exec) (hb : c.code = cc) (hK : va_K D xC (sp_t κ) s) (hP : va_P D xC (sp_w α κ σ) H) (hk : sp_isinbox K) (hD : ∀ σ, va_D A (sp_w α κ σ)) (hS : va_S A H0 H locs) {i : Int32} {x : Int32} (hin : vp_in i 24) {n : Nat} (hi : i.toNatClampNeg = n) (hdg : decode cc pc = .ok (.iastore, 1)) (kk : ∀ (H1 : Heap) (locs1 : List Loc), va_P D xC (sp_w α κ (xb_si σ K n x)) H1 → va_S A H0 H1 locs1 → W p l e R s m args below meth c H1 locs1 cells slots Q (F0 m (pc + 1) ls rest)) : W p l e R s m args below meth c H locs cells slots Q (F0 m pc ls (.int x :: .int i :: .ref (α K) :: rest)) := by
  subst hi
  rcases hk with rfl | rfl | rfl | rfl | rfl | rfl
  · exact va_iast hx hb hK hP (hD σ) hS 17 4 rfl rfl hin hdg (fun H1 locs1 hP1 _ hS1 => kk H1 locs1 hP1 hS1)
  · exact va_iast hx hb hK hP (hD σ) hS 18 5 rfl rfl hin hdg (fun H1 locs1 hP1 _ hS1 => kk H1 locs1 hP1 hS1)
  · exact va_iast hx hb hK hP (hD σ) hS 19 6 rfl rfl hin hdg (fun H1 locs1 hP1 _ hS1 => kk H1 locs1 hP1 hS1)
  · exact va_iast hx hb hK hP (hD σ) hS 32 7 rfl rfl hin hdg (fun H1 locs1 hP1 _ hS1 => kk H1 locs1 hP1 hS1)
  · exact va_iast hx hb hK hP (hD σ) hS 33 8 rfl rfl hin hdg (fun H1 locs1 hP1 _ hS1 => kk H1 locs1 hP1 hS1)
  · exact va_iast hx hb hK hP (hD σ) hS 34 9 rfl rfl hin hdg (fun H1 locs1 hP1 _ hS1 => kk H1 locs1 hP1 hS1)
theorem sp_ga_chArr (hx : p.tables.exec = Jvm.exec) (hb : c.code = cc) (hK : va_K D xC (sp_t κ) s) (hP : va_P D xC (sp_w α κ σ) H) (hk : sp_ischArr K) {i : Int32} (hin : vp_in i 3) {n : Nat} (hi : i.toNatClampNeg = n) (hdg : decode cc pc = .ok (.aaload, 1)) (kk : W p l e R s m args below meth c H locs cells slots Q (F0 m (pc + 1) ls (.ref (α (K + 1 + n)) :: rest))) : W p l e R s m args below meth c H locs cells slots Q (F0 m pc ls (.int i :: .ref (α K) :: rest)) := by
  subst hi
  rcases hk with rfl | rfl
  · exact va_aldq hx hb hK hP 13 2 rfl rfl hin hdg kk
  · exact va_aldq hx hb hK hP 28 3 rfl rfl hin hdg kk
theorem sp_copy (hx : p.tables.exec = Jvm.exec) (hb : c.code = cc) (hK : va_K D xC (sp_t κ) s) (hP : va_P D xC (sp_w α κ σ) H) (hml : c.maxLocals = ls.size) (hown : s.vm.findClass own = some m.cls) (ht : ∀ w ∈ xa, w.before args s = true) (w1 : Cond.methodLink own index arraycopyName ∈ xa) (w2 : Cond.native arraycopyName ∈ xa) (w3 : Cond.static arraycopyName ∈ xa) (w4 : Cond.initialized "java/lang/System" ∈ xa) (hk : sp_isrows K) (hD : ∀ σ, va_D A (sp_w α κ σ)) (hS : va_S A H0 H locs) {sp dp n : Int32} {a b k : Nat} (e1 : sp = nI a) (e2 : dp = nI b) (e3 : n = nI k) (h4 : a + k ≤ 96) (h5 : b + k ≤ 96) (hframes : 1 ≤ R.frames) (hlocals : (rest.map fun v => v.category).sum + 18 ≤ R.locals) (hdg : decode cc pc = .ok (.invokestatic index, 3)) (kk : ∀ (H1 : Heap) (locs1 : List Loc), va_P D xC (sp_w α κ (xb_cp σ K a b k)) H1 → va_S A H0 H1 locs1 → W p l e R s m args below meth c H1 locs1 cells slots Q (F0 m (pc + 3) ls rest)) : W p l e R s m args below meth c H locs cells slots Q (F0 m pc ls (.int n :: .int dp :: .ref (α K) :: .int sp :: .ref (α K) :: rest)) := by
  have c1 := xb_cl e1 (by omega)
  have c2 := xb_cl e2 (by omega)
  have c3 := xb_cl e3 (by omega)
  rcases hk with rfl | rfl
  · exact va_copyl hx hb hml hown (ht _ w1) (ht _ w2) (ht _ w3) (ht _ w4) hK hP (hD σ) hS 3 3 0 0 rfl rfl rfl rfl rfl (xb_nneg e1 (by omega)) (xb_nneg e2 (by omega)) (xb_nneg e3 (by omega)) (by omega) (by omega) (fun _ _ => rfl) hframes hlocals hdg (fun H1 locs1 hP1 _ hS1 => kk H1 locs1 (by rw [c1, c2, c3] at hP1; exact hP1) hS1)
  · exact va_copyl hx hb hml hown (ht _ w1) (ht _ w2) (ht _ w3) (ht _ w4) hK hP (hD σ) hS 4 4 1 1 rfl rfl rfl rfl rfl (xb_nneg e1 (by omega)) (xb_nneg e2 (by omega)) (xb_nneg e3 (by omega)) (by omega) (by omega) (fun _ _ => rfl) hframes hlocals hdg (fun H1 locs1 hP1 _ hS1 => kk H1 locs1 (by rw [c1, c2, c3] at hP1; exact hP1) hS1)
end SPW
/-- what the walks need of the numbers -/
def sp_ok (σ : xb_St) : Prop := (∀ k, sp_isLine k → ∃ n : Nat, n ≤ 16 ∧ σ.1 k 1 = nI n) ∧ ∀ k, sp_isChannel k → (∃ n : Nat, n < 24 ∧ σ.1 k 6 = nI n) ∧ ∃ n : Nat, n ≤ 24 ∧ σ.1 k 7 = nI n
theorem xb_i_of {σ : xb_St} {K j K' j' : Nat} {v : Int32} (h : K' = K → j' ≠ j) : (xb_si σ K j v).1 K' j' = σ.1 K' j' := by
  by_cases hK : K' = K
  · subst hK; exact xb_i_nj (h rfl)
  · exact xb_i_nk hK
theorem ok_sl {σ : xb_St} {K j : Nat} {v : Int64} (h : sp_ok σ) : sp_ok (xb_sl σ K j v) := h
theorem ok_cp {σ : xb_St} {K a b k : Nat} (h : sp_ok σ) : sp_ok (xb_cp σ K a b k) := h
theorem ok_si {σ : xb_St} {K j : Nat} {v : Int32} (h : sp_ok σ) (h1 : ¬ (sp_isLine K ∧ j = 1)) (h2 : ¬ (sp_isChannel K ∧ (j = 6 ∨ j = 7))) : sp_ok (xb_si σ K j v) := by
  refine ⟨fun k hk => ?_, fun k hk => ⟨?_, ?_⟩⟩
  · rw [xb_i_of (K := K) (j := j) (K' := k) (j' := 1) (fun e q => h1 ⟨by rw [← e]; exact hk, q.symm⟩)]; exact h.1 k hk
  · rw [xb_i_of (K := K) (j := j) (K' := k) (j' := 6) (fun e q => h2 ⟨by rw [← e]; exact hk, Or.inl q.symm⟩)]; exact (h.2 k hk).1
  · rw [xb_i_of (K := K) (j := j) (K' := k) (j' := 7) (fun e q => h2 ⟨by rw [← e]; exact hk, Or.inr q.symm⟩)]; exact (h.2 k hk).2
theorem ok_line {σ : xb_St} {K : Nat} {v : Int32} (h : sp_ok σ) (hK : sp_isLine K) (hv : ∃ n : Nat, n ≤ 16 ∧ v = nI n) : sp_ok (xb_si σ K 1 v) := by
  refine ⟨fun k hk => ?_, fun k hk => ⟨?_, ?_⟩⟩
  · by_cases e : k = K
    · subst e; rw [xb_i_hit]; exact hv
    · rw [xb_i_nk e]; exact h.1 k hk
  · rw [xb_i_nk (by omega)]; exact (h.2 k hk).1
  · rw [xb_i_nk (by omega)]; exact (h.2 k hk).2
theorem ok_first {σ : xb_St} {K : Nat} {v : Int32} (h : sp_ok σ) (hK : sp_isChannel K) (hv : ∃ n : Nat, n < 24 ∧ v = nI n) : sp_ok (xb_si σ K 6 v) := by
  refine ⟨fun k hk => ?_, fun k hk => ⟨?_, ?_⟩⟩
  · rw [xb_i_nk (by omega)]; exact h.1 k hk
  · by_cases e : k = K
    · subst e; rw [xb_i_hit]; exact hv
    · rw [xb_i_nk e]; exact (h.2 k hk).1
  · rw [xb_i_of (fun _ => by decide)]; exact (h.2 k hk).2
theorem ok_held {σ : xb_St} {K : Nat} {v : Int32} (h : sp_ok σ) (hK : sp_isChannel K) (hv : ∃ n : Nat, n ≤ 24 ∧ v = nI n) : sp_ok (xb_si σ K 7 v) := by
  refine ⟨fun k hk => ?_, fun k hk => ⟨?_, ?_⟩⟩
  · rw [xb_i_nk (by omega)]; exact h.1 k hk
  · rw [xb_i_of (fun _ => by decide)]; exact (h.2 k hk).1
  · by_cases e : k = K
    · subst e; rw [xb_i_hit]; exact hv
    · rw [xb_i_nk e]; exact (h.2 k hk).2
