/-! Names: the kinds of objects, their fields in an order of their own, their types; by program out of the Statement. -/
def R_U : String := "UnikernelHttp"
def F_U : u_T := fun k => match k with
  | 0 => ("UnikernelHttp", "row", "[B", true)
  | 1 => ("UnikernelHttp", "rowLength", "I", false)
  | 2 => ("UnikernelHttp", "time", "I", false)
  | 3 => ("UnikernelHttp", "neighbours", "LUnikernelHttp$Neighbours;", true)
  | 4 => ("UnikernelHttp", "wire", "LUnikernelHttp$Wire;", true)
  | 5 => ("UnikernelHttp", "gatherings", "LUnikernelHttp$Gatherings;", true)
  | 6 => ("UnikernelHttp", "segment", "LUnikernelHttp$Segment;", true)
  | 7 => ("UnikernelHttp", "tcp", "LUnikernelHttp$Tcp;", true)
  | 8 => ("UnikernelHttp", "store", "LUnikernelHttp$Store;", true)
  | 9 => ("UnikernelHttp", "http", "LUnikernelHttp$Http;", true)
  | 10 => ("UnikernelHttp", "echo", "[B", true)
  | 11 => ("UnikernelHttp", "datagram", "[B", false)
  | 12 => ("UnikernelHttp", "datagramAt", "I", false)
  | _ => ("UnikernelHttp", "datagramLength", "I", false)
def t_U : Nat → FieldType := fun k => match k with
  | 0 => .array .byte
  | 1 => .int
  | 2 => .int
  | 3 => .object "UnikernelHttp$Neighbours"
  | 4 => .object "UnikernelHttp$Wire"
  | 5 => .object "UnikernelHttp$Gatherings"
  | 6 => .object "UnikernelHttp$Segment"
  | 7 => .object "UnikernelHttp$Tcp"
  | 8 => .object "UnikernelHttp$Store"
  | 9 => .object "UnikernelHttp$Http"
  | 10 => .array .byte
  | 11 => .array .byte
  | 12 => .int
  | _ => .int
theorem n_U : ∀ a, a < 14 → ∀ b, b < 14 → a ≠ b → (F_U a).2.1 ≠ (F_U b).2.1 := by decide +kernel
theorem k_U : ∀ k, k < 14 → parseFieldDescriptor (F_U k).2.2.1 = some (t_U k) := by decide +kernel
theorem u_U {args : Array Value} {s : State} (hT : ux_T s) : ∀ w ∈ u_ws R_U F_U 14, w.before args s = true := by
  have h : ∀ w ∈ ([.laysFinal "UnikernelHttp" "UnikernelHttp" "row" "[B", .lays "UnikernelHttp" "UnikernelHttp" "rowLength" "I", .lays "UnikernelHttp" "UnikernelHttp" "time" "I", .laysFinal "UnikernelHttp" "UnikernelHttp" "neighbours" "LUnikernelHttp$Neighbours;", .laysFinal "UnikernelHttp" "UnikernelHttp" "wire" "LUnikernelHttp$Wire;", .laysFinal "UnikernelHttp" "UnikernelHttp" "gatherings" "LUnikernelHttp$Gatherings;", .laysFinal "UnikernelHttp" "UnikernelHttp" "segment" "LUnikernelHttp$Segment;", .laysFinal "UnikernelHttp" "UnikernelHttp" "tcp" "LUnikernelHttp$Tcp;", .laysFinal "UnikernelHttp" "UnikernelHttp" "store" "LUnikernelHttp$Store;", .laysFinal "UnikernelHttp" "UnikernelHttp" "http" "LUnikernelHttp$Http;", .laysFinal "UnikernelHttp" "UnikernelHttp" "echo" "[B", .lays "UnikernelHttp" "UnikernelHttp" "datagram" "[B", .lays "UnikernelHttp" "UnikernelHttp" "datagramAt" "I", .lays "UnikernelHttp" "UnikernelHttp" "datagramLength" "I"] : List Cond), w.before args s = true := by
    intro w hw
    simp only [List.mem_cons, List.not_mem_nil, or_false] at hw
    rcases hw with rfl | rfl | rfl | rfl | rfl | rfl | rfl | rfl | rfl | rfl | rfl | rfl | rfl | rfl
    · exact ux_T_at hT tw_457 rfl
    · exact ux_T_at hT tw_459 rfl
    · exact ux_T_at hT tw_461 rfl
    · exact ux_T_at hT tw_463 rfl
    · exact ux_T_at hT tw_465 rfl
    · exact ux_T_at hT tw_467 rfl
    · exact ux_T_at hT tw_469 rfl
    · exact ux_T_at hT tw_471 rfl
    · exact ux_T_at hT tw_473 rfl
    · exact ux_T_at hT tw_475 rfl
    · exact ux_T_at hT tw_477 rfl
    · exact ux_T_at hT tw_479 rfl
    · exact ux_T_at hT tw_481 rfl
    · exact ux_T_at hT tw_483 rfl
  exact h
def R_N : String := "UnikernelHttp$Neighbours"
def F_N : u_T := fun k => match k with
  | 0 => ("UnikernelHttp$Neighbours", "addresses", "[I", true)
  | 1 => ("UnikernelHttp$Neighbours", "hardware", "[J", true)
  | 2 => ("UnikernelHttp$Neighbours", "heard", "[I", true)
  | 3 => ("UnikernelHttp$Neighbours", "held", "I", false)
  | _ => ("UnikernelHttp$Neighbours", "hearings", "I", false)
def t_N : Nat → FieldType := fun k => match k with
  | 0 => .array .int
  | 1 => .array .long
  | 2 => .array .int
  | 3 => .int
  | _ => .int
theorem n_N : ∀ a, a < 5 → ∀ b, b < 5 → a ≠ b → (F_N a).2.1 ≠ (F_N b).2.1 := by decide +kernel
theorem k_N : ∀ k, k < 5 → parseFieldDescriptor (F_N k).2.2.1 = some (t_N k) := by decide +kernel
theorem u_N {args : Array Value} {s : State} (hT : ux_T s) : ∀ w ∈ u_ws R_N F_N 5, w.before args s = true := by
  have h : ∀ w ∈ ([.laysFinal "UnikernelHttp$Neighbours" "UnikernelHttp$Neighbours" "addresses" "[I", .laysFinal "UnikernelHttp$Neighbours" "UnikernelHttp$Neighbours" "hardware" "[J", .laysFinal "UnikernelHttp$Neighbours" "UnikernelHttp$Neighbours" "heard" "[I", .lays "UnikernelHttp$Neighbours" "UnikernelHttp$Neighbours" "held" "I", .lays "UnikernelHttp$Neighbours" "UnikernelHttp$Neighbours" "hearings" "I"] : List Cond), w.before args s = true := by
    intro w hw
    simp only [List.mem_cons, List.not_mem_nil, or_false] at hw
    rcases hw with rfl | rfl | rfl | rfl | rfl
    · exact ux_T_at hT tw_55 rfl
    · exact ux_T_at hT tw_57 rfl
    · exact ux_T_at hT tw_59 rfl
    · exact ux_T_at hT tw_61 rfl
    · exact ux_T_at hT tw_63 rfl
  exact h
def R_Wi : String := "UnikernelHttp$Wire"
def F_Wi : u_T := fun k => match k with
  | 0 => ("UnikernelHttp$Wire", "neighbours", "LUnikernelHttp$Neighbours;", true)
  | 1 => ("UnikernelHttp$Wire", "frames", "[B", true)
  | 2 => ("UnikernelHttp$Wire", "sizes", "[I", true)
  | 3 => ("UnikernelHttp$Wire", "sent", "I", false)
  | _ => ("UnikernelHttp$Wire", "made", "I", false)
def t_Wi : Nat → FieldType := fun k => match k with
  | 0 => .object "UnikernelHttp$Neighbours"
  | 1 => .array .byte
  | 2 => .array .int
  | 3 => .int
  | _ => .int
theorem n_Wi : ∀ a, a < 5 → ∀ b, b < 5 → a ≠ b → (F_Wi a).2.1 ≠ (F_Wi b).2.1 := by decide +kernel
theorem k_Wi : ∀ k, k < 5 → parseFieldDescriptor (F_Wi k).2.2.1 = some (t_Wi k) := by decide +kernel
theorem u_Wi {args : Array Value} {s : State} (hT : ux_T s) : ∀ w ∈ u_ws R_Wi F_Wi 5, w.before args s = true := by
  have h : ∀ w ∈ ([.laysFinal "UnikernelHttp$Wire" "UnikernelHttp$Wire" "neighbours" "LUnikernelHttp$Neighbours;", .laysFinal "UnikernelHttp$Wire" "UnikernelHttp$Wire" "frames" "[B", .laysFinal "UnikernelHttp$Wire" "UnikernelHttp$Wire" "sizes" "[I", .lays "UnikernelHttp$Wire" "UnikernelHttp$Wire" "sent" "I", .lays "UnikernelHttp$Wire" "UnikernelHttp$Wire" "made" "I"] : List Cond), w.before args s = true := by
    intro w hw
    simp only [List.mem_cons, List.not_mem_nil, or_false] at hw
    rcases hw with rfl | rfl | rfl | rfl | rfl
    · exact ux_T_at hT tw_84 rfl
    · exact ux_T_at hT tw_86 rfl
    · exact ux_T_at hT tw_88 rfl
    · exact ux_T_at hT tw_90 rfl
    · exact ux_T_at hT tw_92 rfl
  exact h
def R_Gs : String := "UnikernelHttp$Gatherings"
def F_Gs : u_T := fun k => match k with
  | 0 => ("UnikernelHttp$Gatherings", "list", "[LUnikernelHttp$Gathering;", true)
  | _ => ("UnikernelHttp$Gatherings", "held", "I", false)
def t_Gs : Nat → FieldType := fun k => match k with
  | 0 => .array (.object "UnikernelHttp$Gathering")
  | _ => .int
theorem n_Gs : ∀ a, a < 2 → ∀ b, b < 2 → a ≠ b → (F_Gs a).2.1 ≠ (F_Gs b).2.1 := by decide +kernel
theorem k_Gs : ∀ k, k < 2 → parseFieldDescriptor (F_Gs k).2.2.1 = some (t_Gs k) := by decide +kernel
theorem u_Gs {args : Array Value} {s : State} (hT : ux_T s) : ∀ w ∈ u_ws R_Gs F_Gs 2, w.before args s = true := by
  have h : ∀ w ∈ ([.laysFinal "UnikernelHttp$Gatherings" "UnikernelHttp$Gatherings" "list" "[LUnikernelHttp$Gathering;", .lays "UnikernelHttp$Gatherings" "UnikernelHttp$Gatherings" "held" "I"] : List Cond), w.before args s = true := by
    intro w hw
    simp only [List.mem_cons, List.not_mem_nil, or_false] at hw
    rcases hw with rfl | rfl
    · exact ux_T_at hT tw_145 rfl
    · exact ux_T_at hT tw_147 rfl
  exact h
def R_G : String := "UnikernelHttp$Gathering"
def F_G : u_T := fun k => match k with
  | 0 => ("UnikernelHttp$Gathering", "content", "[B", true)
  | 1 => ("UnikernelHttp$Gathering", "there", "[B", true)
  | 2 => ("UnikernelHttp$Gathering", "source", "I", false)
  | 3 => ("UnikernelHttp$Gathering", "number", "I", false)
  | 4 => ("UnikernelHttp$Gathering", "protocol", "I", false)
  | 5 => ("UnikernelHttp$Gathering", "begun", "I", false)
  | 6 => ("UnikernelHttp$Gathering", "told", "I", false)
  | 7 => ("UnikernelHttp$Gathering", "farthest", "I", false)
  | _ => ("UnikernelHttp$Gathering", "filled", "I", false)
def t_G : Nat → FieldType := fun k => match k with
  | 0 => .array .byte
  | 1 => .array .byte
  | 2 => .int
  | 3 => .int
  | 4 => .int
  | 5 => .int
  | 6 => .int
  | 7 => .int
  | _ => .int
theorem n_G : ∀ a, a < 9 → ∀ b, b < 9 → a ≠ b → (F_G a).2.1 ≠ (F_G b).2.1 := by decide +kernel
theorem k_G : ∀ k, k < 9 → parseFieldDescriptor (F_G k).2.2.1 = some (t_G k) := by decide +kernel
theorem u_G {args : Array Value} {s : State} (hT : ux_T s) : ∀ w ∈ u_ws R_G F_G 9, w.before args s = true := by
  have h : ∀ w ∈ ([.laysFinal "UnikernelHttp$Gathering" "UnikernelHttp$Gathering" "content" "[B", .laysFinal "UnikernelHttp$Gathering" "UnikernelHttp$Gathering" "there" "[B", .lays "UnikernelHttp$Gathering" "UnikernelHttp$Gathering" "source" "I", .lays "UnikernelHttp$Gathering" "UnikernelHttp$Gathering" "number" "I", .lays "UnikernelHttp$Gathering" "UnikernelHttp$Gathering" "protocol" "I", .lays "UnikernelHttp$Gathering" "UnikernelHttp$Gathering" "begun" "I", .lays "UnikernelHttp$Gathering" "UnikernelHttp$Gathering" "told" "I", .lays "UnikernelHttp$Gathering" "UnikernelHttp$Gathering" "farthest" "I", .lays "UnikernelHttp$Gathering" "UnikernelHttp$Gathering" "filled" "I"] : List Cond), w.before args s = true := by
    intro w hw
    simp only [List.mem_cons, List.not_mem_nil, or_false] at hw
    rcases hw with rfl | rfl | rfl | rfl | rfl | rfl | rfl | rfl | rfl
    · exact ux_T_at hT tw_123 rfl
    · exact ux_T_at hT tw_125 rfl
    · exact ux_T_at hT tw_127 rfl
    · exact ux_T_at hT tw_129 rfl
    · exact ux_T_at hT tw_131 rfl
    · exact ux_T_at hT tw_133 rfl
    · exact ux_T_at hT tw_135 rfl
    · exact ux_T_at hT tw_137 rfl
    · exact ux_T_at hT tw_139 rfl
  exact h
def R_Sg : String := "UnikernelHttp$Segment"
def F_Sg : u_T := fun k => match k with
  | 0 => ("UnikernelHttp$Segment", "from", "[B", false)
  | 1 => ("UnikernelHttp$Segment", "dataAt", "I", false)
  | 2 => ("UnikernelHttp$Segment", "dataLength", "I", false)
  | 3 => ("UnikernelHttp$Segment", "address", "I", false)
  | 4 => ("UnikernelHttp$Segment", "port", "I", false)
  | 5 => ("UnikernelHttp$Segment", "toPort", "I", false)
  | 6 => ("UnikernelHttp$Segment", "number", "I", false)
  | 7 => ("UnikernelHttp$Segment", "acknowledgement", "I", false)
  | 8 => ("UnikernelHttp$Segment", "flags", "I", false)
  | 9 => ("UnikernelHttp$Segment", "window", "I", false)
  | 10 => ("UnikernelHttp$Segment", "length", "I", false)
  | _ => ("UnikernelHttp$Segment", "mss", "I", false)
def t_Sg : Nat → FieldType := fun k => match k with
  | 0 => .array .byte
  | 1 => .int
  | 2 => .int
  | 3 => .int
  | 4 => .int
  | 5 => .int
  | 6 => .int
  | 7 => .int
  | 8 => .int
  | 9 => .int
  | 10 => .int
  | _ => .int
theorem n_Sg : ∀ a, a < 12 → ∀ b, b < 12 → a ≠ b → (F_Sg a).2.1 ≠ (F_Sg b).2.1 := by decide +kernel
theorem k_Sg : ∀ k, k < 12 → parseFieldDescriptor (F_Sg k).2.2.1 = some (t_Sg k) := by decide +kernel
theorem u_Sg {args : Array Value} {s : State} (hT : ux_T s) : ∀ w ∈ u_ws R_Sg F_Sg 12, w.before args s = true := by
  have h : ∀ w ∈ ([.lays "UnikernelHttp$Segment" "UnikernelHttp$Segment" "from" "[B", .lays "UnikernelHttp$Segment" "UnikernelHttp$Segment" "dataAt" "I", .lays "UnikernelHttp$Segment" "UnikernelHttp$Segment" "dataLength" "I", .lays "UnikernelHttp$Segment" "UnikernelHttp$Segment" "address" "I", .lays "UnikernelHttp$Segment" "UnikernelHttp$Segment" "port" "I", .lays "UnikernelHttp$Segment" "UnikernelHttp$Segment" "toPort" "I", .lays "UnikernelHttp$Segment" "UnikernelHttp$Segment" "number" "I", .lays "UnikernelHttp$Segment" "UnikernelHttp$Segment" "acknowledgement" "I", .lays "UnikernelHttp$Segment" "UnikernelHttp$Segment" "flags" "I", .lays "UnikernelHttp$Segment" "UnikernelHttp$Segment" "window" "I", .lays "UnikernelHttp$Segment" "UnikernelHttp$Segment" "length" "I", .lays "UnikernelHttp$Segment" "UnikernelHttp$Segment" "mss" "I"] : List Cond), w.before args s = true := by
    intro w hw
    simp only [List.mem_cons, List.not_mem_nil, or_false] at hw
    rcases hw with rfl | rfl | rfl | rfl | rfl | rfl | rfl | rfl | rfl | rfl | rfl | rfl
    · exact ux_T_at hT tw_189 rfl
    · exact ux_T_at hT tw_191 rfl
    · exact ux_T_at hT tw_193 rfl
    · exact ux_T_at hT tw_195 rfl
    · exact ux_T_at hT tw_197 rfl
    · exact ux_T_at hT tw_199 rfl
    · exact ux_T_at hT tw_201 rfl
    · exact ux_T_at hT tw_203 rfl
    · exact ux_T_at hT tw_205 rfl
    · exact ux_T_at hT tw_207 rfl
    · exact ux_T_at hT tw_209 rfl
    · exact ux_T_at hT tw_211 rfl
  exact h
def R_Tc : String := "UnikernelHttp$Tcp"
def F_Tc : u_T := fun k => match k with
  | 0 => ("UnikernelHttp$Tcp", "list", "[LUnikernelHttp$Connection;", true)
  | 1 => ("UnikernelHttp$Tcp", "body", "[B", true)
  | 2 => ("UnikernelHttp$Tcp", "wire", "LUnikernelHttp$Wire;", true)
  | 3 => ("UnikernelHttp$Tcp", "held", "I", false)
  | _ => ("UnikernelHttp$Tcp", "made", "I", false)
def t_Tc : Nat → FieldType := fun k => match k with
  | 0 => .array (.object "UnikernelHttp$Connection")
  | 1 => .array .byte
  | 2 => .object "UnikernelHttp$Wire"
  | 3 => .int
  | _ => .int
theorem n_Tc : ∀ a, a < 5 → ∀ b, b < 5 → a ≠ b → (F_Tc a).2.1 ≠ (F_Tc b).2.1 := by decide +kernel
theorem k_Tc : ∀ k, k < 5 → parseFieldDescriptor (F_Tc k).2.2.1 = some (t_Tc k) := by decide +kernel
theorem u_Tc {args : Array Value} {s : State} (hT : ux_T s) : ∀ w ∈ u_ws R_Tc F_Tc 5, w.before args s = true := by
  have h : ∀ w ∈ ([.laysFinal "UnikernelHttp$Tcp" "UnikernelHttp$Tcp" "list" "[LUnikernelHttp$Connection;", .laysFinal "UnikernelHttp$Tcp" "UnikernelHttp$Tcp" "body" "[B", .laysFinal "UnikernelHttp$Tcp" "UnikernelHttp$Tcp" "wire" "LUnikernelHttp$Wire;", .lays "UnikernelHttp$Tcp" "UnikernelHttp$Tcp" "held" "I", .lays "UnikernelHttp$Tcp" "UnikernelHttp$Tcp" "made" "I"] : List Cond), w.before args s = true := by
    intro w hw
    simp only [List.mem_cons, List.not_mem_nil, or_false] at hw
    rcases hw with rfl | rfl | rfl | rfl | rfl
    · exact ux_T_at hT tw_377 rfl
    · exact ux_T_at hT tw_379 rfl
    · exact ux_T_at hT tw_381 rfl
    · exact ux_T_at hT tw_383 rfl
    · exact ux_T_at hT tw_385 rfl
  exact h
def R_Co : String := "UnikernelHttp$Connection"
def F_Co : u_T := fun k => match k with
  | 0 => ("UnikernelHttp$Connection", "inbox", "LUnikernelHttp$Inbox;", true)
  | 1 => ("UnikernelHttp$Connection", "outbox", "LUnikernelHttp$Outbox;", true)
  | 2 => ("UnikernelHttp$Connection", "address", "I", false)
  | 3 => ("UnikernelHttp$Connection", "port", "I", false)
  | 4 => ("UnikernelHttp$Connection", "state", "I", false)
  | 5 => ("UnikernelHttp$Connection", "window", "I", false)
  | 6 => ("UnikernelHttp$Connection", "windowNumber", "I", false)
  | 7 => ("UnikernelHttp$Connection", "windowAcknowledgement", "I", false)
  | 8 => ("UnikernelHttp$Connection", "mss", "I", false)
  | 9 => ("UnikernelHttp$Connection", "span", "I", false)
  | 10 => ("UnikernelHttp$Connection", "limit", "I", false)
  | 11 => ("UnikernelHttp$Connection", "doubles", "I", false)
  | 12 => ("UnikernelHttp$Connection", "tries", "I", false)
  | 13 => ("UnikernelHttp$Connection", "timeout", "I", false)
  | 14 => ("UnikernelHttp$Connection", "timer", "I", false)
  | 15 => ("UnikernelHttp$Connection", "leavesAt", "I", false)
  | _ => ("UnikernelHttp$Connection", "ends", "Z", false)
def t_Co : Nat → FieldType := fun k => match k with
  | 0 => .object "UnikernelHttp$Inbox"
  | 1 => .object "UnikernelHttp$Outbox"
  | 2 => .int
  | 3 => .int
  | 4 => .int
  | 5 => .int
  | 6 => .int
  | 7 => .int
  | 8 => .int
  | 9 => .int
  | 10 => .int
  | 11 => .int
  | 12 => .int
  | 13 => .int
  | 14 => .int
  | 15 => .int
  | _ => .boolean
theorem n_Co : ∀ a, a < 17 → ∀ b, b < 17 → a ≠ b → (F_Co a).2.1 ≠ (F_Co b).2.1 := by decide +kernel
theorem k_Co : ∀ k, k < 17 → parseFieldDescriptor (F_Co k).2.2.1 = some (t_Co k) := by decide +kernel
theorem u_Co {args : Array Value} {s : State} (hT : ux_T s) : ∀ w ∈ u_ws R_Co F_Co 17, w.before args s = true := by
  have h : ∀ w ∈ ([.laysFinal "UnikernelHttp$Connection" "UnikernelHttp$Connection" "inbox" "LUnikernelHttp$Inbox;", .laysFinal "UnikernelHttp$Connection" "UnikernelHttp$Connection" "outbox" "LUnikernelHttp$Outbox;", .lays "UnikernelHttp$Connection" "UnikernelHttp$Connection" "address" "I", .lays "UnikernelHttp$Connection" "UnikernelHttp$Connection" "port" "I", .lays "UnikernelHttp$Connection" "UnikernelHttp$Connection" "state" "I", .lays "UnikernelHttp$Connection" "UnikernelHttp$Connection" "window" "I", .lays "UnikernelHttp$Connection" "UnikernelHttp$Connection" "windowNumber" "I", .lays "UnikernelHttp$Connection" "UnikernelHttp$Connection" "windowAcknowledgement" "I", .lays "UnikernelHttp$Connection" "UnikernelHttp$Connection" "mss" "I", .lays "UnikernelHttp$Connection" "UnikernelHttp$Connection" "span" "I", .lays "UnikernelHttp$Connection" "UnikernelHttp$Connection" "limit" "I", .lays "UnikernelHttp$Connection" "UnikernelHttp$Connection" "doubles" "I", .lays "UnikernelHttp$Connection" "UnikernelHttp$Connection" "tries" "I", .lays "UnikernelHttp$Connection" "UnikernelHttp$Connection" "timeout" "I", .lays "UnikernelHttp$Connection" "UnikernelHttp$Connection" "timer" "I", .lays "UnikernelHttp$Connection" "UnikernelHttp$Connection" "leavesAt" "I", .lays "UnikernelHttp$Connection" "UnikernelHttp$Connection" "ends" "Z"] : List Cond), w.before args s = true := by
    intro w hw
    simp only [List.mem_cons, List.not_mem_nil, or_false] at hw
    rcases hw with rfl | rfl | rfl | rfl | rfl | rfl | rfl | rfl | rfl | rfl | rfl | rfl | rfl | rfl | rfl | rfl | rfl
    · exact ux_T_at hT tw_335 rfl
    · exact ux_T_at hT tw_337 rfl
    · exact ux_T_at hT tw_339 rfl
    · exact ux_T_at hT tw_341 rfl
    · exact ux_T_at hT tw_343 rfl
    · exact ux_T_at hT tw_345 rfl
    · exact ux_T_at hT tw_347 rfl
    · exact ux_T_at hT tw_349 rfl
    · exact ux_T_at hT tw_351 rfl
    · exact ux_T_at hT tw_353 rfl
    · exact ux_T_at hT tw_355 rfl
    · exact ux_T_at hT tw_357 rfl
    · exact ux_T_at hT tw_359 rfl
    · exact ux_T_at hT tw_361 rfl
    · exact ux_T_at hT tw_363 rfl
    · exact ux_T_at hT tw_365 rfl
    · exact ux_T_at hT tw_367 rfl
  exact h
def R_In : String := "UnikernelHttp$Inbox"
def F_In : u_T := fun k => match k with
  | 0 => ("UnikernelHttp$Inbox", "content", "[B", true)
  | 1 => ("UnikernelHttp$Inbox", "there", "[B", true)
  | 2 => ("UnikernelHttp$Inbox", "length", "I", false)
  | 3 => ("UnikernelHttp$Inbox", "next", "I", false)
  | 4 => ("UnikernelHttp$Inbox", "finTold", "Z", false)
  | 5 => ("UnikernelHttp$Inbox", "finPlace", "I", false)
  | _ => ("UnikernelHttp$Inbox", "finReached", "Z", false)
def t_In : Nat → FieldType := fun k => match k with
  | 0 => .array .byte
  | 1 => .array .byte
  | 2 => .int
  | 3 => .int
  | 4 => .boolean
  | 5 => .int
  | _ => .boolean
theorem n_In : ∀ a, a < 7 → ∀ b, b < 7 → a ≠ b → (F_In a).2.1 ≠ (F_In b).2.1 := by decide +kernel
theorem k_In : ∀ k, k < 7 → parseFieldDescriptor (F_In k).2.2.1 = some (t_In k) := by decide +kernel
theorem u_In {args : Array Value} {s : State} (hT : ux_T s) : ∀ w ∈ u_ws R_In F_In 7, w.before args s = true := by
  have h : ∀ w ∈ ([.laysFinal "UnikernelHttp$Inbox" "UnikernelHttp$Inbox" "content" "[B", .laysFinal "UnikernelHttp$Inbox" "UnikernelHttp$Inbox" "there" "[B", .lays "UnikernelHttp$Inbox" "UnikernelHttp$Inbox" "length" "I", .lays "UnikernelHttp$Inbox" "UnikernelHttp$Inbox" "next" "I", .lays "UnikernelHttp$Inbox" "UnikernelHttp$Inbox" "finTold" "Z", .lays "UnikernelHttp$Inbox" "UnikernelHttp$Inbox" "finPlace" "I", .lays "UnikernelHttp$Inbox" "UnikernelHttp$Inbox" "finReached" "Z"] : List Cond), w.before args s = true := by
    intro w hw
    simp only [List.mem_cons, List.not_mem_nil, or_false] at hw
    rcases hw with rfl | rfl | rfl | rfl | rfl | rfl | rfl
    · exact ux_T_at hT tw_247 rfl
    · exact ux_T_at hT tw_249 rfl
    · exact ux_T_at hT tw_251 rfl
    · exact ux_T_at hT tw_253 rfl
    · exact ux_T_at hT tw_255 rfl
    · exact ux_T_at hT tw_257 rfl
    · exact ux_T_at hT tw_259 rfl
  exact h
def R_Ou : String := "UnikernelHttp$Outbox"
def F_Ou : u_T := fun k => match k with
  | 0 => ("UnikernelHttp$Outbox", "content", "[B", true)
  | 1 => ("UnikernelHttp$Outbox", "length", "I", false)
  | 2 => ("UnikernelHttp$Outbox", "unacked", "I", false)
  | 3 => ("UnikernelHttp$Outbox", "sendNext", "I", false)
  | _ => ("UnikernelHttp$Outbox", "finSent", "Z", false)
def t_Ou : Nat → FieldType := fun k => match k with
  | 0 => .array .byte
  | 1 => .int
  | 2 => .int
  | 3 => .int
  | _ => .boolean
theorem n_Ou : ∀ a, a < 5 → ∀ b, b < 5 → a ≠ b → (F_Ou a).2.1 ≠ (F_Ou b).2.1 := by decide +kernel
theorem k_Ou : ∀ k, k < 5 → parseFieldDescriptor (F_Ou k).2.2.1 = some (t_Ou k) := by decide +kernel
theorem u_Ou {args : Array Value} {s : State} (hT : ux_T s) : ∀ w ∈ u_ws R_Ou F_Ou 5, w.before args s = true := by
  have h : ∀ w ∈ ([.laysFinal "UnikernelHttp$Outbox" "UnikernelHttp$Outbox" "content" "[B", .lays "UnikernelHttp$Outbox" "UnikernelHttp$Outbox" "length" "I", .lays "UnikernelHttp$Outbox" "UnikernelHttp$Outbox" "unacked" "I", .lays "UnikernelHttp$Outbox" "UnikernelHttp$Outbox" "sendNext" "I", .lays "UnikernelHttp$Outbox" "UnikernelHttp$Outbox" "finSent" "Z"] : List Cond), w.before args s = true := by
    intro w hw
    simp only [List.mem_cons, List.not_mem_nil, or_false] at hw
    rcases hw with rfl | rfl | rfl | rfl | rfl
    · exact ux_T_at hT tw_283 rfl
    · exact ux_T_at hT tw_285 rfl
    · exact ux_T_at hT tw_287 rfl
    · exact ux_T_at hT tw_289 rfl
    · exact ux_T_at hT tw_291 rfl
  exact h
def R_So : String := "UnikernelHttp$Store"
def F_So : u_T := fun k => match k with
  | 0 => ("UnikernelHttp$Store", "targets", "[[B", true)
  | 1 => ("UnikernelHttp$Store", "targetLengths", "[I", true)
  | 2 => ("UnikernelHttp$Store", "contents", "[[B", true)
  | 3 => ("UnikernelHttp$Store", "lengths", "[I", true)
  | 4 => ("UnikernelHttp$Store", "sums", "[I", true)
  | _ => ("UnikernelHttp$Store", "held", "I", false)
def t_So : Nat → FieldType := fun k => match k with
  | 0 => .array (.array .byte)
  | 1 => .array .int
  | 2 => .array (.array .byte)
  | 3 => .array .int
  | 4 => .array .int
  | _ => .int
theorem n_So : ∀ a, a < 6 → ∀ b, b < 6 → a ≠ b → (F_So a).2.1 ≠ (F_So b).2.1 := by decide +kernel
theorem k_So : ∀ k, k < 6 → parseFieldDescriptor (F_So k).2.2.1 = some (t_So k) := by decide +kernel
theorem u_So {args : Array Value} {s : State} (hT : ux_T s) : ∀ w ∈ u_ws R_So F_So 6, w.before args s = true := by
  have h : ∀ w ∈ ([.laysFinal "UnikernelHttp$Store" "UnikernelHttp$Store" "targets" "[[B", .laysFinal "UnikernelHttp$Store" "UnikernelHttp$Store" "targetLengths" "[I", .laysFinal "UnikernelHttp$Store" "UnikernelHttp$Store" "contents" "[[B", .laysFinal "UnikernelHttp$Store" "UnikernelHttp$Store" "lengths" "[I", .laysFinal "UnikernelHttp$Store" "UnikernelHttp$Store" "sums" "[I", .lays "UnikernelHttp$Store" "UnikernelHttp$Store" "held" "I"] : List Cond), w.before args s = true := by
    intro w hw
    simp only [List.mem_cons, List.not_mem_nil, or_false] at hw
    rcases hw with rfl | rfl | rfl | rfl | rfl | rfl
    · exact ux_T_at hT tw_408 rfl
    · exact ux_T_at hT tw_410 rfl
    · exact ux_T_at hT tw_412 rfl
    · exact ux_T_at hT tw_414 rfl
    · exact ux_T_at hT tw_416 rfl
    · exact ux_T_at hT tw_418 rfl
  exact h
def R_Ht : String := "UnikernelHttp$Http"
def F_Ht : u_T := fun k => match k with
  | 0 => ("UnikernelHttp$Http", "store", "LUnikernelHttp$Store;", true)
  | 1 => ("UnikernelHttp$Http", "answer", "[B", true)
  | 2 => ("UnikernelHttp$Http", "answerLength", "I", false)
  | 3 => ("UnikernelHttp$Http", "closes", "Z", false)
  | _ => ("UnikernelHttp$Http", "found", "I", false)
def t_Ht : Nat → FieldType := fun k => match k with
  | 0 => .object "UnikernelHttp$Store"
  | 1 => .array .byte
  | 2 => .int
  | 3 => .boolean
  | _ => .int
theorem n_Ht : ∀ a, a < 5 → ∀ b, b < 5 → a ≠ b → (F_Ht a).2.1 ≠ (F_Ht b).2.1 := by decide +kernel
theorem k_Ht : ∀ k, k < 5 → parseFieldDescriptor (F_Ht k).2.2.1 = some (t_Ht k) := by decide +kernel
theorem u_Ht {args : Array Value} {s : State} (hT : ux_T s) : ∀ w ∈ u_ws R_Ht F_Ht 5, w.before args s = true := by
  have h : ∀ w ∈ ([.laysFinal "UnikernelHttp$Http" "UnikernelHttp$Http" "store" "LUnikernelHttp$Store;", .laysFinal "UnikernelHttp$Http" "UnikernelHttp$Http" "answer" "[B", .lays "UnikernelHttp$Http" "UnikernelHttp$Http" "answerLength" "I", .lays "UnikernelHttp$Http" "UnikernelHttp$Http" "closes" "Z", .lays "UnikernelHttp$Http" "UnikernelHttp$Http" "found" "I"] : List Cond), w.before args s = true := by
    intro w hw
    simp only [List.mem_cons, List.not_mem_nil, or_false] at hw
    rcases hw with rfl | rfl | rfl | rfl | rfl
    · exact ux_T_at hT tw_432 rfl
    · exact ux_T_at hT tw_434 rfl
    · exact ux_T_at hT tw_436 rfl
    · exact ux_T_at hT tw_438 rfl
    · exact ux_T_at hT tw_440 rfl
  exact h
def R_Mo : String := "UnikernelHttpModel"
def F_Mo : u_T := fun k => match k with
  | 0 => ("UnikernelHttpModel", "row", "[B", true)
  | 1 => ("UnikernelHttpModel", "in", "[B", true)
  | 2 => ("UnikernelHttpModel", "out", "[B", true)
  | 3 => ("UnikernelHttpModel", "rows", "I", false)
  | 4 => ("UnikernelHttpModel", "thrown", "I", false)
  | 5 => ("UnikernelHttpModel", "time", "I", false)
  | 6 => ("UnikernelHttpModel", "packets", "I", false)
  | 7 => ("UnikernelHttpModel", "frames", "I", false)
  | 8 => ("UnikernelHttpModel", "kept", "[B", true)
  | 9 => ("UnikernelHttpModel", "keptSize", "[I", true)
  | 10 => ("UnikernelHttpModel", "nIp", "[I", true)
  | 11 => ("UnikernelHttpModel", "nHeard", "[I", true)
  | 12 => ("UnikernelHttpModel", "nHard", "[J", true)
  | 13 => ("UnikernelHttpModel", "neighbours", "I", false)
  | 14 => ("UnikernelHttpModel", "heard", "I", false)
  | 15 => ("UnikernelHttpModel", "gIp", "[I", true)
  | 16 => ("UnikernelHttpModel", "gNumber", "[I", true)
  | 17 => ("UnikernelHttpModel", "gProtocol", "[I", true)
  | 18 => ("UnikernelHttpModel", "gTold", "[I", true)
  | 19 => ("UnikernelHttpModel", "gBegun", "[I", true)
  | 20 => ("UnikernelHttpModel", "gOrder", "[I", true)
  | 21 => ("UnikernelHttpModel", "gBytes", "[B", true)
  | 22 => ("UnikernelHttpModel", "gThere", "[Z", true)
  | 23 => ("UnikernelHttpModel", "gatherings", "I", false)
  | 24 => ("UnikernelHttpModel", "begun", "I", false)
  | 25 => ("UnikernelHttpModel", "pTarget", "[B", true)
  | 26 => ("UnikernelHttpModel", "pBytes", "[B", true)
  | 27 => ("UnikernelHttpModel", "pLong", "[I", true)
  | 28 => ("UnikernelHttpModel", "pSize", "[I", true)
  | 29 => ("UnikernelHttpModel", "pSum", "[I", true)
  | 30 => ("UnikernelHttpModel", "pages", "I", false)
  | 31 => ("UnikernelHttpModel", "peer", "[LUnikernelHttpModel$Peer;", true)
  | 32 => ("UnikernelHttpModel", "peers", "I", false)
  | 33 => ("UnikernelHttpModel", "made", "I", false)
  | 34 => ("UnikernelHttpModel", "size", "I", false)
  | 35 => ("UnikernelHttpModel", "whole", "I", false)
  | 36 => ("UnikernelHttpModel", "answer", "[B", true)
  | 37 => ("UnikernelHttpModel", "answers", "I", false)
  | _ => ("UnikernelHttpModel", "at", "I", false)
def t_Mo : Nat → FieldType := fun k => match k with
  | 0 => .array .byte
  | 1 => .array .byte
  | 2 => .array .byte
  | 3 => .int
  | 4 => .int
  | 5 => .int
  | 6 => .int
  | 7 => .int
  | 8 => .array .byte
  | 9 => .array .int
  | 10 => .array .int
  | 11 => .array .int
  | 12 => .array .long
  | 13 => .int
  | 14 => .int
  | 15 => .array .int
  | 16 => .array .int
  | 17 => .array .int
  | 18 => .array .int
  | 19 => .array .int
  | 20 => .array .int
  | 21 => .array .byte
  | 22 => .array .boolean
  | 23 => .int
  | 24 => .int
  | 25 => .array .byte
  | 26 => .array .byte
  | 27 => .array .int
  | 28 => .array .int
  | 29 => .array .int
  | 30 => .int
  | 31 => .array (.object "UnikernelHttpModel$Peer")
  | 32 => .int
  | 33 => .int
  | 34 => .int
  | 35 => .int
  | 36 => .array .byte
  | 37 => .int
  | _ => .int
theorem n_Mo : ∀ a, a < 39 → ∀ b, b < 39 → a ≠ b → (F_Mo a).2.1 ≠ (F_Mo b).2.1 := by decide +kernel
theorem k_Mo : ∀ k, k < 39 → parseFieldDescriptor (F_Mo k).2.2.1 = some (t_Mo k) := by decide +kernel
theorem u_Mo {args : Array Value} {s : State} (hT : ux_T s) : ∀ w ∈ u_ws R_Mo F_Mo 39, w.before args s = true := by
  have h : ∀ w ∈ ([.laysFinal "UnikernelHttpModel" "UnikernelHttpModel" "row" "[B", .laysFinal "UnikernelHttpModel" "UnikernelHttpModel" "in" "[B", .laysFinal "UnikernelHttpModel" "UnikernelHttpModel" "out" "[B", .lays "UnikernelHttpModel" "UnikernelHttpModel" "rows" "I", .lays "UnikernelHttpModel" "UnikernelHttpModel" "thrown" "I", .lays "UnikernelHttpModel" "UnikernelHttpModel" "time" "I", .lays "UnikernelHttpModel" "UnikernelHttpModel" "packets" "I", .lays "UnikernelHttpModel" "UnikernelHttpModel" "frames" "I", .laysFinal "UnikernelHttpModel" "UnikernelHttpModel" "kept" "[B", .laysFinal "UnikernelHttpModel" "UnikernelHttpModel" "keptSize" "[I", .laysFinal "UnikernelHttpModel" "UnikernelHttpModel" "nIp" "[I", .laysFinal "UnikernelHttpModel" "UnikernelHttpModel" "nHeard" "[I", .laysFinal "UnikernelHttpModel" "UnikernelHttpModel" "nHard" "[J", .lays "UnikernelHttpModel" "UnikernelHttpModel" "neighbours" "I", .lays "UnikernelHttpModel" "UnikernelHttpModel" "heard" "I", .laysFinal "UnikernelHttpModel" "UnikernelHttpModel" "gIp" "[I", .laysFinal "UnikernelHttpModel" "UnikernelHttpModel" "gNumber" "[I", .laysFinal "UnikernelHttpModel" "UnikernelHttpModel" "gProtocol" "[I", .laysFinal "UnikernelHttpModel" "UnikernelHttpModel" "gTold" "[I", .laysFinal "UnikernelHttpModel" "UnikernelHttpModel" "gBegun" "[I", .laysFinal "UnikernelHttpModel" "UnikernelHttpModel" "gOrder" "[I", .laysFinal "UnikernelHttpModel" "UnikernelHttpModel" "gBytes" "[B", .laysFinal "UnikernelHttpModel" "UnikernelHttpModel" "gThere" "[Z", .lays "UnikernelHttpModel" "UnikernelHttpModel" "gatherings" "I", .lays "UnikernelHttpModel" "UnikernelHttpModel" "begun" "I", .laysFinal "UnikernelHttpModel" "UnikernelHttpModel" "pTarget" "[B", .laysFinal "UnikernelHttpModel" "UnikernelHttpModel" "pBytes" "[B", .laysFinal "UnikernelHttpModel" "UnikernelHttpModel" "pLong" "[I", .laysFinal "UnikernelHttpModel" "UnikernelHttpModel" "pSize" "[I", .laysFinal "UnikernelHttpModel" "UnikernelHttpModel" "pSum" "[I", .lays "UnikernelHttpModel" "UnikernelHttpModel" "pages" "I", .laysFinal "UnikernelHttpModel" "UnikernelHttpModel" "peer" "[LUnikernelHttpModel$Peer;", .lays "UnikernelHttpModel" "UnikernelHttpModel" "peers" "I", .lays "UnikernelHttpModel" "UnikernelHttpModel" "made" "I", .lays "UnikernelHttpModel" "UnikernelHttpModel" "size" "I", .lays "UnikernelHttpModel" "UnikernelHttpModel" "whole" "I", .laysFinal "UnikernelHttpModel" "UnikernelHttpModel" "answer" "[B", .lays "UnikernelHttpModel" "UnikernelHttpModel" "answers" "I", .lays "UnikernelHttpModel" "UnikernelHttpModel" "at" "I"] : List Cond), w.before args s = true := by
    intro w hw
    simp only [List.mem_cons, List.not_mem_nil, or_false] at hw
    rcases hw with rfl | rfl | rfl | rfl | rfl | rfl | rfl | rfl | rfl | rfl | rfl | rfl | rfl | rfl | rfl | rfl | rfl | rfl | rfl | rfl | rfl | rfl | rfl | rfl | rfl | rfl | rfl | rfl | rfl | rfl | rfl | rfl | rfl | rfl | rfl | rfl | rfl | rfl | rfl
    · exact ux_T_at hT tw_1632 rfl
    · exact ux_T_at hT tw_1634 rfl
    · exact ux_T_at hT tw_1636 rfl
    · exact ux_T_at hT tw_1638 rfl
    · exact ux_T_at hT tw_1640 rfl
    · exact ux_T_at hT tw_1642 rfl
    · exact ux_T_at hT tw_1644 rfl
    · exact ux_T_at hT tw_1646 rfl
    · exact ux_T_at hT tw_1648 rfl
    · exact ux_T_at hT tw_1650 rfl
    · exact ux_T_at hT tw_1652 rfl
    · exact ux_T_at hT tw_1654 rfl
    · exact ux_T_at hT tw_1656 rfl
    · exact ux_T_at hT tw_1658 rfl
    · exact ux_T_at hT tw_1660 rfl
    · exact ux_T_at hT tw_1662 rfl
    · exact ux_T_at hT tw_1664 rfl
    · exact ux_T_at hT tw_1666 rfl
    · exact ux_T_at hT tw_1668 rfl
    · exact ux_T_at hT tw_1670 rfl
    · exact ux_T_at hT tw_1672 rfl
    · exact ux_T_at hT tw_1674 rfl
    · exact ux_T_at hT tw_1676 rfl
    · exact ux_T_at hT tw_1678 rfl
    · exact ux_T_at hT tw_1680 rfl
    · exact ux_T_at hT tw_1682 rfl
    · exact ux_T_at hT tw_1684 rfl
    · exact ux_T_at hT tw_1686 rfl
    · exact ux_T_at hT tw_1688 rfl
    · exact ux_T_at hT tw_1690 rfl
    · exact ux_T_at hT tw_1692 rfl
    · exact ux_T_at hT tw_1694 rfl
    · exact ux_T_at hT tw_1696 rfl
    · exact ux_T_at hT tw_1698 rfl
    · exact ux_T_at hT tw_1700 rfl
    · exact ux_T_at hT tw_1702 rfl
    · exact ux_T_at hT tw_1704 rfl
    · exact ux_T_at hT tw_1706 rfl
    · exact ux_T_at hT tw_1708 rfl
  exact h
def R_Pe : String := "UnikernelHttpModel$Peer"
def F_Pe : u_T := fun k => match k with
  | 0 => ("UnikernelHttpModel$Peer", "ip", "I", false)
  | 1 => ("UnikernelHttpModel$Peer", "port", "I", false)
  | 2 => ("UnikernelHttpModel$Peer", "state", "I", false)
  | 3 => ("UnikernelHttpModel$Peer", "next", "I", false)
  | 4 => ("UnikernelHttpModel$Peer", "ours", "I", false)
  | 5 => ("UnikernelHttpModel$Peer", "unacked", "I", false)
  | 6 => ("UnikernelHttpModel$Peer", "toSend", "I", false)
  | 7 => ("UnikernelHttpModel$Peer", "window", "I", false)
  | 8 => ("UnikernelHttpModel$Peer", "wl1", "I", false)
  | 9 => ("UnikernelHttpModel$Peer", "wl2", "I", false)
  | 10 => ("UnikernelHttpModel$Peer", "mss", "I", false)
  | 11 => ("UnikernelHttpModel$Peer", "span", "I", false)
  | 12 => ("UnikernelHttpModel$Peer", "limit", "I", false)
  | 13 => ("UnikernelHttpModel$Peer", "doubles", "I", false)
  | 14 => ("UnikernelHttpModel$Peer", "tries", "I", false)
  | 15 => ("UnikernelHttpModel$Peer", "timeout", "I", false)
  | 16 => ("UnikernelHttpModel$Peer", "timer", "I", false)
  | 17 => ("UnikernelHttpModel$Peer", "dies", "I", false)
  | 18 => ("UnikernelHttpModel$Peer", "order", "I", false)
  | 19 => ("UnikernelHttpModel$Peer", "inbox", "[B", true)
  | 20 => ("UnikernelHttpModel$Peer", "early", "[B", true)
  | 21 => ("UnikernelHttpModel$Peer", "there", "[Z", true)
  | 22 => ("UnikernelHttpModel$Peer", "inboxes", "I", false)
  | 23 => ("UnikernelHttpModel$Peer", "finAt", "I", false)
  | 24 => ("UnikernelHttpModel$Peer", "finTold", "Z", false)
  | 25 => ("UnikernelHttpModel$Peer", "finReached", "Z", false)
  | 26 => ("UnikernelHttpModel$Peer", "ends", "Z", false)
  | 27 => ("UnikernelHttpModel$Peer", "finSent", "Z", false)
  | 28 => ("UnikernelHttpModel$Peer", "finAcked", "Z", false)
  | 29 => ("UnikernelHttpModel$Peer", "outbox", "[B", true)
  | 30 => ("UnikernelHttpModel$Peer", "outboxes", "I", false)
  | _ => ("UnikernelHttpModel$Peer", "sent", "I", false)
def t_Pe : Nat → FieldType := fun k => match k with
  | 0 => .int
  | 1 => .int
  | 2 => .int
  | 3 => .int
  | 4 => .int
  | 5 => .int
  | 6 => .int
  | 7 => .int
  | 8 => .int
  | 9 => .int
  | 10 => .int
  | 11 => .int
  | 12 => .int
  | 13 => .int
  | 14 => .int
  | 15 => .int
  | 16 => .int
  | 17 => .int
  | 18 => .int
  | 19 => .array .byte
  | 20 => .array .byte
  | 21 => .array .boolean
  | 22 => .int
  | 23 => .int
  | 24 => .boolean
  | 25 => .boolean
  | 26 => .boolean
  | 27 => .boolean
  | 28 => .boolean
  | 29 => .array .byte
  | 30 => .int
  | _ => .int
theorem n_Pe : ∀ a, a < 32 → ∀ b, b < 32 → a ≠ b → (F_Pe a).2.1 ≠ (F_Pe b).2.1 := by decide +kernel
theorem k_Pe : ∀ k, k < 32 → parseFieldDescriptor (F_Pe k).2.2.1 = some (t_Pe k) := by decide +kernel
theorem u_Pe {args : Array Value} {s : State} (hT : ux_T s) : ∀ w ∈ u_ws R_Pe F_Pe 32, w.before args s = true := by
  have h : ∀ w ∈ ([.lays "UnikernelHttpModel$Peer" "UnikernelHttpModel$Peer" "ip" "I", .lays "UnikernelHttpModel$Peer" "UnikernelHttpModel$Peer" "port" "I", .lays "UnikernelHttpModel$Peer" "UnikernelHttpModel$Peer" "state" "I", .lays "UnikernelHttpModel$Peer" "UnikernelHttpModel$Peer" "next" "I", .lays "UnikernelHttpModel$Peer" "UnikernelHttpModel$Peer" "ours" "I", .lays "UnikernelHttpModel$Peer" "UnikernelHttpModel$Peer" "unacked" "I", .lays "UnikernelHttpModel$Peer" "UnikernelHttpModel$Peer" "toSend" "I", .lays "UnikernelHttpModel$Peer" "UnikernelHttpModel$Peer" "window" "I", .lays "UnikernelHttpModel$Peer" "UnikernelHttpModel$Peer" "wl1" "I", .lays "UnikernelHttpModel$Peer" "UnikernelHttpModel$Peer" "wl2" "I", .lays "UnikernelHttpModel$Peer" "UnikernelHttpModel$Peer" "mss" "I", .lays "UnikernelHttpModel$Peer" "UnikernelHttpModel$Peer" "span" "I", .lays "UnikernelHttpModel$Peer" "UnikernelHttpModel$Peer" "limit" "I", .lays "UnikernelHttpModel$Peer" "UnikernelHttpModel$Peer" "doubles" "I", .lays "UnikernelHttpModel$Peer" "UnikernelHttpModel$Peer" "tries" "I", .lays "UnikernelHttpModel$Peer" "UnikernelHttpModel$Peer" "timeout" "I", .lays "UnikernelHttpModel$Peer" "UnikernelHttpModel$Peer" "timer" "I", .lays "UnikernelHttpModel$Peer" "UnikernelHttpModel$Peer" "dies" "I", .lays "UnikernelHttpModel$Peer" "UnikernelHttpModel$Peer" "order" "I", .laysFinal "UnikernelHttpModel$Peer" "UnikernelHttpModel$Peer" "inbox" "[B", .laysFinal "UnikernelHttpModel$Peer" "UnikernelHttpModel$Peer" "early" "[B", .laysFinal "UnikernelHttpModel$Peer" "UnikernelHttpModel$Peer" "there" "[Z", .lays "UnikernelHttpModel$Peer" "UnikernelHttpModel$Peer" "inboxes" "I", .lays "UnikernelHttpModel$Peer" "UnikernelHttpModel$Peer" "finAt" "I", .lays "UnikernelHttpModel$Peer" "UnikernelHttpModel$Peer" "finTold" "Z", .lays "UnikernelHttpModel$Peer" "UnikernelHttpModel$Peer" "finReached" "Z", .lays "UnikernelHttpModel$Peer" "UnikernelHttpModel$Peer" "ends" "Z", .lays "UnikernelHttpModel$Peer" "UnikernelHttpModel$Peer" "finSent" "Z", .lays "UnikernelHttpModel$Peer" "UnikernelHttpModel$Peer" "finAcked" "Z", .laysFinal "UnikernelHttpModel$Peer" "UnikernelHttpModel$Peer" "outbox" "[B", .lays "UnikernelHttpModel$Peer" "UnikernelHttpModel$Peer" "outboxes" "I", .lays "UnikernelHttpModel$Peer" "UnikernelHttpModel$Peer" "sent" "I"] : List Cond), w.before args s = true := by
    intro w hw
    simp only [List.mem_cons, List.not_mem_nil, or_false] at hw
    rcases hw with rfl | rfl | rfl | rfl | rfl | rfl | rfl | rfl | rfl | rfl | rfl | rfl | rfl | rfl | rfl | rfl | rfl | rfl | rfl | rfl | rfl | rfl | rfl | rfl | rfl | rfl | rfl | rfl | rfl | rfl | rfl | rfl
    · exact ux_T_at hT tw_1528 rfl
    · exact ux_T_at hT tw_1530 rfl
    · exact ux_T_at hT tw_1532 rfl
    · exact ux_T_at hT tw_1534 rfl
    · exact ux_T_at hT tw_1536 rfl
    · exact ux_T_at hT tw_1538 rfl
    · exact ux_T_at hT tw_1540 rfl
    · exact ux_T_at hT tw_1542 rfl
    · exact ux_T_at hT tw_1544 rfl
    · exact ux_T_at hT tw_1546 rfl
    · exact ux_T_at hT tw_1548 rfl
    · exact ux_T_at hT tw_1550 rfl
    · exact ux_T_at hT tw_1552 rfl
    · exact ux_T_at hT tw_1554 rfl
    · exact ux_T_at hT tw_1556 rfl
    · exact ux_T_at hT tw_1558 rfl
    · exact ux_T_at hT tw_1560 rfl
    · exact ux_T_at hT tw_1562 rfl
    · exact ux_T_at hT tw_1564 rfl
    · exact ux_T_at hT tw_1566 rfl
    · exact ux_T_at hT tw_1568 rfl
    · exact ux_T_at hT tw_1570 rfl
    · exact ux_T_at hT tw_1572 rfl
    · exact ux_T_at hT tw_1574 rfl
    · exact ux_T_at hT tw_1576 rfl
    · exact ux_T_at hT tw_1578 rfl
    · exact ux_T_at hT tw_1580 rfl
    · exact ux_T_at hT tw_1582 rfl
    · exact ux_T_at hT tw_1584 rfl
    · exact ux_T_at hT tw_1586 rfl
    · exact ux_T_at hT tw_1588 rfl
    · exact ux_T_at hT tw_1590 rfl
  exact h
abbrev cls : List vw_C := [(R_U, F_U, 14), (R_N, F_N, 5), (R_Wi, F_Wi, 5), (R_Gs, F_Gs, 2), (R_G, F_G, 9), (R_Sg, F_Sg, 12), (R_Tc, F_Tc, 5), (R_Co, F_Co, 17), (R_In, F_In, 7), (R_Ou, F_Ou, 5), (R_So, F_So, 6), (R_Ht, F_Ht, 5), (R_Mo, F_Mo, 39), (R_Pe, F_Pe, 32)]
theorem z_U : ∀ j, j < 14 → defaultValue (t_U j) = vp_V [.null, .int 0, .int 0, .null, .null, .null, .null, .null, .null, .null, .null, .null, .int 0, .int 0] j := by
  intro j hj
  match j, hj with
  | 0, _ => rfl
  | 1, _ => rfl
  | 2, _ => rfl
  | 3, _ => rfl
  | 4, _ => rfl
  | 5, _ => rfl
  | 6, _ => rfl
  | 7, _ => rfl
  | 8, _ => rfl
  | 9, _ => rfl
  | 10, _ => rfl
  | 11, _ => rfl
  | 12, _ => rfl
  | 13, _ => rfl
  | n + 14, h => exact absurd h (by omega)
theorem z_N : ∀ j, j < 5 → defaultValue (t_N j) = vp_V [.null, .null, .null, .int 0, .int 0] j := by
  intro j hj
  match j, hj with
  | 0, _ => rfl
  | 1, _ => rfl
  | 2, _ => rfl
  | 3, _ => rfl
  | 4, _ => rfl
  | n + 5, h => exact absurd h (by omega)
theorem z_Wi : ∀ j, j < 5 → defaultValue (t_Wi j) = vp_V [.null, .null, .null, .int 0, .int 0] j := by
  intro j hj
  match j, hj with
  | 0, _ => rfl
  | 1, _ => rfl
  | 2, _ => rfl
  | 3, _ => rfl
  | 4, _ => rfl
  | n + 5, h => exact absurd h (by omega)
theorem z_Gs : ∀ j, j < 2 → defaultValue (t_Gs j) = vp_V [.null, .int 0] j := by
  intro j hj
  match j, hj with
  | 0, _ => rfl
  | 1, _ => rfl
  | n + 2, h => exact absurd h (by omega)
theorem z_G : ∀ j, j < 9 → defaultValue (t_G j) = vp_V [.null, .null, .int 0, .int 0, .int 0, .int 0, .int 0, .int 0, .int 0] j := by
  intro j hj
  match j, hj with
  | 0, _ => rfl
  | 1, _ => rfl
  | 2, _ => rfl
  | 3, _ => rfl
  | 4, _ => rfl
  | 5, _ => rfl
  | 6, _ => rfl
  | 7, _ => rfl
  | 8, _ => rfl
  | n + 9, h => exact absurd h (by omega)
theorem z_Sg : ∀ j, j < 12 → defaultValue (t_Sg j) = vp_V [.null, .int 0, .int 0, .int 0, .int 0, .int 0, .int 0, .int 0, .int 0, .int 0, .int 0, .int 0] j := by
  intro j hj
  match j, hj with
  | 0, _ => rfl
  | 1, _ => rfl
  | 2, _ => rfl
  | 3, _ => rfl
  | 4, _ => rfl
  | 5, _ => rfl
  | 6, _ => rfl
  | 7, _ => rfl
  | 8, _ => rfl
  | 9, _ => rfl
  | 10, _ => rfl
  | 11, _ => rfl
  | n + 12, h => exact absurd h (by omega)
theorem z_Tc : ∀ j, j < 5 → defaultValue (t_Tc j) = vp_V [.null, .null, .null, .int 0, .int 0] j := by
  intro j hj
  match j, hj with
  | 0, _ => rfl
  | 1, _ => rfl
  | 2, _ => rfl
  | 3, _ => rfl
  | 4, _ => rfl
  | n + 5, h => exact absurd h (by omega)
theorem z_Co : ∀ j, j < 17 → defaultValue (t_Co j) = vp_V [.null, .null, .int 0, .int 0, .int 0, .int 0, .int 0, .int 0, .int 0, .int 0, .int 0, .int 0, .int 0, .int 0, .int 0, .int 0, .int 0] j := by
  intro j hj
  match j, hj with
  | 0, _ => rfl
  | 1, _ => rfl
  | 2, _ => rfl
  | 3, _ => rfl
  | 4, _ => rfl
  | 5, _ => rfl
  | 6, _ => rfl
  | 7, _ => rfl
  | 8, _ => rfl
  | 9, _ => rfl
  | 10, _ => rfl
  | 11, _ => rfl
  | 12, _ => rfl
  | 13, _ => rfl
  | 14, _ => rfl
  | 15, _ => rfl
  | 16, _ => rfl
  | n + 17, h => exact absurd h (by omega)
theorem z_In : ∀ j, j < 7 → defaultValue (t_In j) = vp_V [.null, .null, .int 0, .int 0, .int 0, .int 0, .int 0] j := by
  intro j hj
  match j, hj with
  | 0, _ => rfl
  | 1, _ => rfl
  | 2, _ => rfl
  | 3, _ => rfl
  | 4, _ => rfl
  | 5, _ => rfl
  | 6, _ => rfl
  | n + 7, h => exact absurd h (by omega)
theorem z_Ou : ∀ j, j < 5 → defaultValue (t_Ou j) = vp_V [.null, .int 0, .int 0, .int 0, .int 0] j := by
  intro j hj
  match j, hj with
  | 0, _ => rfl
  | 1, _ => rfl
  | 2, _ => rfl
  | 3, _ => rfl
  | 4, _ => rfl
  | n + 5, h => exact absurd h (by omega)
theorem z_So : ∀ j, j < 6 → defaultValue (t_So j) = vp_V [.null, .null, .null, .null, .null, .int 0] j := by
  intro j hj
  match j, hj with
  | 0, _ => rfl
  | 1, _ => rfl
  | 2, _ => rfl
  | 3, _ => rfl
  | 4, _ => rfl
  | 5, _ => rfl
  | n + 6, h => exact absurd h (by omega)
theorem z_Ht : ∀ j, j < 5 → defaultValue (t_Ht j) = vp_V [.null, .null, .int 0, .int 0, .int 0] j := by
  intro j hj
  match j, hj with
  | 0, _ => rfl
  | 1, _ => rfl
  | 2, _ => rfl
  | 3, _ => rfl
  | 4, _ => rfl
  | n + 5, h => exact absurd h (by omega)
theorem z_Mo : ∀ j, j < 39 → defaultValue (t_Mo j) = vp_V [.null, .null, .null, .int 0, .int 0, .int 0, .int 0, .int 0, .null, .null, .null, .null, .null, .int 0, .int 0, .null, .null, .null, .null, .null, .null, .null, .null, .int 0, .int 0, .null, .null, .null, .null, .null, .int 0, .null, .int 0, .int 0, .int 0, .int 0, .null, .int 0, .int 0] j := by
  intro j hj
  match j, hj with
  | 0, _ => rfl
  | 1, _ => rfl
  | 2, _ => rfl
  | 3, _ => rfl
  | 4, _ => rfl
  | 5, _ => rfl
  | 6, _ => rfl
  | 7, _ => rfl
  | 8, _ => rfl
  | 9, _ => rfl
  | 10, _ => rfl
  | 11, _ => rfl
  | 12, _ => rfl
  | 13, _ => rfl
  | 14, _ => rfl
  | 15, _ => rfl
  | 16, _ => rfl
  | 17, _ => rfl
  | 18, _ => rfl
  | 19, _ => rfl
  | 20, _ => rfl
  | 21, _ => rfl
  | 22, _ => rfl
  | 23, _ => rfl
  | 24, _ => rfl
  | 25, _ => rfl
  | 26, _ => rfl
  | 27, _ => rfl
  | 28, _ => rfl
  | 29, _ => rfl
  | 30, _ => rfl
  | 31, _ => rfl
  | 32, _ => rfl
  | 33, _ => rfl
  | 34, _ => rfl
  | 35, _ => rfl
  | 36, _ => rfl
  | 37, _ => rfl
  | 38, _ => rfl
  | n + 39, h => exact absurd h (by omega)
theorem z_Pe : ∀ j, j < 32 → defaultValue (t_Pe j) = vp_V [.int 0, .int 0, .int 0, .int 0, .int 0, .int 0, .int 0, .int 0, .int 0, .int 0, .int 0, .int 0, .int 0, .int 0, .int 0, .int 0, .int 0, .int 0, .int 0, .null, .null, .null, .int 0, .int 0, .int 0, .int 0, .int 0, .int 0, .int 0, .null, .int 0, .int 0] j := by
  intro j hj
  match j, hj with
  | 0, _ => rfl
  | 1, _ => rfl
  | 2, _ => rfl
  | 3, _ => rfl
  | 4, _ => rfl
  | 5, _ => rfl
  | 6, _ => rfl
  | 7, _ => rfl
  | 8, _ => rfl
  | 9, _ => rfl
  | 10, _ => rfl
  | 11, _ => rfl
  | 12, _ => rfl
  | 13, _ => rfl
  | 14, _ => rfl
  | 15, _ => rfl
  | 16, _ => rfl
  | 17, _ => rfl
  | 18, _ => rfl
  | 19, _ => rfl
  | 20, _ => rfl
  | 21, _ => rfl
  | 22, _ => rfl
  | 23, _ => rfl
  | 24, _ => rfl
  | 25, _ => rfl
  | 26, _ => rfl
  | 27, _ => rfl
  | 28, _ => rfl
  | 29, _ => rfl
  | 30, _ => rfl
  | 31, _ => rfl
  | n + 32, h => exact absurd h (by omega)
