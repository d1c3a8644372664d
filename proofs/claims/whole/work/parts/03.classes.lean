def zr_PT : String := "PortTranslator"
def zt_PT : u_T := fun k => match k with
  | 0 => ("PortTranslator", "draft", "LPortTranslator$Packet;", true)
  | 1 => ("PortTranslator", "latest", "LPortTranslator$Packet;", true)
  | 2 => ("PortTranslator", "subject", "LPortTranslator$Subject;", true)
  | 3 => ("PortTranslator", "table", "LPortTranslator$FlowTable;", true)
  | _ => ("PortTranslator", "permissions", "LPortTranslator$RuleList;", true)
def zf_PT : Nat → FieldType := fun k => match k with
  | 0 => .object "PortTranslator$Packet"
  | 1 => .object "PortTranslator$Packet"
  | 2 => .object "PortTranslator$Subject"
  | 3 => .object "PortTranslator$FlowTable"
  | _ => .object "PortTranslator$RuleList"
theorem zn_PT : ∀ a, a < 5 → ∀ b, b < 5 → a ≠ b → (zt_PT a).2.1 ≠ (zt_PT b).2.1 := by decide +kernel
theorem zo_PT : ∀ k, k < 5 → parseFieldDescriptor (zt_PT k).2.2.1 = some (zf_PT k) := by decide +kernel
theorem zi_PT : ∀ w ∈ u_ws zr_PT zt_PT 5, w ∈ zz_TB := List.forall_mem_cons.mpr ⟨zw_179, List.forall_mem_cons.mpr ⟨zw_181, List.forall_mem_cons.mpr ⟨zw_183, List.forall_mem_cons.mpr ⟨zw_185, List.forall_mem_cons.mpr ⟨zw_187, fun _ h => absurd h List.not_mem_nil⟩⟩⟩⟩⟩
def zr_PK : String := "PortTranslator$Packet"
def zt_PK : u_T := fun k => match k with
  | 0 => ("PortTranslator$Packet", "words", "[I", true)
  | _ => ("PortTranslator$Packet", "size", "I", false)
def zf_PK : Nat → FieldType := fun k => match k with
  | 0 => .array (.int)
  | _ => .int
theorem zn_PK : ∀ a, a < 2 → ∀ b, b < 2 → a ≠ b → (zt_PK a).2.1 ≠ (zt_PK b).2.1 := by decide +kernel
theorem zo_PK : ∀ k, k < 2 → parseFieldDescriptor (zt_PK k).2.2.1 = some (zf_PK k) := by decide +kernel
theorem zi_PK : ∀ w ∈ u_ws zr_PK zt_PK 2, w ∈ zz_TB := List.forall_mem_cons.mpr ⟨zw_34, List.forall_mem_cons.mpr ⟨zw_36, fun _ h => absurd h List.not_mem_nil⟩⟩
def zr_SU : String := "PortTranslator$Subject"
def zt_SU : u_T := fun k => match k with
  | 0 => ("PortTranslator$Subject", "kind", "I", false)
  | 1 => ("PortTranslator$Subject", "nearAddress", "I", false)
  | 2 => ("PortTranslator$Subject", "nearPort", "I", false)
  | 3 => ("PortTranslator$Subject", "farAddress", "I", false)
  | 4 => ("PortTranslator$Subject", "farPort", "I", false)
  | 5 => ("PortTranslator$Subject", "nearAddressIndex", "I", false)
  | _ => ("PortTranslator$Subject", "nearPortIndex", "I", false)
def zf_SU : Nat → FieldType := fun k => match k with
  | 0 => .int
  | 1 => .int
  | 2 => .int
  | 3 => .int
  | 4 => .int
  | 5 => .int
  | _ => .int
theorem zn_SU : ∀ a, a < 7 → ∀ b, b < 7 → a ≠ b → (zt_SU a).2.1 ≠ (zt_SU b).2.1 := by decide +kernel
theorem zo_SU : ∀ k, k < 7 → parseFieldDescriptor (zt_SU k).2.2.1 = some (zf_SU k) := by decide +kernel
theorem zi_SU : ∀ w ∈ u_ws zr_SU zt_SU 7, w ∈ zz_TB := List.forall_mem_cons.mpr ⟨zw_63, List.forall_mem_cons.mpr ⟨zw_65, List.forall_mem_cons.mpr ⟨zw_67, List.forall_mem_cons.mpr ⟨zw_69, List.forall_mem_cons.mpr ⟨zw_71, List.forall_mem_cons.mpr ⟨zw_73, List.forall_mem_cons.mpr ⟨zw_75, fun _ h => absurd h List.not_mem_nil⟩⟩⟩⟩⟩⟩⟩
def zr_FT : String := "PortTranslator$FlowTable"
def zt_FT : u_T := fun k => match k with
  | 0 => ("PortTranslator$FlowTable", "rows", "[LPortTranslator$Flow;", true)
  | _ => ("PortTranslator$FlowTable", "count", "I", false)
def zf_FT : Nat → FieldType := fun k => match k with
  | 0 => .array (.object "PortTranslator$Flow")
  | _ => .int
theorem zn_FT : ∀ a, a < 2 → ∀ b, b < 2 → a ≠ b → (zt_FT a).2.1 ≠ (zt_FT b).2.1 := by decide +kernel
theorem zo_FT : ∀ k, k < 2 → parseFieldDescriptor (zt_FT k).2.2.1 = some (zf_FT k) := by decide +kernel
theorem zi_FT : ∀ w ∈ u_ws zr_FT zt_FT 2, w ∈ zz_TB := List.forall_mem_cons.mpr ⟨zw_132, List.forall_mem_cons.mpr ⟨zw_134, fun _ h => absurd h List.not_mem_nil⟩⟩
def zr_FL : String := "PortTranslator$Flow"
def zt_FL : u_T := fun k => match k with
  | 0 => ("PortTranslator$Flow", "kind", "I", false)
  | 1 => ("PortTranslator$Flow", "innerAddress", "I", false)
  | 2 => ("PortTranslator$Flow", "innerPort", "I", false)
  | 3 => ("PortTranslator$Flow", "outerAddress", "I", false)
  | 4 => ("PortTranslator$Flow", "outerPort", "I", false)
  | 5 => ("PortTranslator$Flow", "ownPort", "I", false)
  | 6 => ("PortTranslator$Flow", "age", "I", false)
  | 7 => ("PortTranslator$Flow", "synCameBack", "Z", false)
  | 8 => ("PortTranslator$Flow", "finWentOut", "Z", false)
  | _ => ("PortTranslator$Flow", "finCameIn", "Z", false)
def zf_FL : Nat → FieldType := fun k => match k with
  | 0 => .int
  | 1 => .int
  | 2 => .int
  | 3 => .int
  | 4 => .int
  | 5 => .int
  | 6 => .int
  | 7 => .boolean
  | 8 => .boolean
  | _ => .boolean
theorem zn_FL : ∀ a, a < 10 → ∀ b, b < 10 → a ≠ b → (zt_FL a).2.1 ≠ (zt_FL b).2.1 := by decide +kernel
theorem zo_FL : ∀ k, k < 10 → parseFieldDescriptor (zt_FL k).2.2.1 = some (zf_FL k) := by decide +kernel
theorem zi_FL : ∀ w ∈ u_ws zr_FL zt_FL 10, w ∈ zz_TB := List.forall_mem_cons.mpr ⟨zw_107, List.forall_mem_cons.mpr ⟨zw_109, List.forall_mem_cons.mpr ⟨zw_111, List.forall_mem_cons.mpr ⟨zw_113, List.forall_mem_cons.mpr ⟨zw_115, List.forall_mem_cons.mpr ⟨zw_117, List.forall_mem_cons.mpr ⟨zw_119, List.forall_mem_cons.mpr ⟨zw_121, List.forall_mem_cons.mpr ⟨zw_123, List.forall_mem_cons.mpr ⟨zw_125, fun _ h => absurd h List.not_mem_nil⟩⟩⟩⟩⟩⟩⟩⟩⟩⟩
def zr_RS : String := "PortTranslator$RuleList"
def zt_RS : u_T := fun k => match k with
  | _ => ("PortTranslator$RuleList", "rows", "[LPortTranslator$Rule;", true)
def zf_RS : Nat → FieldType := fun k => match k with
  | _ => .array (.object "PortTranslator$Rule")
theorem zn_RS : ∀ a, a < 1 → ∀ b, b < 1 → a ≠ b → (zt_RS a).2.1 ≠ (zt_RS b).2.1 := by decide +kernel
theorem zo_RS : ∀ k, k < 1 → parseFieldDescriptor (zt_RS k).2.2.1 = some (zf_RS k) := by decide +kernel
theorem zi_RS : ∀ w ∈ u_ws zr_RS zt_RS 1, w ∈ zz_TB := List.forall_mem_cons.mpr ⟨zw_171, fun _ h => absurd h List.not_mem_nil⟩
def zr_RU : String := "PortTranslator$Rule"
def zt_RU : u_T := fun k => match k with
  | 0 => ("PortTranslator$Rule", "isThere", "Z", false)
  | 1 => ("PortTranslator$Rule", "kind", "I", false)
  | 2 => ("PortTranslator$Rule", "network", "I", false)
  | 3 => ("PortTranslator$Rule", "bits", "I", false)
  | _ => ("PortTranslator$Rule", "permits", "Z", false)
def zf_RU : Nat → FieldType := fun k => match k with
  | 0 => .boolean
  | 1 => .int
  | 2 => .int
  | 3 => .int
  | _ => .boolean
theorem zn_RU : ∀ a, a < 5 → ∀ b, b < 5 → a ≠ b → (zt_RU a).2.1 ≠ (zt_RU b).2.1 := by decide +kernel
theorem zo_RU : ∀ k, k < 5 → parseFieldDescriptor (zt_RU k).2.2.1 = some (zf_RU k) := by decide +kernel
theorem zi_RU : ∀ w ∈ u_ws zr_RU zt_RU 5, w ∈ zz_TB := List.forall_mem_cons.mpr ⟨zw_158, List.forall_mem_cons.mpr ⟨zw_160, List.forall_mem_cons.mpr ⟨zw_162, List.forall_mem_cons.mpr ⟨zw_164, List.forall_mem_cons.mpr ⟨zw_166, fun _ h => absurd h List.not_mem_nil⟩⟩⟩⟩⟩
def zr_MO : String := "PortTranslatorModel"
def zt_MO : u_T := fun k => match k with
  | 0 => ("PortTranslatorModel", "w", "[I", true)
  | 1 => ("PortTranslatorModel", "size", "I", false)
  | 2 => ("PortTranslatorModel", "last", "[I", true)
  | 3 => ("PortTranslatorModel", "lastSize", "I", false)
  | 4 => ("PortTranslatorModel", "ruleKind", "[I", true)
  | 5 => ("PortTranslatorModel", "network", "[I", true)
  | 6 => ("PortTranslatorModel", "bits", "[I", true)
  | 7 => ("PortTranslatorModel", "permit", "[Z", true)
  | 8 => ("PortTranslatorModel", "flows", "I", false)
  | 9 => ("PortTranslatorModel", "kind", "[I", true)
  | 10 => ("PortTranslatorModel", "inner", "[I", true)
  | 11 => ("PortTranslatorModel", "innerPort", "[I", true)
  | 12 => ("PortTranslatorModel", "outer", "[I", true)
  | 13 => ("PortTranslatorModel", "outerPort", "[I", true)
  | 14 => ("PortTranslatorModel", "own", "[I", true)
  | 15 => ("PortTranslatorModel", "age", "[I", true)
  | 16 => ("PortTranslatorModel", "flags", "[I", true)
  | _ => ("PortTranslatorModel", "code", "I", false)
def zf_MO : Nat → FieldType := fun k => match k with
  | 0 => .array (.int)
  | 1 => .int
  | 2 => .array (.int)
  | 3 => .int
  | 4 => .array (.int)
  | 5 => .array (.int)
  | 6 => .array (.int)
  | 7 => .array (.boolean)
  | 8 => .int
  | 9 => .array (.int)
  | 10 => .array (.int)
  | 11 => .array (.int)
  | 12 => .array (.int)
  | 13 => .array (.int)
  | 14 => .array (.int)
  | 15 => .array (.int)
  | 16 => .array (.int)
  | _ => .int
theorem zn_MO : ∀ a, a < 18 → ∀ b, b < 18 → a ≠ b → (zt_MO a).2.1 ≠ (zt_MO b).2.1 := by decide +kernel
theorem zo_MO : ∀ k, k < 18 → parseFieldDescriptor (zt_MO k).2.2.1 = some (zf_MO k) := by decide +kernel
theorem zi_MO : ∀ w ∈ u_ws zr_MO zt_MO 18, w ∈ zz_TB := List.forall_mem_cons.mpr ⟨zw_602, List.forall_mem_cons.mpr ⟨zw_604, List.forall_mem_cons.mpr ⟨zw_606, List.forall_mem_cons.mpr ⟨zw_608, List.forall_mem_cons.mpr ⟨zw_610, List.forall_mem_cons.mpr ⟨zw_612, List.forall_mem_cons.mpr ⟨zw_614, List.forall_mem_cons.mpr ⟨zw_616, List.forall_mem_cons.mpr ⟨zw_618, List.forall_mem_cons.mpr ⟨zw_620, List.forall_mem_cons.mpr ⟨zw_622, List.forall_mem_cons.mpr ⟨zw_624, List.forall_mem_cons.mpr ⟨zw_626, List.forall_mem_cons.mpr ⟨zw_628, List.forall_mem_cons.mpr ⟨zw_630, List.forall_mem_cons.mpr ⟨zw_632, List.forall_mem_cons.mpr ⟨zw_634, List.forall_mem_cons.mpr ⟨zw_636, fun _ h => absurd h List.not_mem_nil⟩⟩⟩⟩⟩⟩⟩⟩⟩⟩⟩⟩⟩⟩⟩⟩⟩⟩
abbrev zz_cl : List vw_C := [(zr_PT, zt_PT, 5), (zr_PK, zt_PK, 2), (zr_SU, zt_SU, 7), (zr_FT, zt_FT, 2), (zr_FL, zt_FL, 10), (zr_RS, zt_RS, 1), (zr_RU, zt_RU, 5), (zr_MO, zt_MO, 18)]
