def R_Mix : String := "LittleMix"
def T_Mix : u_T := fun k => match k with
  | 0 => ("LittleMix", "length", "I", false)
  | 1 => ("LittleMix", "tape", "[C", true)
  | 2 => ("LittleMix", "memory", "LLittleMix$Memory;", true)
  | 3 => ("LittleMix", "registers", "LLittleMix$Registers;", true)
  | 4 => ("LittleMix", "assembler", "LLittleMix$Assembler;", true)
  | _ => ("LittleMix", "machine", "LLittleMix$Machine;", true)
def t_Mix : Nat → FieldType := fun k => match k with
  | 0 => .int
  | 1 => .array (.char)
  | 2 => .object "LittleMix$Memory"
  | 3 => .object "LittleMix$Registers"
  | 4 => .object "LittleMix$Assembler"
  | _ => .object "LittleMix$Machine"
abbrev f0_Mix : List Value := [.int 0, .null, .null, .null, .null, .null]
theorem n_Mix : ∀ a, a < 6 → ∀ b, b < 6 → a ≠ b → (T_Mix a).2.1 ≠ (T_Mix b).2.1 := by decide +kernel
theorem t_Mix_ok : ∀ k, k < 6 → parseFieldDescriptor (T_Mix k).2.2.1 = some (t_Mix k) := by decide +kernel
theorem f0_Mix_ok : ∀ j, j < 6 → defaultValue (t_Mix j) = vp_V f0_Mix j := by decide +kernel
def R_Mem : String := "LittleMix$Memory"
def T_Mem : u_T := fun k => match k with
  | _ => ("LittleMix$Memory", "octas", "[J", true)
def t_Mem : Nat → FieldType := fun k => match k with
  | _ => .array (.long)
abbrev f0_Mem : List Value := [.null]
theorem n_Mem : ∀ a, a < 1 → ∀ b, b < 1 → a ≠ b → (T_Mem a).2.1 ≠ (T_Mem b).2.1 := by decide +kernel
theorem t_Mem_ok : ∀ k, k < 1 → parseFieldDescriptor (T_Mem k).2.2.1 = some (t_Mem k) := by decide +kernel
theorem f0_Mem_ok : ∀ j, j < 1 → defaultValue (t_Mem j) = vp_V f0_Mem j := by decide +kernel
def R_Reg : String := "LittleMix$Registers"
def T_Reg : u_T := fun k => match k with
  | 0 => ("LittleMix$Registers", "depth", "I", false)
  | 1 => ("LittleMix$Registers", "local", "I", false)
  | 2 => ("LittleMix$Registers", "global", "I", false)
  | 3 => ("LittleMix$Registers", "general", "[J", true)
  | 4 => ("LittleMix$Registers", "specials", "[J", true)
  | _ => ("LittleMix$Registers", "stack", "[J", true)
def t_Reg : Nat → FieldType := fun k => match k with
  | 0 => .int
  | 1 => .int
  | 2 => .int
  | 3 => .array (.long)
  | 4 => .array (.long)
  | _ => .array (.long)
abbrev f0_Reg : List Value := [.int 0, .int 0, .int 0, .null, .null, .null]
theorem n_Reg : ∀ a, a < 6 → ∀ b, b < 6 → a ≠ b → (T_Reg a).2.1 ≠ (T_Reg b).2.1 := by decide +kernel
theorem t_Reg_ok : ∀ k, k < 6 → parseFieldDescriptor (T_Reg k).2.2.1 = some (t_Reg k) := by decide +kernel
theorem f0_Reg_ok : ∀ j, j < 6 → defaultValue (t_Reg j) = vp_V f0_Reg j := by decide +kernel
def R_Opn : String := "LittleMix$Operations"
def T_Opn : u_T := fun k => match k with
  | _ => ("LittleMix$Operations", "names", "[J", true)
def t_Opn : Nat → FieldType := fun k => match k with
  | _ => .array (.long)
abbrev f0_Opn : List Value := [.null]
theorem n_Opn : ∀ a, a < 1 → ∀ b, b < 1 → a ≠ b → (T_Opn a).2.1 ≠ (T_Opn b).2.1 := by decide +kernel
theorem t_Opn_ok : ∀ k, k < 1 → parseFieldDescriptor (T_Opn k).2.2.1 = some (t_Opn k) := by decide +kernel
theorem f0_Opn_ok : ∀ j, j < 1 → defaultValue (t_Opn j) = vp_V f0_Opn j := by decide +kernel
def R_Lin : String := "LittleMix$Line"
def T_Lin : u_T := fun k => match k with
  | 0 => ("LittleMix$Line", "labelAt", "I", false)
  | 1 => ("LittleMix$Line", "labelSize", "I", false)
  | 2 => ("LittleMix$Line", "operation", "I", false)
  | 3 => ("LittleMix$Line", "operandsAt", "I", false)
  | 4 => ("LittleMix$Line", "end", "I", false)
  | 5 => ("LittleMix$Line", "text", "[C", true)
  | _ => ("LittleMix$Line", "operations", "LLittleMix$Operations;", true)
def t_Lin : Nat → FieldType := fun k => match k with
  | 0 => .int
  | 1 => .int
  | 2 => .int
  | 3 => .int
  | 4 => .int
  | 5 => .array (.char)
  | _ => .object "LittleMix$Operations"
abbrev f0_Lin : List Value := [.int 0, .int 0, .int 0, .int 0, .int 0, .null, .null]
theorem n_Lin : ∀ a, a < 7 → ∀ b, b < 7 → a ≠ b → (T_Lin a).2.1 ≠ (T_Lin b).2.1 := by decide +kernel
theorem t_Lin_ok : ∀ k, k < 7 → parseFieldDescriptor (T_Lin k).2.2.1 = some (t_Lin k) := by decide +kernel
theorem f0_Lin_ok : ∀ j, j < 7 → defaultValue (t_Lin j) = vp_V f0_Lin j := by decide +kernel
def R_Lab : String := "LittleMix$Labels"
def T_Lab : u_T := fun k => match k with
  | 0 => ("LittleMix$Labels", "count", "I", false)
  | 1 => ("LittleMix$Labels", "text", "[C", true)
  | 2 => ("LittleMix$Labels", "starts", "[I", true)
  | 3 => ("LittleMix$Labels", "sizes", "[I", true)
  | 4 => ("LittleMix$Labels", "values", "[J", true)
  | _ => ("LittleMix$Labels", "registers", "[Z", true)
def t_Lab : Nat → FieldType := fun k => match k with
  | 0 => .int
  | 1 => .array (.char)
  | 2 => .array (.int)
  | 3 => .array (.int)
  | 4 => .array (.long)
  | _ => .array (.boolean)
abbrev f0_Lab : List Value := [.int 0, .null, .null, .null, .null, .null]
theorem n_Lab : ∀ a, a < 6 → ∀ b, b < 6 → a ≠ b → (T_Lab a).2.1 ≠ (T_Lab b).2.1 := by decide +kernel
theorem t_Lab_ok : ∀ k, k < 6 → parseFieldDescriptor (T_Lab k).2.2.1 = some (t_Lab k) := by decide +kernel
theorem f0_Lab_ok : ∀ j, j < 6 → defaultValue (t_Lab j) = vp_V f0_Lab j := by decide +kernel
def R_Sum : String := "LittleMix$Sum"
def T_Sum : u_T := fun k => match k with
  | 0 => ("LittleMix$Sum", "at", "I", false)
  | 1 => ("LittleMix$Sum", "end", "I", false)
  | 2 => ("LittleMix$Sum", "here", "J", false)
  | 3 => ("LittleMix$Sum", "readable", "Z", false)
  | 4 => ("LittleMix$Sum", "termIsRegister", "Z", false)
  | 5 => ("LittleMix$Sum", "term", "J", false)
  | 6 => ("LittleMix$Sum", "right", "Z", false)
  | 7 => ("LittleMix$Sum", "isRegister", "Z", false)
  | 8 => ("LittleMix$Sum", "value", "J", false)
  | 9 => ("LittleMix$Sum", "text", "[C", true)
  | _ => ("LittleMix$Sum", "labels", "LLittleMix$Labels;", true)
def t_Sum : Nat → FieldType := fun k => match k with
  | 0 => .int
  | 1 => .int
  | 2 => .long
  | 3 => .boolean
  | 4 => .boolean
  | 5 => .long
  | 6 => .boolean
  | 7 => .boolean
  | 8 => .long
  | 9 => .array (.char)
  | _ => .object "LittleMix$Labels"
abbrev f0_Sum : List Value := [.int 0, .int 0, .long 0, .int 0, .int 0, .long 0, .int 0, .int 0, .long 0, .null, .null]
theorem n_Sum : ∀ a, a < 11 → ∀ b, b < 11 → a ≠ b → (T_Sum a).2.1 ≠ (T_Sum b).2.1 := by decide +kernel
theorem t_Sum_ok : ∀ k, k < 11 → parseFieldDescriptor (T_Sum k).2.2.1 = some (t_Sum k) := by decide +kernel
theorem f0_Sum_ok : ∀ j, j < 11 → defaultValue (t_Sum j) = vp_V f0_Sum j := by decide +kernel
def R_Opd : String := "LittleMix$Operands"
def T_Opd : u_T := fun k => match k with
  | 0 => ("LittleMix$Operands", "right", "Z", false)
  | 1 => ("LittleMix$Operands", "anyRegister", "Z", false)
  | 2 => ("LittleMix$Operands", "count", "I", false)
  | 3 => ("LittleMix$Operands", "word", "I", false)
  | 4 => ("LittleMix$Operands", "values", "[J", true)
  | _ => ("LittleMix$Operands", "registers", "[Z", true)
def t_Opd : Nat → FieldType := fun k => match k with
  | 0 => .boolean
  | 1 => .boolean
  | 2 => .int
  | 3 => .int
  | 4 => .array (.long)
  | _ => .array (.boolean)
abbrev f0_Opd : List Value := [.int 0, .int 0, .int 0, .int 0, .null, .null]
theorem n_Opd : ∀ a, a < 6 → ∀ b, b < 6 → a ≠ b → (T_Opd a).2.1 ≠ (T_Opd b).2.1 := by decide +kernel
theorem t_Opd_ok : ∀ k, k < 6 → parseFieldDescriptor (T_Opd k).2.2.1 = some (t_Opd k) := by decide +kernel
theorem f0_Opd_ok : ∀ j, j < 6 → defaultValue (t_Opd j) = vp_V f0_Opd j := by decide +kernel
def R_Asm : String := "LittleMix$Assembler"
def T_Asm : u_T := fun k => match k with
  | 0 => ("LittleMix$Assembler", "answered", "I", false)
  | 1 => ("LittleMix$Assembler", "illLine", "I", false)
  | 2 => ("LittleMix$Assembler", "place", "I", false)
  | 3 => ("LittleMix$Assembler", "filled", "I", false)
  | 4 => ("LittleMix$Assembler", "labels", "LLittleMix$Labels;", true)
  | 5 => ("LittleMix$Assembler", "line", "LLittleMix$Line;", true)
  | 6 => ("LittleMix$Assembler", "sum", "LLittleMix$Sum;", true)
  | 7 => ("LittleMix$Assembler", "operands", "LLittleMix$Operands;", true)
  | 8 => ("LittleMix$Assembler", "answers", "[J", true)
  | _ => ("LittleMix$Assembler", "image", "LLittleMix$Memory;", true)
def t_Asm : Nat → FieldType := fun k => match k with
  | 0 => .int
  | 1 => .int
  | 2 => .int
  | 3 => .int
  | 4 => .object "LittleMix$Labels"
  | 5 => .object "LittleMix$Line"
  | 6 => .object "LittleMix$Sum"
  | 7 => .object "LittleMix$Operands"
  | 8 => .array (.long)
  | _ => .object "LittleMix$Memory"
abbrev f0_Asm : List Value := [.int 0, .int 0, .int 0, .int 0, .null, .null, .null, .null, .null, .null]
theorem n_Asm : ∀ a, a < 10 → ∀ b, b < 10 → a ≠ b → (T_Asm a).2.1 ≠ (T_Asm b).2.1 := by decide +kernel
theorem t_Asm_ok : ∀ k, k < 10 → parseFieldDescriptor (T_Asm k).2.2.1 = some (t_Asm k) := by decide +kernel
theorem f0_Asm_ok : ∀ j, j < 10 → defaultValue (t_Asm j) = vp_V f0_Asm j := by decide +kernel
def R_Mac : String := "LittleMix$Machine"
def T_Mac : u_T := fun k => match k with
  | 0 => ("LittleMix$Machine", "at", "J", false)
  | 1 => ("LittleMix$Machine", "stop", "I", false)
  | 2 => ("LittleMix$Machine", "oops", "I", false)
  | 3 => ("LittleMix$Machine", "mems", "I", false)
  | 4 => ("LittleMix$Machine", "word", "I", false)
  | 5 => ("LittleMix$Machine", "op", "I", false)
  | 6 => ("LittleMix$Machine", "x", "I", false)
  | 7 => ("LittleMix$Machine", "y", "I", false)
  | 8 => ("LittleMix$Machine", "z", "I", false)
  | 9 => ("LittleMix$Machine", "left", "J", false)
  | 10 => ("LittleMix$Machine", "right", "J", false)
  | 11 => ("LittleMix$Machine", "next", "J", false)
  | 12 => ("LittleMix$Machine", "cost", "I", false)
  | 13 => ("LittleMix$Machine", "event", "I", false)
  | 14 => ("LittleMix$Machine", "memory", "LLittleMix$Memory;", true)
  | _ => ("LittleMix$Machine", "registers", "LLittleMix$Registers;", true)
def t_Mac : Nat → FieldType := fun k => match k with
  | 0 => .long
  | 1 => .int
  | 2 => .int
  | 3 => .int
  | 4 => .int
  | 5 => .int
  | 6 => .int
  | 7 => .int
  | 8 => .int
  | 9 => .long
  | 10 => .long
  | 11 => .long
  | 12 => .int
  | 13 => .int
  | 14 => .object "LittleMix$Memory"
  | _ => .object "LittleMix$Registers"
abbrev f0_Mac : List Value := [.long 0, .int 0, .int 0, .int 0, .int 0, .int 0, .int 0, .int 0, .int 0, .long 0, .long 0, .long 0, .int 0, .int 0, .null, .null]
theorem n_Mac : ∀ a, a < 16 → ∀ b, b < 16 → a ≠ b → (T_Mac a).2.1 ≠ (T_Mac b).2.1 := by decide +kernel
theorem t_Mac_ok : ∀ k, k < 16 → parseFieldDescriptor (T_Mac k).2.2.1 = some (t_Mac k) := by decide +kernel
theorem f0_Mac_ok : ∀ j, j < 16 → defaultValue (t_Mac j) = vp_V f0_Mac j := by decide +kernel
def R_Mod : String := "LittleMixModel"
def T_Mod : u_T := fun k => match k with
  | 0 => ("LittleMixModel", "code", "I", false)
  | 1 => ("LittleMixModel", "taped", "I", false)
  | 2 => ("LittleMixModel", "size", "I", false)
  | 3 => ("LittleMixModel", "illAt", "I", false)
  | 4 => ("LittleMixModel", "labels", "I", false)
  | 5 => ("LittleMixModel", "keptCount", "I", false)
  | 6 => ("LittleMixModel", "stacked", "I", false)
  | 7 => ("LittleMixModel", "local", "I", false)
  | 8 => ("LittleMixModel", "global", "I", false)
  | 9 => ("LittleMixModel", "oops", "I", false)
  | 10 => ("LittleMixModel", "mems", "I", false)
  | 11 => ("LittleMixModel", "stop", "I", false)
  | 12 => ("LittleMixModel", "next", "J", false)
  | 13 => ("LittleMixModel", "value", "J", false)
  | 14 => ("LittleMixModel", "register", "Z", false)
  | 15 => ("LittleMixModel", "right", "Z", false)
  | 16 => ("LittleMixModel", "term", "J", false)
  | 17 => ("LittleMixModel", "termRegister", "Z", false)
  | 18 => ("LittleMixModel", "labelFrom", "I", false)
  | 19 => ("LittleMixModel", "labelTo", "I", false)
  | 20 => ("LittleMixModel", "form", "I", false)
  | 21 => ("LittleMixModel", "base", "I", false)
  | 22 => ("LittleMixModel", "operands", "I", false)
  | 23 => ("LittleMixModel", "each", "I", false)
  | 24 => ("LittleMixModel", "xyz", "I", false)
  | 25 => ("LittleMixModel", "upper", "J", false)
  | 26 => ("LittleMixModel", "rest", "J", false)
  | 27 => ("LittleMixModel", "event", "I", false)
  | 28 => ("LittleMixModel", "eventY", "J", false)
  | 29 => ("LittleMixModel", "eventZ", "J", false)
  | 30 => ("LittleMixModel", "executed", "J", false)
  | 31 => ("LittleMixModel", "tape", "[I", true)
  | 32 => ("LittleMixModel", "text", "[I", true)
  | 33 => ("LittleMixModel", "labelAt", "[I", true)
  | 34 => ("LittleMixModel", "labelLength", "[I", true)
  | 35 => ("LittleMixModel", "labelIs", "[J", true)
  | 36 => ("LittleMixModel", "labelRegister", "[Z", true)
  | 37 => ("LittleMixModel", "kept", "[J", true)
  | 38 => ("LittleMixModel", "memory", "[I", true)
  | 39 => ("LittleMixModel", "made", "[I", true)
  | 40 => ("LittleMixModel", "\x72", "[J", true)
  | 41 => ("LittleMixModel", "special", "[J", true)
  | 42 => ("LittleMixModel", "stack", "[J", true)
  | _ => ("LittleMixModel", "aside", "[J", true)
def t_Mod : Nat → FieldType := fun k => match k with
  | 0 => .int
  | 1 => .int
  | 2 => .int
  | 3 => .int
  | 4 => .int
  | 5 => .int
  | 6 => .int
  | 7 => .int
  | 8 => .int
  | 9 => .int
  | 10 => .int
  | 11 => .int
  | 12 => .long
  | 13 => .long
  | 14 => .boolean
  | 15 => .boolean
  | 16 => .long
  | 17 => .boolean
  | 18 => .int
  | 19 => .int
  | 20 => .int
  | 21 => .int
  | 22 => .int
  | 23 => .int
  | 24 => .int
  | 25 => .long
  | 26 => .long
  | 27 => .int
  | 28 => .long
  | 29 => .long
  | 30 => .long
  | 31 => .array (.int)
  | 32 => .array (.int)
  | 33 => .array (.int)
  | 34 => .array (.int)
  | 35 => .array (.long)
  | 36 => .array (.boolean)
  | 37 => .array (.long)
  | 38 => .array (.int)
  | 39 => .array (.int)
  | 40 => .array (.long)
  | 41 => .array (.long)
  | 42 => .array (.long)
  | _ => .array (.long)
abbrev f0_Mod : List Value := [.int 0, .int 0, .int 0, .int 0, .int 0, .int 0, .int 0, .int 0, .int 0, .int 0, .int 0, .int 0, .long 0, .long 0, .int 0, .int 0, .long 0, .int 0, .int 0, .int 0, .int 0, .int 0, .int 0, .int 0, .int 0, .long 0, .long 0, .int 0, .long 0, .long 0, .long 0, .null, .null, .null, .null, .null, .null, .null, .null, .null, .null, .null, .null, .null]
theorem n_Mod : ∀ a, a < 44 → ∀ b, b < 44 → a ≠ b → (T_Mod a).2.1 ≠ (T_Mod b).2.1 := by decide +kernel
theorem t_Mod_ok : ∀ k, k < 44 → parseFieldDescriptor (T_Mod k).2.2.1 = some (t_Mod k) := by decide +kernel
theorem f0_Mod_ok : ∀ j, j < 44 → defaultValue (t_Mod j) = vp_V f0_Mod j := by decide +kernel
abbrev mx_cl : List vw_C := [(R_Mix, T_Mix, 6), (R_Mem, T_Mem, 1), (R_Reg, T_Reg, 6), (R_Opn, T_Opn, 1), (R_Lin, T_Lin, 7), (R_Lab, T_Lab, 6), (R_Sum, T_Sum, 11), (R_Opd, T_Opd, 6), (R_Asm, T_Asm, 10), (R_Mac, T_Mac, 16), (R_Mod, T_Mod, 44)]
def mx_nS : Nat := 27
def mx_own : List String := ["LittleMix$Operations", "LittleMix$Operations", "LittleMix$Operations", "LittleMix$Operations", "LittleMix$Operations", "LittleMix$Operations", "LittleMix$Operations", "LittleMix$Operations", "LittleMix$Operations", "LittleMix$Operations", "LittleMix$Operations", "LittleMix$Operations", "LittleMix$Operations", "LittleMix$Operations", "LittleMix$Specials", "LittleMixModel", "LittleMixModel", "LittleMixModel", "LittleMixModel", "LittleMixModel", "LittleMixModel", "LittleMixModel", "LittleMixModel", "LittleMixModel", "LittleMixModel", "LittleMixModel", "LittleMixModel"]
def mx_idx : List Nat := [15, 21, 23, 25, 27, 29, 31, 33, 35, 37, 39, 41, 43, 45, 15, 124, 180, 185, 190, 192, 194, 196, 198, 200, 206, 212, 214]
def mx_tx : List String := ["TRAP", "MUL MULU DIV DIVU ADD ADDU SUB SUBU 2ADDU 4ADDU 8ADDU 16ADDU CMP CMPU NEG NEGU SL SLU SR SRU", "BN BZ BP BOD BNN BNZ BNP BEV PBN PBZ PBP PBOD PBNN PBNZ PBNP PBEV", "CSN CSZ CSP CSOD CSNN CSNZ CSNP CSEV ZSN ZSZ ZSP ZSOD ZSNN ZSNZ ZSNP ZSEV", "LDB LDBU LDW LDWU LDT LDTU LDO", "STB STBU STW STWU STT STTU STO", "STCO", "OR ORN NOR XOR AND ANDN NAND NXOR BDIF WDIF TDIF ODIF MUX SADD MOR MXOR", "SETH SETMH SETML SETL INCH INCMH INCML INCL", "ORH ORMH ORML ORL ANDNH ANDNMH ANDNML ANDNL", "JMP PUSHJ GETA PUT POP", "RESUME", "SWYM GET TRIP", "IS LOC BYTE WYDE TETRA OCTA", "BDHJMRGLAWXYZ", "rB rD rH rJ rM rR rG rL rA rW rX rY rZ ", "IS LOC BYTE WYDE TETRA OCTA ", "MUL MULU DIV DIVU ADD ADDU SUB SUBU 2ADDU 4ADDU 8ADDU 16ADDU CMP CMPU NEG NEGU SL SLU SR SRU ", "LDB LDBU LDW LDWU LDT LDTU LDO ", "STB STBU STW STWU STT STTU STO ", "OR ORN NOR XOR AND ANDN NAND NXOR BDIF WDIF TDIF ODIF MUX SADD MOR MXOR ", "SETH SETMH SETML SETL INCH INCMH INCML INCL ORH ORMH ORML ORL ANDNH ANDNMH ANDNML ANDNL ", "TRAP RESUME SWYM TRIP ", "STCO PUSHJ GETA JMP PUT GET POP ", "B", "B PB CS ZS ", "N Z P OD NN NZ NP EV "]
def mx_len : List Nat := [4, 92, 65, 73, 30, 30, 4, 71, 43, 43, 22, 6, 13, 27, 13, 39, 28, 93, 31, 31, 72, 88, 22, 32, 1, 11, 21]
def mx_byt : List (List Int32) := [[84, 82, 65, 80], [77, 85, 76, 32, 77, 85, 76, 85, 32, 68, 73, 86, 32, 68, 73, 86, 85, 32, 65, 68, 68, 32, 65, 68, 68, 85, 32, 83, 85, 66, 32, 83, 85, 66, 85, 32, 50, 65, 68, 68, 85, 32, 52, 65, 68, 68, 85, 32, 56, 65, 68, 68, 85, 32, 49, 54, 65, 68, 68, 85, 32, 67, 77, 80, 32, 67, 77, 80, 85, 32, 78, 69, 71, 32, 78, 69, 71, 85, 32, 83, 76, 32, 83, 76, 85, 32, 83, 82, 32, 83, 82, 85], [66, 78, 32, 66, 90, 32, 66, 80, 32, 66, 79, 68, 32, 66, 78, 78, 32, 66, 78, 90, 32, 66, 78, 80, 32, 66, 69, 86, 32, 80, 66, 78, 32, 80, 66, 90, 32, 80, 66, 80, 32, 80, 66, 79, 68, 32, 80, 66, 78, 78, 32, 80, 66, 78, 90, 32, 80, 66, 78, 80, 32, 80, 66, 69, 86], [67, 83, 78, 32, 67, 83, 90, 32, 67, 83, 80, 32, 67, 83, 79, 68, 32, 67, 83, 78, 78, 32, 67, 83, 78, 90, 32, 67, 83, 78, 80, 32, 67, 83, 69, 86, 32, 90, 83, 78, 32, 90, 83, 90, 32, 90, 83, 80, 32, 90, 83, 79, 68, 32, 90, 83, 78, 78, 32, 90, 83, 78, 90, 32, 90, 83, 78, 80, 32, 90, 83, 69, 86], [76, 68, 66, 32, 76, 68, 66, 85, 32, 76, 68, 87, 32, 76, 68, 87, 85, 32, 76, 68, 84, 32, 76, 68, 84, 85, 32, 76, 68, 79], [83, 84, 66, 32, 83, 84, 66, 85, 32, 83, 84, 87, 32, 83, 84, 87, 85, 32, 83, 84, 84, 32, 83, 84, 84, 85, 32, 83, 84, 79], [83, 84, 67, 79], [79, 82, 32, 79, 82, 78, 32, 78, 79, 82, 32, 88, 79, 82, 32, 65, 78, 68, 32, 65, 78, 68, 78, 32, 78, 65, 78, 68, 32, 78, 88, 79, 82, 32, 66, 68, 73, 70, 32, 87, 68, 73, 70, 32, 84, 68, 73, 70, 32, 79, 68, 73, 70, 32, 77, 85, 88, 32, 83, 65, 68, 68, 32, 77, 79, 82, 32, 77, 88, 79, 82], [83, 69, 84, 72, 32, 83, 69, 84, 77, 72, 32, 83, 69, 84, 77, 76, 32, 83, 69, 84, 76, 32, 73, 78, 67, 72, 32, 73, 78, 67, 77, 72, 32, 73, 78, 67, 77, 76, 32, 73, 78, 67, 76], [79, 82, 72, 32, 79, 82, 77, 72, 32, 79, 82, 77, 76, 32, 79, 82, 76, 32, 65, 78, 68, 78, 72, 32, 65, 78, 68, 78, 77, 72, 32, 65, 78, 68, 78, 77, 76, 32, 65, 78, 68, 78, 76], [74, 77, 80, 32, 80, 85, 83, 72, 74, 32, 71, 69, 84, 65, 32, 80, 85, 84, 32, 80, 79, 80], [82, 69, 83, 85, 77, 69], [83, 87, 89, 77, 32, 71, 69, 84, 32, 84, 82, 73, 80], [73, 83, 32, 76, 79, 67, 32, 66, 89, 84, 69, 32, 87, 89, 68, 69, 32, 84, 69, 84, 82, 65, 32, 79, 67, 84, 65], [66, 68, 72, 74, 77, 82, 71, 76, 65, 87, 88, 89, 90], [114, 66, 32, 114, 68, 32, 114, 72, 32, 114, 74, 32, 114, 77, 32, 114, 82, 32, 114, 71, 32, 114, 76, 32, 114, 65, 32, 114, 87, 32, 114, 88, 32, 114, 89, 32, 114, 90, 32], [73, 83, 32, 76, 79, 67, 32, 66, 89, 84, 69, 32, 87, 89, 68, 69, 32, 84, 69, 84, 82, 65, 32, 79, 67, 84, 65, 32], [77, 85, 76, 32, 77, 85, 76, 85, 32, 68, 73, 86, 32, 68, 73, 86, 85, 32, 65, 68, 68, 32, 65, 68, 68, 85, 32, 83, 85, 66, 32, 83, 85, 66, 85, 32, 50, 65, 68, 68, 85, 32, 52, 65, 68, 68, 85, 32, 56, 65, 68, 68, 85, 32, 49, 54, 65, 68, 68, 85, 32, 67, 77, 80, 32, 67, 77, 80, 85, 32, 78, 69, 71, 32, 78, 69, 71, 85, 32, 83, 76, 32, 83, 76, 85, 32, 83, 82, 32, 83, 82, 85, 32], [76, 68, 66, 32, 76, 68, 66, 85, 32, 76, 68, 87, 32, 76, 68, 87, 85, 32, 76, 68, 84, 32, 76, 68, 84, 85, 32, 76, 68, 79, 32], [83, 84, 66, 32, 83, 84, 66, 85, 32, 83, 84, 87, 32, 83, 84, 87, 85, 32, 83, 84, 84, 32, 83, 84, 84, 85, 32, 83, 84, 79, 32], [79, 82, 32, 79, 82, 78, 32, 78, 79, 82, 32, 88, 79, 82, 32, 65, 78, 68, 32, 65, 78, 68, 78, 32, 78, 65, 78, 68, 32, 78, 88, 79, 82, 32, 66, 68, 73, 70, 32, 87, 68, 73, 70, 32, 84, 68, 73, 70, 32, 79, 68, 73, 70, 32, 77, 85, 88, 32, 83, 65, 68, 68, 32, 77, 79, 82, 32, 77, 88, 79, 82, 32], [83, 69, 84, 72, 32, 83, 69, 84, 77, 72, 32, 83, 69, 84, 77, 76, 32, 83, 69, 84, 76, 32, 73, 78, 67, 72, 32, 73, 78, 67, 77, 72, 32, 73, 78, 67, 77, 76, 32, 73, 78, 67, 76, 32, 79, 82, 72, 32, 79, 82, 77, 72, 32, 79, 82, 77, 76, 32, 79, 82, 76, 32, 65, 78, 68, 78, 72, 32, 65, 78, 68, 78, 77, 72, 32, 65, 78, 68, 78, 77, 76, 32, 65, 78, 68, 78, 76, 32], [84, 82, 65, 80, 32, 82, 69, 83, 85, 77, 69, 32, 83, 87, 89, 77, 32, 84, 82, 73, 80, 32], [83, 84, 67, 79, 32, 80, 85, 83, 72, 74, 32, 71, 69, 84, 65, 32, 74, 77, 80, 32, 80, 85, 84, 32, 71, 69, 84, 32, 80, 79, 80, 32], [66], [66, 32, 80, 66, 32, 67, 83, 32, 90, 83, 32], [78, 32, 90, 32, 80, 32, 79, 68, 32, 78, 78, 32, 78, 90, 32, 78, 80, 32, 69, 86, 32]]
def mx_num : List Int32 := [0, 1, 3, 4, 5, 6, 19, 20, 21, 24, 25, 26, 27]
theorem mx_len_lt : ∀ i, i < mx_nS → mx_len.getD i 0 < 2 ^ 31 := by decide
