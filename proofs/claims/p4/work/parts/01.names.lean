/-! names: classes, fields in the order of the slots, methods; written by wip/gen/names.py out of the task -/
def R_PS : String := "PeerScripts"
def R_Lv : String := "PeerScripts$Level"
def R_Lg : String := "PeerScripts$Log"
def R_Pe : String := "PeerScripts$Peer"
def R_Pd : String := "PeerScripts$Procedures"
def R_Rn : String := "PeerScripts$Runner"
def R_Sm : String := "PeerScripts$Sums"
def R_Tx : String := "PeerScripts$Text"
def R_Vl : String := "PeerScripts$Values"
def R_Vs : String := "PeerScripts$Variables"
def R_Md : String := "PeerScriptsModel"
def R_Lw : String := "PeerScriptsLaw"
def R_Ar : String := "java/util/Arrays"
def R_Ma : String := "java/lang/Math"
def R_St : String := "java/lang/String"
def R_S1 : String := "java/lang/StringLatin1"
def R_S2 : String := "java/lang/StringUTF16"
def R_Sy : String := "java/lang/System"
def R_Ch : String := "java/lang/Character"
def R_Pp : String := "jdk/internal/util/Preconditions"
def R_Ob : String := "java/lang/Object"
def F_PS : u_T := fun k => match k with
  | 0 => ("PeerScripts", "text", "LPeerScripts$Text;", true)
  | 1 => ("PeerScripts", "partner", "LPeerScripts$Peer;", true)
  | _ => ("PeerScripts", "runner", "LPeerScripts$Runner;", true)
def t_PS : Nat → FieldType := fun k => match k with
  | 0 => (.object "PeerScripts$Text")
  | 1 => (.object "PeerScripts$Peer")
  | _ => (.object "PeerScripts$Runner")
theorem n_PS : ∀ a, a < 3 → ∀ b, b < 3 → a ≠ b → (F_PS a).2.1 ≠ (F_PS b).2.1 := by decide +kernel
theorem t_PS_ok : ∀ k, k < 3 → parseFieldDescriptor (F_PS k).2.2.1 = some (t_PS k) := by decide +kernel
def F_Tx : u_T := fun k => match k with
  | 0 => ("PeerScripts$Text", "letters", "[C", true)
  | 1 => ("PeerScripts$Text", "count", "I", false)
  | _ => ("PeerScripts$Text", "wasRun", "Z", false)
def t_Tx : Nat → FieldType := fun k => match k with
  | 0 => (.array .char)
  | 1 => .int
  | _ => .boolean
theorem n_Tx : ∀ a, a < 3 → ∀ b, b < 3 → a ≠ b → (F_Tx a).2.1 ≠ (F_Tx b).2.1 := by decide +kernel
theorem t_Tx_ok : ∀ k, k < 3 → parseFieldDescriptor (F_Tx k).2.2.1 = some (t_Tx k) := by decide +kernel
def F_Pe : u_T := fun k => match k with
  | 0 => ("PeerScripts$Peer", "states", "[I", true)
  | 1 => ("PeerScripts$Peer", "ons", "[I", true)
  | 2 => ("PeerScripts$Peer", "sayings", "[I", true)
  | 3 => ("PeerScripts$Peer", "nexts", "[I", true)
  | 4 => ("PeerScripts$Peer", "ruleCount", "I", false)
  | 5 => ("PeerScripts$Peer", "state", "I", false)
  | 6 => ("PeerScripts$Peer", "input", "[I", true)
  | 7 => ("PeerScripts$Peer", "inputCount", "I", false)
  | 8 => ("PeerScripts$Peer", "buffer", "LPeerScripts$Values;", true)
  | _ => ("PeerScripts$Peer", "log", "LPeerScripts$Log;", true)
def t_Pe : Nat → FieldType := fun k => match k with
  | 0 => (.array .int)
  | 1 => (.array .int)
  | 2 => (.array .int)
  | 3 => (.array .int)
  | 4 => .int
  | 5 => .int
  | 6 => (.array .int)
  | 7 => .int
  | 8 => (.object "PeerScripts$Values")
  | _ => (.object "PeerScripts$Log")
theorem n_Pe : ∀ a, a < 10 → ∀ b, b < 10 → a ≠ b → (F_Pe a).2.1 ≠ (F_Pe b).2.1 := by decide +kernel
theorem t_Pe_ok : ∀ k, k < 10 → parseFieldDescriptor (F_Pe k).2.2.1 = some (t_Pe k) := by decide +kernel
def F_Lg : u_T := fun k => match k with
  | 0 => ("PeerScripts$Log", "latest", "[I", true)
  | _ => ("PeerScripts$Log", "count", "I", false)
def t_Lg : Nat → FieldType := fun k => match k with
  | 0 => (.array .int)
  | _ => .int
theorem n_Lg : ∀ a, a < 2 → ∀ b, b < 2 → a ≠ b → (F_Lg a).2.1 ≠ (F_Lg b).2.1 := by decide +kernel
theorem t_Lg_ok : ∀ k, k < 2 → parseFieldDescriptor (F_Lg k).2.2.1 = some (t_Lg k) := by decide +kernel
def F_Vl : u_T := fun k => match k with
  | 0 => ("PeerScripts$Values", "letters", "[C", true)
  | _ => ("PeerScripts$Values", "sizes", "[I", true)
def t_Vl : Nat → FieldType := fun k => match k with
  | 0 => (.array .char)
  | _ => (.array .int)
theorem n_Vl : ∀ a, a < 2 → ∀ b, b < 2 → a ≠ b → (F_Vl a).2.1 ≠ (F_Vl b).2.1 := by decide +kernel
theorem t_Vl_ok : ∀ k, k < 2 → parseFieldDescriptor (F_Vl k).2.2.1 = some (t_Vl k) := by decide +kernel
def F_Rn : u_T := fun k => match k with
  | 0 => ("PeerScripts$Runner", "text", "LPeerScripts$Text;", true)
  | 1 => ("PeerScripts$Runner", "partner", "LPeerScripts$Peer;", true)
  | 2 => ("PeerScripts$Runner", "variables", "LPeerScripts$Variables;", true)
  | 3 => ("PeerScripts$Runner", "procedures", "LPeerScripts$Procedures;", true)
  | 4 => ("PeerScripts$Runner", "sums", "LPeerScripts$Sums;", true)
  | 5 => ("PeerScripts$Runner", "levels", "[LPeerScripts$Level;", true)
  | 6 => ("PeerScripts$Runner", "result", "LPeerScripts$Values;", true)
  | 7 => ("PeerScripts$Runner", "fuelGiven", "I", false)
  | _ => ("PeerScripts$Runner", "fuelLeft", "I", false)
def t_Rn : Nat → FieldType := fun k => match k with
  | 0 => (.object "PeerScripts$Text")
  | 1 => (.object "PeerScripts$Peer")
  | 2 => (.object "PeerScripts$Variables")
  | 3 => (.object "PeerScripts$Procedures")
  | 4 => (.object "PeerScripts$Sums")
  | 5 => (.array (.object "PeerScripts$Level"))
  | 6 => (.object "PeerScripts$Values")
  | 7 => .int
  | _ => .int
theorem n_Rn : ∀ a, a < 9 → ∀ b, b < 9 → a ≠ b → (F_Rn a).2.1 ≠ (F_Rn b).2.1 := by decide +kernel
theorem t_Rn_ok : ∀ k, k < 9 → parseFieldDescriptor (F_Rn k).2.2.1 = some (t_Rn k) := by decide +kernel
def F_Vs : u_T := fun k => match k with
  | 0 => ("PeerScripts$Variables", "frames", "[LPeerScripts$Values;", true)
  | _ => ("PeerScripts$Variables", "linked", "[Z", true)
def t_Vs : Nat → FieldType := fun k => match k with
  | 0 => (.array (.object "PeerScripts$Values"))
  | _ => (.array .boolean)
theorem n_Vs : ∀ a, a < 2 → ∀ b, b < 2 → a ≠ b → (F_Vs a).2.1 ≠ (F_Vs b).2.1 := by decide +kernel
theorem t_Vs_ok : ∀ k, k < 2 → parseFieldDescriptor (F_Vs k).2.2.1 = some (t_Vs k) := by decide +kernel
def F_Pd : u_T := fun k => match k with
  | 0 => ("PeerScripts$Procedures", "starts", "[I", true)
  | 1 => ("PeerScripts$Procedures", "ends", "[I", true)
  | _ => ("PeerScripts$Procedures", "parameters", "[I", true)
def t_Pd : Nat → FieldType := fun k => match k with
  | 0 => (.array .int)
  | 1 => (.array .int)
  | _ => (.array .int)
theorem n_Pd : ∀ a, a < 3 → ∀ b, b < 3 → a ≠ b → (F_Pd a).2.1 ≠ (F_Pd b).2.1 := by decide +kernel
theorem t_Pd_ok : ∀ k, k < 3 → parseFieldDescriptor (F_Pd k).2.2.1 = some (t_Pd k) := by decide +kernel
def F_Sm : u_T := fun k => match k with
  | 0 => ("PeerScripts$Sums", "letters", "[C", true)
  | 1 => ("PeerScripts$Sums", "variables", "LPeerScripts$Variables;", true)
  | 2 => ("PeerScripts$Sums", "operands", "[I", true)
  | 3 => ("PeerScripts$Sums", "signs", "[C", true)
  | 4 => ("PeerScripts$Sums", "operandCount", "I", false)
  | 5 => ("PeerScripts$Sums", "signCount", "I", false)
  | 6 => ("PeerScripts$Sums", "openCount", "I", false)
  | 7 => ("PeerScripts$Sums", "at", "I", false)
  | 8 => ("PeerScripts$Sums", "end", "I", false)
  | 9 => ("PeerScripts$Sums", "frame", "I", false)
  | 10 => ("PeerScripts$Sums", "operandIsDue", "Z", false)
  | 11 => ("PeerScripts$Sums", "variableError", "I", false)
  | 12 => ("PeerScripts$Sums", "byZero", "Z", false)
  | _ => ("PeerScripts$Sums", "value", "I", false)
def t_Sm : Nat → FieldType := fun k => match k with
  | 0 => (.array .char)
  | 1 => (.object "PeerScripts$Variables")
  | 2 => (.array .int)
  | 3 => (.array .char)
  | 4 => .int
  | 5 => .int
  | 6 => .int
  | 7 => .int
  | 8 => .int
  | 9 => .int
  | 10 => .boolean
  | 11 => .int
  | 12 => .boolean
  | _ => .int
theorem n_Sm : ∀ a, a < 14 → ∀ b, b < 14 → a ≠ b → (F_Sm a).2.1 ≠ (F_Sm b).2.1 := by decide +kernel
theorem t_Sm_ok : ∀ k, k < 14 → parseFieldDescriptor (F_Sm k).2.2.1 = some (t_Sm k) := by decide +kernel
def F_Lv : u_T := fun k => match k with
  | 0 => ("PeerScripts$Level", "words", "LPeerScripts$Values;", true)
  | 1 => ("PeerScripts$Level", "braced", "[Z", true)
  | 2 => ("PeerScripts$Level", "starts", "[I", true)
  | 3 => ("PeerScripts$Level", "ends", "[I", true)
  | 4 => ("PeerScripts$Level", "count", "I", false)
  | 5 => ("PeerScripts$Level", "at", "I", false)
  | 6 => ("PeerScripts$Level", "end", "I", false)
  | 7 => ("PeerScripts$Level", "frame", "I", false)
  | 8 => ("PeerScripts$Level", "inBrackets", "Z", false)
  | _ => ("PeerScripts$Level", "over", "Z", false)
def t_Lv : Nat → FieldType := fun k => match k with
  | 0 => (.object "PeerScripts$Values")
  | 1 => (.array .boolean)
  | 2 => (.array .int)
  | 3 => (.array .int)
  | 4 => .int
  | 5 => .int
  | 6 => .int
  | 7 => .int
  | 8 => .boolean
  | _ => .boolean
theorem n_Lv : ∀ a, a < 10 → ∀ b, b < 10 → a ≠ b → (F_Lv a).2.1 ≠ (F_Lv b).2.1 := by decide +kernel
theorem t_Lv_ok : ∀ k, k < 10 → parseFieldDescriptor (F_Lv k).2.2.1 = some (t_Lv k) := by decide +kernel
def F_Md : u_T := fun k => match k with
  | 0 => ("PeerScriptsModel", "text", "[C", true)
  | 1 => ("PeerScriptsModel", "size", "I", false)
  | 2 => ("PeerScriptsModel", "ran", "Z", false)
  | 3 => ("PeerScriptsModel", "has", "[I", true)
  | 4 => ("PeerScriptsModel", "held", "[C", true)
  | 5 => ("PeerScriptsModel", "linked", "[Z", true)
  | 6 => ("PeerScriptsModel", "defined", "[Z", true)
  | 7 => ("PeerScriptsModel", "from", "[I", true)
  | 8 => ("PeerScriptsModel", "to", "[I", true)
  | 9 => ("PeerScriptsModel", "parameter", "[I", true)
  | 10 => ("PeerScriptsModel", "level", "I", false)
  | 11 => ("PeerScriptsModel", "at", "[I", true)
  | 12 => ("PeerScriptsModel", "end", "[I", true)
  | 13 => ("PeerScriptsModel", "why", "[I", true)
  | 14 => ("PeerScriptsModel", "frame", "[I", true)
  | 15 => ("PeerScriptsModel", "mode", "[I", true)
  | 16 => ("PeerScriptsModel", "count", "[I", true)
  | 17 => ("PeerScriptsModel", "lastSize", "[I", true)
  | 18 => ("PeerScriptsModel", "last", "[C", true)
  | 19 => ("PeerScriptsModel", "braced", "[Z", true)
  | 20 => ("PeerScriptsModel", "start", "[I", true)
  | 21 => ("PeerScriptsModel", "length", "[I", true)
  | 22 => ("PeerScriptsModel", "chars", "[C", true)
  | 23 => ("PeerScriptsModel", "signal", "I", false)
  | 24 => ("PeerScriptsModel", "code", "I", false)
  | 25 => ("PeerScriptsModel", "resultSize", "I", false)
  | 26 => ("PeerScriptsModel", "result", "[C", true)
  | 27 => ("PeerScriptsModel", "fuel", "I", false)
  | 28 => ("PeerScriptsModel", "used", "I", false)
  | 29 => ("PeerScriptsModel", "signs", "[I", true)
  | 30 => ("PeerScriptsModel", "values", "[I", true)
  | 31 => ("PeerScriptsModel", "signCount", "I", false)
  | 32 => ("PeerScriptsModel", "valueCount", "I", false)
  | 33 => ("PeerScriptsModel", "zero", "Z", false)
  | 34 => ("PeerScriptsModel", "trouble", "I", false)
  | 35 => ("PeerScriptsModel", "spot", "I", false)
  | 36 => ("PeerScriptsModel", "subject", "[C", true)
  | 37 => ("PeerScriptsModel", "fit", "[Z", true)
  | 38 => ("PeerScriptsModel", "state", "I", false)
  | 39 => ("PeerScriptsModel", "rules", "I", false)
  | 40 => ("PeerScriptsModel", "rState", "[I", true)
  | 41 => ("PeerScriptsModel", "rOn", "[I", true)
  | 42 => ("PeerScriptsModel", "rSays", "[I", true)
  | 43 => ("PeerScriptsModel", "rNext", "[I", true)
  | 44 => ("PeerScriptsModel", "inputSize", "I", false)
  | 45 => ("PeerScriptsModel", "input", "[C", true)
  | 46 => ("PeerScriptsModel", "bufferSize", "I", false)
  | 47 => ("PeerScriptsModel", "buffer", "[C", true)
  | 48 => ("PeerScriptsModel", "talked", "I", false)
  | _ => ("PeerScriptsModel", "talk", "[I", true)
def t_Md : Nat → FieldType := fun k => match k with
  | 0 => (.array .char)
  | 1 => .int
  | 2 => .boolean
  | 3 => (.array .int)
  | 4 => (.array .char)
  | 5 => (.array .boolean)
  | 6 => (.array .boolean)
  | 7 => (.array .int)
  | 8 => (.array .int)
  | 9 => (.array .int)
  | 10 => .int
  | 11 => (.array .int)
  | 12 => (.array .int)
  | 13 => (.array .int)
  | 14 => (.array .int)
  | 15 => (.array .int)
  | 16 => (.array .int)
  | 17 => (.array .int)
  | 18 => (.array .char)
  | 19 => (.array .boolean)
  | 20 => (.array .int)
  | 21 => (.array .int)
  | 22 => (.array .char)
  | 23 => .int
  | 24 => .int
  | 25 => .int
  | 26 => (.array .char)
  | 27 => .int
  | 28 => .int
  | 29 => (.array .int)
  | 30 => (.array .int)
  | 31 => .int
  | 32 => .int
  | 33 => .boolean
  | 34 => .int
  | 35 => .int
  | 36 => (.array .char)
  | 37 => (.array .boolean)
  | 38 => .int
  | 39 => .int
  | 40 => (.array .int)
  | 41 => (.array .int)
  | 42 => (.array .int)
  | 43 => (.array .int)
  | 44 => .int
  | 45 => (.array .char)
  | 46 => .int
  | 47 => (.array .char)
  | 48 => .int
  | _ => (.array .int)
theorem n_Md : ∀ a, a < 50 → ∀ b, b < 50 → a ≠ b → (F_Md a).2.1 ≠ (F_Md b).2.1 := by decide +kernel
theorem t_Md_ok : ∀ k, k < 50 → parseFieldDescriptor (F_Md k).2.2.1 = some (t_Md k) := by decide +kernel
abbrev classes : List vw_C := [(R_PS, F_PS, 3), (R_Tx, F_Tx, 3), (R_Pe, F_Pe, 10), (R_Lg, F_Lg, 2), (R_Vl, F_Vl, 2), (R_Rn, F_Rn, 9), (R_Vs, F_Vs, 2), (R_Pd, F_Pd, 3), (R_Sm, F_Sm, 14), (R_Lv, F_Lv, 10), (R_Md, F_Md, 50)]
/-- the words that keep, of the tables -/
def tb : List Cond := lw_tbl.filter goodWord
theorem tb_in {w : Cond} (i : Nat) (h : tables_1[i]? = some w) (hg : goodWord w = true) : w ∈ tb := List.mem_filter.mpr ⟨List.mem_append_right _ (List.mem_of_getElem? h), hg⟩
theorem tb_mem {w : Cond} (h : w ∈ tables_1) (hg : goodWord w = true) : w ∈ tb := List.mem_filter.mpr ⟨List.mem_append_right _ h, hg⟩
theorem tb_sel {w : Cond} (i : Nat) (h : (k2_sels lw_privs)[i]? = some w) (hg : goodWord w = true) : w ∈ tb := List.mem_filter.mpr ⟨List.mem_append_left _ (List.mem_of_getElem? h), hg⟩
theorem tb_good (c d : Cond) (hd : d ∈ tb) : GoodIn (c :: tb) (d :: tb) := fun w hw => (List.mem_cons.mp hw).elim (fun e => ⟨List.mem_cons_of_mem _ (e ▸ hd), good_of_word (List.mem_filter.mp (e ▸ hd)).2⟩) (fun h => ⟨List.mem_cons_of_mem _ h, good_of_word (List.mem_filter.mp h).2⟩)
theorem in_PS : ∀ w ∈ u_ws R_PS F_PS 3, w ∈ tb := by
  intro w hw
  obtain ⟨k, hk, rfl⟩ := List.mem_map.mp hw
  have hk := List.mem_range.mp hk
  have h : ∀ k, k < 3 → u_lay R_PS F_PS k ∈ tb := by decide +kernel
  exact h k hk
theorem in_Tx : ∀ w ∈ u_ws R_Tx F_Tx 3, w ∈ tb := by
  intro w hw
  obtain ⟨k, hk, rfl⟩ := List.mem_map.mp hw
  have hk := List.mem_range.mp hk
  have h : ∀ k, k < 3 → u_lay R_Tx F_Tx k ∈ tb := by decide +kernel
  exact h k hk
theorem in_Pe : ∀ w ∈ u_ws R_Pe F_Pe 10, w ∈ tb := by
  intro w hw
  obtain ⟨k, hk, rfl⟩ := List.mem_map.mp hw
  have hk := List.mem_range.mp hk
  have h : ∀ k, k < 10 → u_lay R_Pe F_Pe k ∈ tb := by decide +kernel
  exact h k hk
theorem in_Lg : ∀ w ∈ u_ws R_Lg F_Lg 2, w ∈ tb := by
  intro w hw
  obtain ⟨k, hk, rfl⟩ := List.mem_map.mp hw
  have hk := List.mem_range.mp hk
  have h : ∀ k, k < 2 → u_lay R_Lg F_Lg k ∈ tb := by decide +kernel
  exact h k hk
theorem in_Vl : ∀ w ∈ u_ws R_Vl F_Vl 2, w ∈ tb := by
  intro w hw
  obtain ⟨k, hk, rfl⟩ := List.mem_map.mp hw
  have hk := List.mem_range.mp hk
  have h : ∀ k, k < 2 → u_lay R_Vl F_Vl k ∈ tb := by decide +kernel
  exact h k hk
theorem in_Rn : ∀ w ∈ u_ws R_Rn F_Rn 9, w ∈ tb := by
  intro w hw
  obtain ⟨k, hk, rfl⟩ := List.mem_map.mp hw
  have hk := List.mem_range.mp hk
  have h : ∀ k, k < 9 → u_lay R_Rn F_Rn k ∈ tb := by decide +kernel
  exact h k hk
theorem in_Vs : ∀ w ∈ u_ws R_Vs F_Vs 2, w ∈ tb := by
  intro w hw
  obtain ⟨k, hk, rfl⟩ := List.mem_map.mp hw
  have hk := List.mem_range.mp hk
  have h : ∀ k, k < 2 → u_lay R_Vs F_Vs k ∈ tb := by decide +kernel
  exact h k hk
theorem in_Pd : ∀ w ∈ u_ws R_Pd F_Pd 3, w ∈ tb := by
  intro w hw
  obtain ⟨k, hk, rfl⟩ := List.mem_map.mp hw
  have hk := List.mem_range.mp hk
  have h : ∀ k, k < 3 → u_lay R_Pd F_Pd k ∈ tb := by decide +kernel
  exact h k hk
theorem in_Sm : ∀ w ∈ u_ws R_Sm F_Sm 14, w ∈ tb := by
  intro w hw
  obtain ⟨k, hk, rfl⟩ := List.mem_map.mp hw
  have hk := List.mem_range.mp hk
  have h : ∀ k, k < 14 → u_lay R_Sm F_Sm k ∈ tb := by decide +kernel
  exact h k hk
theorem in_Lv : ∀ w ∈ u_ws R_Lv F_Lv 10, w ∈ tb := by
  intro w hw
  obtain ⟨k, hk, rfl⟩ := List.mem_map.mp hw
  have hk := List.mem_range.mp hk
  have h : ∀ k, k < 10 → u_lay R_Lv F_Lv k ∈ tb := by decide +kernel
  exact h k hk
theorem in_Md : ∀ w ∈ u_ws R_Md F_Md 50, w ∈ tb := by
  intro w hw
  obtain ⟨k, hk, rfl⟩ := List.mem_map.mp hw
  have hk := List.mem_range.mp hk
  have h : ∀ k, k < 50 → u_lay R_Md F_Md k ∈ tb := by decide +kernel
  exact h k hk
