/-! NAMES, by wip/whole/draft/names.py out of claim/Statement.lean and claim/JAVAP.txt: classes, fields, the good words of the tables, methods. -/
def am_words : List Cond := lw_tbl.filter goodWord
theorem am_good : ∀ w ∈ am_words, (w.onTables && w.keeps) = true ∨ ∃ ty, w = .arrayClass ty := fun w h => good_of_word (List.mem_filter.mp h).2
theorem am_tbl {w : Cond} (h : w ∈ am_words) : w ∈ lw_tbl := (List.mem_filter.mp h).1
theorem am_in {w : Cond} (i : Nat) (h : tables_1[i]? = some w) (hg : goodWord w = true) : w ∈ am_words := List.mem_filter.mpr ⟨List.mem_append_right _ (List.mem_of_getElem? h), hg⟩
theorem am_inS {w : Cond} (i : Nat) (h : (k2_sels lw_privs)[i]? = some w) (hg : goodWord w = true) : w ∈ am_words := List.mem_filter.mpr ⟨List.mem_append_left _ (List.mem_of_getElem? h), hg⟩
def RX0 : String := "PhaserYard$Body"
def TX0 : u_T := fun k => match k with
  | 0 => ("PhaserYard$Body", "ops", "[I", true)
  | 1 => ("PhaserYard$Body", "operands", "[I", true)
  | _ => ("PhaserYard$Body", "size", "I", false)
def tyX0 : Nat → FieldType := fun k => match k with
  | 0 => .array (.int)
  | 1 => .array (.int)
  | _ => .int
def RX1 : String := "PhaserYard$Phaser"
def TX1 : u_T := fun k => match k with
  | 0 => ("PhaserYard$Phaser", "phase", "I", false)
  | 1 => ("PhaserYard$Phaser", "modes", "[I", true)
  | 2 => ("PhaserYard$Phaser", "sent", "[I", true)
  | _ => ("PhaserYard$Phaser", "seen", "[I", true)
def tyX1 : Nat → FieldType := fun k => match k with
  | 0 => .int
  | 1 => .array (.int)
  | 2 => .array (.int)
  | _ => .array (.int)
def RX2 : String := "PhaserYard$Run"
def TX2 : u_T := fun k => match k with
  | 0 => ("PhaserYard$Run", "bodies", "[LPhaserYard$Body;", true)
  | 1 => ("PhaserYard$Run", "tasks", "[LPhaserYard$Task;", true)
  | 2 => ("PhaserYard$Run", "taskCount", "I", false)
  | 3 => ("PhaserYard$Run", "root", "LPhaserYard$Scope;", true)
  | 4 => ("PhaserYard$Run", "phasers", "[LPhaserYard$Phaser;", true)
  | 5 => ("PhaserYard$Run", "workers", "[LPhaserYard$Worker;", true)
  | 6 => ("PhaserYard$Run", "workerCount", "I", false)
  | 7 => ("PhaserYard$Run", "isNewFirst", "Z", false)
  | 8 => ("PhaserYard$Run", "values", "[I", true)
  | 9 => ("PhaserYard$Run", "isPut", "[Z", true)
  | 10 => ("PhaserYard$Run", "spoken", "[I", true)
  | 11 => ("PhaserYard$Run", "spokenCount", "I", false)
  | 12 => ("PhaserYard$Run", "ticks", "I", false)
  | 13 => ("PhaserYard$Run", "steps", "I", false)
  | _ => ("PhaserYard$Run", "stolen", "I", false)
def tyX2 : Nat → FieldType := fun k => match k with
  | 0 => .array (.object "PhaserYard$Body")
  | 1 => .array (.object "PhaserYard$Task")
  | 2 => .int
  | 3 => .object "PhaserYard$Scope"
  | 4 => .array (.object "PhaserYard$Phaser")
  | 5 => .array (.object "PhaserYard$Worker")
  | 6 => .int
  | 7 => .boolean
  | 8 => .array (.int)
  | 9 => .array (.boolean)
  | 10 => .array (.int)
  | 11 => .int
  | 12 => .int
  | 13 => .int
  | _ => .int
def RX3 : String := "PhaserYard$Scope"
def TX3 : u_T := fun k => match k with
  | 0 => ("PhaserYard$Scope", "kind", "I", false)
  | 1 => ("PhaserYard$Scope", "handler", "I", false)
  | 2 => ("PhaserYard$Scope", "unfinished", "I", false)
  | 3 => ("PhaserYard$Scope", "total", "I", false)
  | 4 => ("PhaserYard$Scope", "noted", "I", false)
  | _ => ("PhaserYard$Scope", "leastNoted", "I", false)
def tyX3 : Nat → FieldType := fun k => match k with
  | 0 => .int
  | 1 => .int
  | 2 => .int
  | 3 => .int
  | 4 => .int
  | _ => .int
def RX4 : String := "PhaserYard$Task"
def TX4 : u_T := fun k => match k with
  | 0 => ("PhaserYard$Task", "number", "I", true)
  | 1 => ("PhaserYard$Task", "own", "[LPhaserYard$Scope;", true)
  | 2 => ("PhaserYard$Task", "ownOpen", "I", false)
  | 3 => ("PhaserYard$Task", "home", "LPhaserYard$Scope;", false)
  | 4 => ("PhaserYard$Task", "bodyNumber", "I", false)
  | 5 => ("PhaserYard$Task", "sum", "I", false)
  | 6 => ("PhaserYard$Task", "place", "I", false)
  | 7 => ("PhaserYard$Task", "state", "I", false)
  | 8 => ("PhaserYard$Task", "due", "I", false)
  | _ => ("PhaserYard$Task", "awaited", "I", false)
def tyX4 : Nat → FieldType := fun k => match k with
  | 0 => .int
  | 1 => .array (.object "PhaserYard$Scope")
  | 2 => .int
  | 3 => .object "PhaserYard$Scope"
  | 4 => .int
  | 5 => .int
  | 6 => .int
  | 7 => .int
  | 8 => .int
  | _ => .int
def RX5 : String := "PhaserYard$Worker"
def TX5 : u_T := fun k => match k with
  | 0 => ("PhaserYard$Worker", "deque", "[I", true)
  | 1 => ("PhaserYard$Worker", "size", "I", false)
  | _ => ("PhaserYard$Worker", "hand", "I", false)
def tyX5 : Nat → FieldType := fun k => match k with
  | 0 => .array (.int)
  | 1 => .int
  | _ => .int
def RX6 : String := "PhaserYard"
def TX6 : u_T := fun k => match k with
  | 0 => ("PhaserYard", "bodies", "[LPhaserYard$Body;", true)
  | _ => ("PhaserYard", "current", "LPhaserYard$Run;", true)
def tyX6 : Nat → FieldType := fun k => match k with
  | 0 => .array (.object "PhaserYard$Body")
  | _ => .object "PhaserYard$Run"
def RX7 : String := "PhaserYardModel"
def TX7 : u_T := fun k => match k with
  | 0 => ("PhaserYardModel", "many", "[I", true)
  | 1 => ("PhaserYardModel", "op", "[I", true)
  | 2 => ("PhaserYardModel", "arg", "[I", true)
  | 3 => ("PhaserYardModel", "state", "[I", true)
  | 4 => ("PhaserYardModel", "sum", "[I", true)
  | 5 => ("PhaserYardModel", "place", "[I", true)
  | 6 => ("PhaserYardModel", "bodyOf", "[I", true)
  | 7 => ("PhaserYardModel", "home", "[I", true)
  | 8 => ("PhaserYardModel", "own", "[I", true)
  | 9 => ("PhaserYardModel", "waits", "[I", true)
  | 10 => ("PhaserYardModel", "awaited", "[I", true)
  | 11 => ("PhaserYardModel", "future", "[I", true)
  | 12 => ("PhaserYardModel", "ends", "[Z", true)
  | 13 => ("PhaserYardModel", "closes", "[Z", true)
  | 14 => ("PhaserYardModel", "sent", "[Z", true)
  | 15 => ("PhaserYardModel", "isPut", "[Z", true)
  | 16 => ("PhaserYardModel", "mode", "[I", true)
  | 17 => ("PhaserYardModel", "sends", "[I", true)
  | 18 => ("PhaserYardModel", "seen", "[I", true)
  | 19 => ("PhaserYardModel", "phase", "[I", true)
  | 20 => ("PhaserYardModel", "count", "[I", true)
  | 21 => ("PhaserYardModel", "total", "[I", true)
  | 22 => ("PhaserYardModel", "kind", "[I", true)
  | 23 => ("PhaserYardModel", "handler", "[I", true)
  | 24 => ("PhaserYardModel", "noted", "[I", true)
  | 25 => ("PhaserYardModel", "least", "[I", true)
  | 26 => ("PhaserYardModel", "hand", "[I", true)
  | 27 => ("PhaserYardModel", "queued", "[I", true)
  | 28 => ("PhaserYardModel", "queue", "[I", true)
  | 29 => ("PhaserYardModel", "said", "[I", true)
  | 30 => ("PhaserYardModel", "tasks", "I", false)
  | 31 => ("PhaserYardModel", "workers", "I", false)
  | 32 => ("PhaserYardModel", "policy", "I", false)
  | 33 => ("PhaserYardModel", "ticks", "I", false)
  | 34 => ("PhaserYardModel", "steps", "I", false)
  | 35 => ("PhaserYardModel", "stolen", "I", false)
  | 36 => ("PhaserYardModel", "saidMany", "I", false)
  | 37 => ("PhaserYardModel", "thrown", "I", false)
  | 38 => ("PhaserYardModel", "fresh", "I", false)
  | _ => ("PhaserYardModel", "begun", "Z", false)
def tyX7 : Nat → FieldType := fun k => match k with
  | 0 => .array (.int)
  | 1 => .array (.int)
  | 2 => .array (.int)
  | 3 => .array (.int)
  | 4 => .array (.int)
  | 5 => .array (.int)
  | 6 => .array (.int)
  | 7 => .array (.int)
  | 8 => .array (.int)
  | 9 => .array (.int)
  | 10 => .array (.int)
  | 11 => .array (.int)
  | 12 => .array (.boolean)
  | 13 => .array (.boolean)
  | 14 => .array (.boolean)
  | 15 => .array (.boolean)
  | 16 => .array (.int)
  | 17 => .array (.int)
  | 18 => .array (.int)
  | 19 => .array (.int)
  | 20 => .array (.int)
  | 21 => .array (.int)
  | 22 => .array (.int)
  | 23 => .array (.int)
  | 24 => .array (.int)
  | 25 => .array (.int)
  | 26 => .array (.int)
  | 27 => .array (.int)
  | 28 => .array (.int)
  | 29 => .array (.int)
  | 30 => .int
  | 31 => .int
  | 32 => .int
  | 33 => .int
  | 34 => .int
  | 35 => .int
  | 36 => .int
  | 37 => .int
  | 38 => .int
  | _ => .boolean
abbrev vwCl : List vw_C := [(RX0, TX0, 3), (RX1, TX1, 4), (RX2, TX2, 15), (RX3, TX3, 6), (RX4, TX4, 10), (RX5, TX5, 3), (RX6, TX6, 2), (RX7, TX7, 40)]
def am_Nf (ci : Nat) : Nat := [3, 4, 15, 6, 10, 3, 2, 40].getD ci 0
def am_rt : List (List Bool) := [[true, true, false], [false, true, true, true], [true, true, false, true, true, true, false, false, true, true, true, false, false, false, false], [false, false, false, false, false, false], [false, true, false, true, false, false, false, false, false, false], [true, false, false], [true, true], [true, true, true, true, true, true, true, true, true, true, true, true, true, true, true, true, true, true, true, true, true, true, true, true, true, true, true, true, true, true, false, false, false, false, false, false, false, false, false, false]]
def am_isr (k i : Nat) : Bool := (am_rt.getD k []).getD i false
def am_kinds : List (Nat × FieldType) := [(100, .int), (101, .boolean), (102, .long), (103 + 0, .object RX0), (103 + 1, .object RX1), (103 + 3, .object RX3), (103 + 4, .object RX4), (103 + 5, .object RX5)]
def am_aos : List String := [RX0, RX1, RX3, RX4, RX5]
def am_txs : List (String × Nat × String) := [("PhaserYard", 31, "no such body"), ("PhaserYard", 44, "no such body or instruction"), ("PhaserYard", 48, "the body is full"), ("PhaserYard", 55, "no such body, number of workers or policy"), ("PhaserYard", 64, "too few or too many ticks"), ("PhaserYard", 70, "nothing was begun"), ("PhaserYard", 83, "the run is stuck"), ("PhaserYard", 86, "the run is not over"), ("PhaserYard", 99, "a code came to the root scope"), ("PhaserYard", 125, "no such number is kept"), ("PhaserYard", 132, "no such question of a task"), ("PhaserYard", 137, "no such task"), ("PhaserYard", 143, "no such future"), ("PhaserYard", 149, "the future was not put"), ("PhaserYard", 171, "no such count")]
/-- static arrays: class, name, descriptor, the number of the outer array -/
def am_sts : List (String × String × String × Nat) := [("PhaserYard", "LEAST_A", "[I", 1), ("PhaserYard", "GREATEST_A", "[I", 2), ("PhaserYard", "TOTAL_OF_NOTHING", "[I", 3)]
def am_nst : List Cond := [(Jvm.Cond.methodLinkNest "PhaserYard$Run" (17 : Nat) ({ cls := "PhaserYard$Scope", name := "<init>", desc := "()V" } : Jvm.MethodName) "PhaserYard"), (Jvm.Cond.methodLinkNest "PhaserYard$Task" (25 : Nat) ({ cls := "PhaserYard$Scope", name := "<init>", desc := "()V" } : Jvm.MethodName) "PhaserYard"), (Jvm.Cond.castable "java/lang/IllegalArgumentException" "java/lang/IllegalArgumentException"), (Jvm.Cond.declares ({ cls := "java/lang/RuntimeException", name := "<init>", desc := "()V" } : Jvm.MethodName)), (Jvm.Cond.declares ({ cls := "java/lang/RuntimeException", name := "<init>", desc := "(Ljava/lang/String;)V" } : Jvm.MethodName)), (Jvm.Cond.declares ({ cls := "java/lang/Exception", name := "<init>", desc := "()V" } : Jvm.MethodName)), (Jvm.Cond.declares ({ cls := "java/lang/Exception", name := "<init>", desc := "(Ljava/lang/String;)V" } : Jvm.MethodName)), (Jvm.Cond.declares ({ cls := "java/lang/Throwable", name := "<init>", desc := "()V" } : Jvm.MethodName)), (Jvm.Cond.declares ({ cls := "java/lang/Throwable", name := "<init>", desc := "(Ljava/lang/String;)V" } : Jvm.MethodName)), (Jvm.Cond.castable "java/lang/IllegalStateException" "java/lang/IllegalStateException"), (Jvm.Cond.fieldLinkNest "PhaserYard$Scope" (21 : Nat) "PhaserYard" "TOTAL_OF_NOTHING" "[I" "PhaserYard"), (Jvm.Cond.castable "java/lang/UnsupportedOperationException" "java/lang/UnsupportedOperationException"), (Jvm.Cond.castable "java/lang/ArithmeticException" "java/lang/ArithmeticException"), (Jvm.Cond.castable "java/lang/IndexOutOfBoundsException" "java/lang/IndexOutOfBoundsException")]
def am_ncs : List (String × String) := [("java/lang/IllegalStateException", "java/lang/IllegalArgumentException"), ("java/lang/UnsupportedOperationException", "java/lang/IllegalArgumentException"), ("java/lang/UnsupportedOperationException", "java/lang/IllegalStateException"), ("java/lang/ArithmeticException", "java/lang/IllegalStateException"), ("java/lang/IndexOutOfBoundsException", "java/lang/IllegalArgumentException")]
def am_tsq : List (String × String × String) := [("java/lang/Throwable", "UNASSIGNED_STACK", "[Ljava/lang/StackTraceElement;"), ("java/lang/Throwable", "SUPPRESSED_SENTINEL", "Ljava/util/List;")]
