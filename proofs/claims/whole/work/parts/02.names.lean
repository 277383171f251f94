def R_QF : String := "QueryFleet"
def F_QF : u_T := fun k => match k with
  | 0 => ("QueryFleet", "plan", "LQueryFleet$Plan;", true)
  | 1 => ("QueryFleet", "tables", "[LQueryFleet$Table;", true)
  | 2 => ("QueryFleet", "query", "LQueryFleet$Query;", true)
  | 3 => ("QueryFleet", "result", "LQueryFleet$Result;", true)
  | _ => ("QueryFleet", "job", "LQueryFleet$Job;", true)
def t_QF : Nat → FieldType := fun k => match k with
  | 0 => .object "QueryFleet$Plan"
  | 1 => .array (.object "QueryFleet$Table")
  | 2 => .object "QueryFleet$Query"
  | 3 => .object "QueryFleet$Result"
  | _ => .object "QueryFleet$Job"
def R_Pl : String := "QueryFleet$Plan"
def F_Pl : u_T := fun k => match k with
  | 0 => ("QueryFleet$Plan", "tables", "[LQueryFleet$Table;", true)
  | 1 => ("QueryFleet$Plan", "query", "LQueryFleet$Query;", true)
  | 2 => ("QueryFleet$Plan", "machine", "LQueryFleet$Machine;", true)
  | 3 => ("QueryFleet$Plan", "aggregate", "LQueryFleet$Aggregate;", true)
  | 4 => ("QueryFleet$Plan", "firsts", "[I", true)
  | 5 => ("QueryFleet$Plan", "seconds", "[I", true)
  | 6 => ("QueryFleet$Plan", "kept", "I", false)
  | 7 => ("QueryFleet$Plan", "groupOf", "[I", true)
  | 8 => ("QueryFleet$Plan", "groupValues", "[J", true)
  | 9 => ("QueryFleet$Plan", "groupNulls", "[Z", true)
  | _ => ("QueryFleet$Plan", "groups", "I", false)
def t_Pl : Nat → FieldType := fun k => match k with
  | 0 => .array (.object "QueryFleet$Table")
  | 1 => .object "QueryFleet$Query"
  | 2 => .object "QueryFleet$Machine"
  | 3 => .object "QueryFleet$Aggregate"
  | 4 => .array .int
  | 5 => .array .int
  | 6 => .int
  | 7 => .array .int
  | 8 => .array .long
  | 9 => .array .boolean
  | _ => .int
def R_Qu : String := "QueryFleet$Query"
def F_Qu : u_T := fun k => match k with
  | 0 => ("QueryFleet$Query", "begun", "Z", false)
  | 1 => ("QueryFleet$Query", "kind", "I", false)
  | 2 => ("QueryFleet$Query", "first", "I", false)
  | 3 => ("QueryFleet$Query", "second", "I", false)
  | 4 => ("QueryFleet$Query", "left", "I", false)
  | 5 => ("QueryFleet$Query", "right", "I", false)
  | 6 => ("QueryFleet$Query", "stack", "[LQueryFleet$Expression;", true)
  | 7 => ("QueryFleet$Query", "depth", "I", false)
  | 8 => ("QueryFleet$Query", "conditions", "[LQueryFleet$Expression;", true)
  | 9 => ("QueryFleet$Query", "conditionCount", "I", false)
  | 10 => ("QueryFleet$Query", "outputs", "[LQueryFleet$Expression;", true)
  | 11 => ("QueryFleet$Query", "outputKinds", "[I", true)
  | 12 => ("QueryFleet$Query", "outputCount", "I", false)
  | 13 => ("QueryFleet$Query", "groupColumn", "I", false)
  | 14 => ("QueryFleet$Query", "orderColumn", "I", false)
  | 15 => ("QueryFleet$Query", "down", "Z", false)
  | _ => ("QueryFleet$Query", "limit", "I", false)
def t_Qu : Nat → FieldType := fun k => match k with
  | 0 => .boolean
  | 1 => .int
  | 2 => .int
  | 3 => .int
  | 4 => .int
  | 5 => .int
  | 6 => .array (.object "QueryFleet$Expression")
  | 7 => .int
  | 8 => .array (.object "QueryFleet$Expression")
  | 9 => .int
  | 10 => .array (.object "QueryFleet$Expression")
  | 11 => .array .int
  | 12 => .int
  | 13 => .int
  | 14 => .int
  | 15 => .boolean
  | _ => .int
def R_Ex : String := "QueryFleet$Expression"
def F_Ex : u_T := fun k => match k with
  | 0 => ("QueryFleet$Expression", "codes", "[I", true)
  | 1 => ("QueryFleet$Expression", "operands", "[I", true)
  | 2 => ("QueryFleet$Expression", "length", "I", false)
  | 3 => ("QueryFleet$Expression", "truth", "Z", false)
  | _ => ("QueryFleet$Expression", "named", "I", false)
def t_Ex : Nat → FieldType := fun k => match k with
  | 0 => .array .int
  | 1 => .array .int
  | 2 => .int
  | 3 => .boolean
  | _ => .int
def R_Ma : String := "QueryFleet$Machine"
def F_Ma : u_T := fun k => match k with
  | 0 => ("QueryFleet$Machine", "cells", "[J", true)
  | 1 => ("QueryFleet$Machine", "cellNulls", "[Z", true)
  | 2 => ("QueryFleet$Machine", "values", "[J", true)
  | _ => ("QueryFleet$Machine", "nulls", "[Z", true)
def t_Ma : Nat → FieldType := fun k => match k with
  | 0 => .array .long
  | 1 => .array .boolean
  | 2 => .array .long
  | _ => .array .boolean
def R_Ag : String := "QueryFleet$Aggregate"
def F_Ag : u_T := fun k => match k with
  | 0 => ("QueryFleet$Aggregate", "rows", "J", false)
  | 1 => ("QueryFleet$Aggregate", "numbers", "J", false)
  | 2 => ("QueryFleet$Aggregate", "high", "J", false)
  | 3 => ("QueryFleet$Aggregate", "low", "J", false)
  | 4 => ("QueryFleet$Aggregate", "least", "J", false)
  | _ => ("QueryFleet$Aggregate", "greatest", "J", false)
def t_Ag : Nat → FieldType := fun k => match k with
  | 0 => .long
  | 1 => .long
  | 2 => .long
  | 3 => .long
  | 4 => .long
  | _ => .long
def R_Tb : String := "QueryFleet$Table"
def F_Tb : u_T := fun k => match k with
  | 0 => ("QueryFleet$Table", "values", "[I", true)
  | 1 => ("QueryFleet$Table", "nulls", "[Z", true)
  | _ => ("QueryFleet$Table", "size", "I", false)
def t_Tb : Nat → FieldType := fun k => match k with
  | 0 => .array .int
  | 1 => .array .boolean
  | _ => .int
def R_Re : String := "QueryFleet$Result"
def F_Re : u_T := fun k => match k with
  | 0 => ("QueryFleet$Result", "values", "[J", true)
  | 1 => ("QueryFleet$Result", "nulls", "[Z", true)
  | 2 => ("QueryFleet$Result", "places", "[I", true)
  | 3 => ("QueryFleet$Result", "rows", "I", false)
  | 4 => ("QueryFleet$Result", "columns", "I", false)
  | 5 => ("QueryFleet$Result", "counting", "I", false)
  | _ => ("QueryFleet$Result", "passes", "I", false)
def t_Re : Nat → FieldType := fun k => match k with
  | 0 => .array .long
  | 1 => .array .boolean
  | 2 => .array .int
  | 3 => .int
  | 4 => .int
  | 5 => .int
  | _ => .int
def R_Jo : String := "QueryFleet$Job"
def F_Jo : u_T := fun k => match k with
  | 0 => ("QueryFleet$Job", "on", "Z", false)
  | 1 => ("QueryFleet$Job", "workers", "I", false)
  | 2 => ("QueryFleet$Job", "tasks", "[LQueryFleet$Task;", true)
  | 3 => ("QueryFleet$Job", "taskCount", "I", false)
  | 4 => ("QueryFleet$Job", "undone", "I", false)
  | 5 => ("QueryFleet$Job", "ignored", "I", false)
  | 6 => ("QueryFleet$Job", "time", "I", false)
  | 7 => ("QueryFleet$Job", "waiting", "LQueryFleet$Line;", true)
  | _ => ("QueryFleet$Job", "queues", "[LQueryFleet$Line;", true)
def t_Jo : Nat → FieldType := fun k => match k with
  | 0 => .boolean
  | 1 => .int
  | 2 => .array (.object "QueryFleet$Task")
  | 3 => .int
  | 4 => .int
  | 5 => .int
  | 6 => .int
  | 7 => .object "QueryFleet$Line"
  | _ => .array (.object "QueryFleet$Line")
def R_Li : String := "QueryFleet$Line"
def F_Li : u_T := fun k => match k with
  | 0 => ("QueryFleet$Line", "kinds", "[I", true)
  | 1 => ("QueryFleet$Line", "tasks", "[I", true)
  | 2 => ("QueryFleet$Line", "attempts", "[I", true)
  | _ => ("QueryFleet$Line", "size", "I", false)
def t_Li : Nat → FieldType := fun k => match k with
  | 0 => .array .int
  | 1 => .array .int
  | 2 => .array .int
  | _ => .int
def R_Ta : String := "QueryFleet$Task"
def F_Ta : u_T := fun k => match k with
  | 0 => ("QueryFleet$Task", "kind", "I", false)
  | 1 => ("QueryFleet$Task", "part", "I", false)
  | 2 => ("QueryFleet$Task", "rows", "I", false)
  | 3 => ("QueryFleet$Task", "attempts", "I", false)
  | 4 => ("QueryFleet$Task", "sentAt", "I", false)
  | _ => ("QueryFleet$Task", "done", "Z", false)
def t_Ta : Nat → FieldType := fun k => match k with
  | 0 => .int
  | 1 => .int
  | 2 => .int
  | 3 => .int
  | 4 => .int
  | _ => .boolean
def R_QM : String := "QueryFleetModel"
def F_QM : u_T := fun k => match k with
  | 0 => ("QueryFleetModel", "rows", "[I", false)
  | 1 => ("QueryFleetModel", "table", "[J", false)
  | 2 => ("QueryFleetModel", "tableNull", "[Z", false)
  | 3 => ("QueryFleetModel", "begun", "Z", false)
  | 4 => ("QueryFleetModel", "kind", "I", false)
  | 5 => ("QueryFleetModel", "first", "I", false)
  | 6 => ("QueryFleetModel", "second", "I", false)
  | 7 => ("QueryFleetModel", "left", "I", false)
  | 8 => ("QueryFleetModel", "right", "I", false)
  | 9 => ("QueryFleetModel", "grouped", "I", false)
  | 10 => ("QueryFleetModel", "orderBy", "I", false)
  | 11 => ("QueryFleetModel", "downwards", "Z", false)
  | 12 => ("QueryFleetModel", "limit", "I", false)
  | 13 => ("QueryFleetModel", "depth", "I", false)
  | 14 => ("QueryFleetModel", "conditions", "I", false)
  | 15 => ("QueryFleetModel", "outputs", "I", false)
  | 16 => ("QueryFleetModel", "part", "[I", false)
  | 17 => ("QueryFleetModel", "partValue", "[J", false)
  | 18 => ("QueryFleetModel", "size", "[I", false)
  | 19 => ("QueryFleetModel", "truth", "[Z", false)
  | 20 => ("QueryFleetModel", "outputKind", "[I", false)
  | 21 => ("QueryFleetModel", "work", "[J", false)
  | 22 => ("QueryFleetModel", "workNull", "[Z", false)
  | 23 => ("QueryFleetModel", "here", "[J", false)
  | 24 => ("QueryFleetModel", "hereNull", "[Z", false)
  | 25 => ("QueryFleetModel", "kept", "I", false)
  | 26 => ("QueryFleetModel", "keptValue", "[J", false)
  | 27 => ("QueryFleetModel", "keptNull", "[Z", false)
  | 28 => ("QueryFleetModel", "results", "I", false)
  | 29 => ("QueryFleetModel", "width", "I", false)
  | 30 => ("QueryFleetModel", "value", "[J", false)
  | 31 => ("QueryFleetModel", "isNull", "[Z", false)
  | 32 => ("QueryFleetModel", "place", "[I", false)
  | 33 => ("QueryFleetModel", "counted", "I", false)
  | 34 => ("QueryFleetModel", "columns", "I", false)
  | 35 => ("QueryFleetModel", "sorting", "I", false)
  | 36 => ("QueryFleetModel", "was", "Z", false)
  | 37 => ("QueryFleetModel", "on", "Z", false)
  | 38 => ("QueryFleetModel", "workers", "I", false)
  | 39 => ("QueryFleetModel", "memory", "I", false)
  | 40 => ("QueryFleetModel", "tasks", "I", false)
  | 41 => ("QueryFleetModel", "taskKind", "[I", false)
  | 42 => ("QueryFleetModel", "taskPart", "[I", false)
  | 43 => ("QueryFleetModel", "attempts", "[I", false)
  | 44 => ("QueryFleetModel", "sentAt", "[I", false)
  | 45 => ("QueryFleetModel", "finished", "[Z", false)
  | 46 => ("QueryFleetModel", "taskRows", "[I", false)
  | 47 => ("QueryFleetModel", "time", "I", false)
  | 48 => ("QueryFleetModel", "ignored", "I", false)
  | 49 => ("QueryFleetModel", "waiting", "I", false)
  | 50 => ("QueryFleetModel", "mKind", "[I", false)
  | 51 => ("QueryFleetModel", "mTask", "[I", false)
  | 52 => ("QueryFleetModel", "mAttempt", "[I", false)
  | 53 => ("QueryFleetModel", "queued", "[I", false)
  | 54 => ("QueryFleetModel", "qTask", "[I", false)
  | _ => ("QueryFleetModel", "qAttempt", "[I", false)
def t_QM : Nat → FieldType := fun k => match k with
  | 0 => .array .int
  | 1 => .array .long
  | 2 => .array .boolean
  | 3 => .boolean
  | 4 => .int
  | 5 => .int
  | 6 => .int
  | 7 => .int
  | 8 => .int
  | 9 => .int
  | 10 => .int
  | 11 => .boolean
  | 12 => .int
  | 13 => .int
  | 14 => .int
  | 15 => .int
  | 16 => .array .int
  | 17 => .array .long
  | 18 => .array .int
  | 19 => .array .boolean
  | 20 => .array .int
  | 21 => .array .long
  | 22 => .array .boolean
  | 23 => .array .long
  | 24 => .array .boolean
  | 25 => .int
  | 26 => .array .long
  | 27 => .array .boolean
  | 28 => .int
  | 29 => .int
  | 30 => .array .long
  | 31 => .array .boolean
  | 32 => .array .int
  | 33 => .int
  | 34 => .int
  | 35 => .int
  | 36 => .boolean
  | 37 => .boolean
  | 38 => .int
  | 39 => .int
  | 40 => .int
  | 41 => .array .int
  | 42 => .array .int
  | 43 => .array .int
  | 44 => .array .int
  | 45 => .array .boolean
  | 46 => .array .int
  | 47 => .int
  | 48 => .int
  | 49 => .int
  | 50 => .array .int
  | 51 => .array .int
  | 52 => .array .int
  | 53 => .array .int
  | 54 => .array .int
  | _ => .array .int
abbrev vwCl : List vw_C := [(R_QF, F_QF, 5), (R_Pl, F_Pl, 11), (R_Qu, F_Qu, 17), (R_Ex, F_Ex, 5), (R_Ma, F_Ma, 4), (R_Ag, F_Ag, 6), (R_Tb, F_Tb, 3), (R_Re, F_Re, 7), (R_Jo, F_Jo, 9), (R_Li, F_Li, 4), (R_Ta, F_Ta, 6), (R_QM, F_QM, 56)]
/-- how many fields class number c has, and their types -/
def qN (c : Nat) : Nat := match c with
  | 0 => 5
  | 1 => 11
  | 2 => 17
  | 3 => 5
  | 4 => 4
  | 5 => 6
  | 6 => 3
  | 7 => 7
  | 8 => 9
  | 9 => 4
  | 10 => 6
  | 11 => 56
  | _ => 0
def qFT (c : Nat) : Nat → FieldType := match c with
  | 0 => t_QF
  | 1 => t_Pl
  | 2 => t_Qu
  | 3 => t_Ex
  | 4 => t_Ma
  | 5 => t_Ag
  | 6 => t_Tb
  | 7 => t_Re
  | 8 => t_Jo
  | 9 => t_Li
  | 10 => t_Ta
  | 11 => t_QM
  | _ => fun _ => .int
/-- what each cell is: 152 cells, the class's 122 first, then the reference's -/
def qPT : List (List (Nat × Nat)) := [[(0, 0), (1, 0), (23, 3), (2, 0), (24, 8), (3, 0), (20, 24), (20, 24), (3, 0), (20, 24), (20, 24), (3, 0), (20, 24), (20, 24), (3, 0), (20, 24)],
  [(20, 24), (3, 0), (20, 24), (20, 24), (3, 0), (20, 24), (20, 24), (3, 0), (20, 24), (20, 24), (3, 0), (20, 24), (20, 24), (24, 6), (3, 0), (20, 24)],
  [(20, 24), (3, 0), (20, 24), (20, 24), (3, 0), (20, 24), (20, 24), (3, 0), (20, 24), (20, 24), (3, 0), (20, 24), (20, 24), (3, 0), (20, 24), (20, 24)],
  [(24, 3), (3, 0), (20, 24), (20, 24), (3, 0), (20, 24), (20, 24), (3, 0), (20, 24), (20, 24), (20, 3), (4, 0), (21, 4), (22, 4), (21, 8), (22, 8)],
  [(5, 0), (20, 144), (20, 144), (20, 144), (21, 13), (22, 13), (6, 0), (20, 24), (22, 24), (6, 0), (20, 24), (22, 24), (6, 0), (20, 24), (22, 24), (7, 0)],
  [(21, 576), (22, 576), (20, 144), (8, 0), (25, 16), (9, 0), (20, 68), (20, 68), (20, 68), (26, 4), (10, 0), (10, 0), (10, 0), (10, 0), (10, 0), (10, 0)],
  [(10, 0), (10, 0), (10, 0), (10, 0), (10, 0), (10, 0), (10, 0), (10, 0), (10, 0), (10, 0), (9, 0), (20, 12), (20, 12), (20, 12), (9, 0), (20, 12)],
  [(20, 12), (20, 12), (9, 0), (20, 12), (20, 12), (20, 12), (9, 0), (20, 12), (20, 12), (20, 12), (11, 0), (20, 3), (21, 72), (22, 72), (20, 408), (21, 408)],
  [(20, 17), (22, 17), (20, 3), (21, 24), (22, 24), (21, 4), (22, 4), (21, 576), (22, 576), (21, 576), (22, 576), (20, 144), (20, 16), (20, 16), (20, 16), (20, 16)],
  [(22, 16), (20, 16), (20, 100), (20, 100), (20, 100), (20, 4), (20, 48), (20, 48)]]
def qPl (k : Nat) : Nat × Nat := (((qPT[k / 16]?).getD [])[k % 16]?).getD (0, 0)
abbrev NN : Nat := 152
abbrev NX : Nat := 122
def qGW : List Cond := lw_tbl.filter goodWord
theorem qGW_good : ∀ w ∈ qGW, (w.onTables && w.keeps) = true ∨ ∃ ty, w = .arrayClass ty := fun w hw => good_of_word (List.mem_filter.mp hw).2
theorem qw_in {w : Cond} (h : w ∈ tables_1) (hg : goodWord w = true) : w ∈ qGW := List.mem_filter.mpr ⟨List.mem_append_right _ h, hg⟩
theorem qw1 {w : Cond} (i : Nat) (hi : tables_1_1[i]? = some w) (hg : goodWord w = true) : w ∈ qGW := qw_in (by show w ∈ tables_1_1 ++ (tables_1_2 ++ (tables_1_3 ++ (tables_1_4 ++ (tables_1_5 ++ tables_1_6)))); exact List.mem_append_left _ (List.mem_of_getElem? hi)) hg
theorem qw2 {w : Cond} (i : Nat) (hi : tables_1_2[i]? = some w) (hg : goodWord w = true) : w ∈ qGW := qw_in (by show w ∈ tables_1_1 ++ (tables_1_2 ++ (tables_1_3 ++ (tables_1_4 ++ (tables_1_5 ++ tables_1_6)))); exact List.mem_append_right _ (List.mem_append_left _ (List.mem_of_getElem? hi))) hg
theorem qw3 {w : Cond} (i : Nat) (hi : tables_1_3[i]? = some w) (hg : goodWord w = true) : w ∈ qGW := qw_in (by show w ∈ tables_1_1 ++ (tables_1_2 ++ (tables_1_3 ++ (tables_1_4 ++ (tables_1_5 ++ tables_1_6)))); exact List.mem_append_right _ (List.mem_append_right _ (List.mem_append_left _ (List.mem_of_getElem? hi)))) hg
theorem qw4 {w : Cond} (i : Nat) (hi : tables_1_4[i]? = some w) (hg : goodWord w = true) : w ∈ qGW := qw_in (by show w ∈ tables_1_1 ++ (tables_1_2 ++ (tables_1_3 ++ (tables_1_4 ++ (tables_1_5 ++ tables_1_6)))); exact List.mem_append_right _ (List.mem_append_right _ (List.mem_append_right _ (List.mem_append_left _ (List.mem_of_getElem? hi))))) hg
theorem qw5 {w : Cond} (i : Nat) (hi : tables_1_5[i]? = some w) (hg : goodWord w = true) : w ∈ qGW := qw_in (by show w ∈ tables_1_1 ++ (tables_1_2 ++ (tables_1_3 ++ (tables_1_4 ++ (tables_1_5 ++ tables_1_6)))); exact List.mem_append_right _ (List.mem_append_right _ (List.mem_append_right _ (List.mem_append_right _ (List.mem_append_left _ (List.mem_of_getElem? hi)))))) hg
theorem qw6 {w : Cond} (i : Nat) (hi : tables_1_6[i]? = some w) (hg : goodWord w = true) : w ∈ qGW := qw_in (by show w ∈ tables_1_1 ++ (tables_1_2 ++ (tables_1_3 ++ (tables_1_4 ++ (tables_1_5 ++ tables_1_6)))); exact List.mem_append_right _ (List.mem_append_right _ (List.mem_append_right _ (List.mem_append_right _ (List.mem_append_right _ (List.mem_of_getElem? hi)))))) hg
theorem qw_s {q : MethodName × Nat} (h : q ∈ lw_privs) : Cond.selects q.1.cls q.1 q.1 ∈ qGW := List.mem_filter.mpr ⟨List.mem_append_left _ (List.mem_map.mpr ⟨q, h, rfl⟩), rfl⟩
def qNF : List (String × Nat × String × String × String × String) := [("QueryFleet$Machine", 45, "QueryFleet$Expression", "codes", "[I", "QueryFleet"),
  ("QueryFleet$Machine", 49, "QueryFleet$Expression", "operands", "[I", "QueryFleet"),
  ("QueryFleet$Machine", 39, "QueryFleet$Expression", "length", "I", "QueryFleet"),
  ("QueryFleet$Query", 99, "QueryFleet$Expression", "length", "I", "QueryFleet"),
  ("QueryFleet$Query", 96, "QueryFleet$Expression", "truth", "Z", "QueryFleet"),
  ("QueryFleet", 206, "QueryFleet$Query", "begun", "Z", "QueryFleet"),
  ("QueryFleet$Plan", 82, "QueryFleet$Query", "kind", "I", "QueryFleet"),
  ("QueryFleet$Plan", 57, "QueryFleet$Query", "first", "I", "QueryFleet"),
  ("QueryFleet$Plan", 61, "QueryFleet$Query", "second", "I", "QueryFleet"),
  ("QueryFleet$Plan", 85, "QueryFleet$Query", "left", "I", "QueryFleet"),
  ("QueryFleet$Plan", 92, "QueryFleet$Query", "right", "I", "QueryFleet"),
  ("QueryFleet", 94, "QueryFleet$Query", "depth", "I", "QueryFleet"),
  ("QueryFleet$Plan", 105, "QueryFleet$Query", "conditions", "[LQueryFleet$Expression;", "QueryFleet"),
  ("QueryFleet$Plan", 102, "QueryFleet$Query", "conditionCount", "I", "QueryFleet"),
  ("QueryFleet$Plan", 164, "QueryFleet$Query", "outputs", "[LQueryFleet$Expression;", "QueryFleet"),
  ("QueryFleet$Plan", 180, "QueryFleet$Query", "outputKinds", "[I", "QueryFleet"),
  ("QueryFleet$Plan", 161, "QueryFleet$Query", "outputCount", "I", "QueryFleet"),
  ("QueryFleet$Plan", 133, "QueryFleet$Query", "groupColumn", "I", "QueryFleet"),
  ("QueryFleet", 81, "QueryFleet$Query", "groupColumn", "I", "QueryFleet"),
  ("QueryFleet$Result", 23, "QueryFleet$Query", "orderColumn", "I", "QueryFleet"),
  ("QueryFleet", 85, "QueryFleet$Query", "orderColumn", "I", "QueryFleet"),
  ("QueryFleet$Result", 35, "QueryFleet$Query", "down", "Z", "QueryFleet"),
  ("QueryFleet", 88, "QueryFleet$Query", "down", "Z", "QueryFleet"),
  ("QueryFleet$Result", 43, "QueryFleet$Query", "limit", "I", "QueryFleet"),
  ("QueryFleet", 91, "QueryFleet$Query", "limit", "I", "QueryFleet"),
  ("QueryFleet$Plan", 130, "QueryFleet$Machine", "cells", "[J", "QueryFleet"),
  ("QueryFleet$Plan", 136, "QueryFleet$Machine", "cellNulls", "[Z", "QueryFleet"),
  ("QueryFleet$Plan", 68, "QueryFleet$Table", "size", "I", "QueryFleet"),
  ("QueryFleet", 16, "QueryFleet$Plan", "tables", "[LQueryFleet$Table;", "QueryFleet"),
  ("QueryFleet", 21, "QueryFleet$Plan", "query", "LQueryFleet$Query;", "QueryFleet"),
  ("QueryFleet$Plan", 151, "QueryFleet$Result", "rows", "I", "QueryFleet"),
  ("QueryFleet$Plan", 143, "QueryFleet$Result", "columns", "I", "QueryFleet"),
  ("QueryFleet", 188, "QueryFleet$Result", "columns", "I", "QueryFleet"),
  ("QueryFleet", 185, "QueryFleet$Result", "counting", "I", "QueryFleet"),
  ("QueryFleet", 190, "QueryFleet$Result", "passes", "I", "QueryFleet"),
  ("QueryFleet$Job", 93, "QueryFleet$Line", "kinds", "[I", "QueryFleet"),
  ("QueryFleet$Job", 97, "QueryFleet$Line", "tasks", "[I", "QueryFleet"),
  ("QueryFleet$Job", 99, "QueryFleet$Line", "attempts", "[I", "QueryFleet"),
  ("QueryFleet$Job", 51, "QueryFleet$Line", "size", "I", "QueryFleet"),
  ("QueryFleet", 141, "QueryFleet$Line", "size", "I", "QueryFleet"),
  ("QueryFleet$Job", 61, "QueryFleet$Task", "kind", "I", "QueryFleet"),
  ("QueryFleet$Job", 84, "QueryFleet$Task", "part", "I", "QueryFleet"),
  ("QueryFleet$Job", 113, "QueryFleet$Task", "rows", "I", "QueryFleet"),
  ("QueryFleet$Job", 58, "QueryFleet$Task", "attempts", "I", "QueryFleet"),
  ("QueryFleet$Job", 81, "QueryFleet$Task", "sentAt", "I", "QueryFleet"),
  ("QueryFleet$Job", 71, "QueryFleet$Task", "done", "Z", "QueryFleet"),
  ("QueryFleet", 40, "QueryFleet$Job", "on", "Z", "QueryFleet"),
  ("QueryFleet", 209, "QueryFleet$Job", "workers", "I", "QueryFleet"),
  ("QueryFleet", 174, "QueryFleet$Job", "tasks", "[LQueryFleet$Task;", "QueryFleet"),
  ("QueryFleet", 134, "QueryFleet$Job", "taskCount", "I", "QueryFleet"),
  ("QueryFleet", 193, "QueryFleet$Job", "ignored", "I", "QueryFleet"),
  ("QueryFleet", 137, "QueryFleet$Job", "waiting", "LQueryFleet$Line;", "QueryFleet"),
  ("QueryFleet", 159, "QueryFleet$Job", "queues", "[LQueryFleet$Line;", "QueryFleet")]
def qNM : List (String × Nat × MethodName × String) := [("QueryFleet$Plan", 19, ⟨"QueryFleet$Query", "<init>", "()V"⟩, "QueryFleet"),
  ("QueryFleet$Query", 38, ⟨"QueryFleet$Expression", "<init>", "()V"⟩, "QueryFleet"),
  ("QueryFleet$Plan", 26, ⟨"QueryFleet$Machine", "<init>", "()V"⟩, "QueryFleet"),
  ("QueryFleet$Plan", 33, ⟨"QueryFleet$Aggregate", "<init>", "()V"⟩, "QueryFleet"),
  ("QueryFleet$Plan", 56, ⟨"QueryFleet$Table", "<init>", "()V"⟩, "QueryFleet"),
  ("QueryFleet", 28, ⟨"QueryFleet$Result", "<init>", "()V"⟩, "QueryFleet"),
  ("QueryFleet$Job", 30, ⟨"QueryFleet$Task", "<init>", "()V"⟩, "QueryFleet")]
def qAO : List String := ["QueryFleet$Table", "QueryFleet$Expression", "QueryFleet$Task", "QueryFleet$Line"]
def qTys (dA : Nat → ClassId) : List (ClassId × FieldType) := [(dA 0, .int), (dA 1, .long), (dA 2, .boolean), (dA 3, .object "QueryFleet$Table"), (dA 4, .object "QueryFleet$Expression"), (dA 5, .object "QueryFleet$Task"), (dA 6, .object "QueryFleet$Line")]
abbrev b_QF_init : ByteArray := prog_1_method_1_code
abbrev mi_QF_init : MethodName × ByteArray × Nat × Option FieldType := (⟨"QueryFleet", "<init>", "()V"⟩, b_QF_init, 1, (Option.none : Option Jvm.ClassFile.FieldType))
abbrev b_QF_row : ByteArray := prog_1_method_2_code
abbrev mi_QF_row : MethodName × ByteArray × Nat × Option FieldType := (⟨"QueryFleet", "row", "(IIII)I"⟩, b_QF_row, 5, (Option.some Jvm.ClassFile.FieldType.int))
abbrev b_QF_from : ByteArray := prog_1_method_3_code
abbrev mi_QF_from : MethodName × ByteArray × Nat × Option FieldType := (⟨"QueryFleet", "from", "(IIIII)Z"⟩, b_QF_from, 6, (Option.some Jvm.ClassFile.FieldType.boolean))
abbrev b_QF_column : ByteArray := prog_1_method_4_code
abbrev mi_QF_column : MethodName × ByteArray × Nat × Option FieldType := (⟨"QueryFleet", "column", "(I)Z"⟩, b_QF_column, 2, (Option.some Jvm.ClassFile.FieldType.boolean))
abbrev b_QF_number : ByteArray := prog_1_method_5_code
abbrev mi_QF_number : MethodName × ByteArray × Nat × Option FieldType := (⟨"QueryFleet", "number", "(I)Z"⟩, b_QF_number, 2, (Option.some Jvm.ClassFile.FieldType.boolean))
abbrev b_QF_operate : ByteArray := prog_1_method_6_code
abbrev mi_QF_operate : MethodName × ByteArray × Nat × Option FieldType := (⟨"QueryFleet", "operate", "(I)Z"⟩, b_QF_operate, 2, (Option.some Jvm.ClassFile.FieldType.boolean))
abbrev b_QF_where : ByteArray := prog_1_method_7_code
abbrev mi_QF_where : MethodName × ByteArray × Nat × Option FieldType := (⟨"QueryFleet", "where", "()Z"⟩, b_QF_where, 1, (Option.some Jvm.ClassFile.FieldType.boolean))
abbrev b_QF_output : ByteArray := prog_1_method_8_code
abbrev mi_QF_output : MethodName × ByteArray × Nat × Option FieldType := (⟨"QueryFleet", "output", "(I)Z"⟩, b_QF_output, 2, (Option.some Jvm.ClassFile.FieldType.boolean))
abbrev b_QF_group : ByteArray := prog_1_method_9_code
abbrev mi_QF_group : MethodName × ByteArray × Nat × Option FieldType := (⟨"QueryFleet", "group", "(I)Z"⟩, b_QF_group, 2, (Option.some Jvm.ClassFile.FieldType.boolean))
abbrev b_QF_order : ByteArray := prog_1_method_10_code
abbrev mi_QF_order : MethodName × ByteArray × Nat × Option FieldType := (⟨"QueryFleet", "order", "(IZI)Z"⟩, b_QF_order, 4, (Option.some Jvm.ClassFile.FieldType.boolean))
abbrev b_QF_start : ByteArray := prog_1_method_11_code
abbrev mi_QF_start : MethodName × ByteArray × Nat × Option FieldType := (⟨"QueryFleet", "start", "(II)I"⟩, b_QF_start, 6, (Option.some Jvm.ClassFile.FieldType.int))
abbrev b_QF_pass : ByteArray := prog_1_method_12_code
abbrev mi_QF_pass : MethodName × ByteArray × Nat × Option FieldType := (⟨"QueryFleet", "pass", "(II)I"⟩, b_QF_pass, 3, (Option.some Jvm.ClassFile.FieldType.int))
abbrev b_QF_work : ByteArray := prog_1_method_13_code
abbrev mi_QF_work : MethodName × ByteArray × Nat × Option FieldType := (⟨"QueryFleet", "work", "(I)I"⟩, b_QF_work, 2, (Option.some Jvm.ClassFile.FieldType.int))
abbrev b_QF_crash : ByteArray := prog_1_method_14_code
abbrev mi_QF_crash : MethodName × ByteArray × Nat × Option FieldType := (⟨"QueryFleet", "crash", "(I)I"⟩, b_QF_crash, 3, (Option.some Jvm.ClassFile.FieldType.int))
abbrev b_QF_tick : ByteArray := prog_1_method_15_code
abbrev mi_QF_tick : MethodName × ByteArray × Nat × Option FieldType := (⟨"QueryFleet", "tick", "()I"⟩, b_QF_tick, 1, (Option.some Jvm.ClassFile.FieldType.int))
abbrev b_QF_message : ByteArray := prog_1_method_16_code
abbrev mi_QF_message : MethodName × ByteArray × Nat × Option FieldType := (⟨"QueryFleet", "message", "(II)I"⟩, b_QF_message, 3, (Option.some Jvm.ClassFile.FieldType.int))
abbrev b_QF_task : ByteArray := prog_1_method_17_code
abbrev mi_QF_task : MethodName × ByteArray × Nat × Option FieldType := (⟨"QueryFleet", "task", "(II)I"⟩, b_QF_task, 3, (Option.some Jvm.ClassFile.FieldType.int))
abbrev b_QF_ended : ByteArray := prog_1_method_18_code
abbrev mi_QF_ended : MethodName × ByteArray × Nat × Option FieldType := (⟨"QueryFleet", "ended", "(I)I"⟩, b_QF_ended, 2, (Option.some Jvm.ClassFile.FieldType.int))
abbrev b_QF_cell : ByteArray := prog_1_method_19_code
abbrev mi_QF_cell : MethodName × ByteArray × Nat × Option FieldType := (⟨"QueryFleet", "cell", "(II)J"⟩, b_QF_cell, 3, (Option.some Jvm.ClassFile.FieldType.long))
abbrev b_QF_missing : ByteArray := prog_1_method_20_code
abbrev mi_QF_missing : MethodName × ByteArray × Nat × Option FieldType := (⟨"QueryFleet", "missing", "(II)Z"⟩, b_QF_missing, 3, (Option.some Jvm.ClassFile.FieldType.boolean))
abbrev b_QF_isIn : ByteArray := prog_1_method_21_code
abbrev mi_QF_isIn : MethodName × ByteArray × Nat × Option FieldType := (⟨"QueryFleet", "isIn", "(II)Z"⟩, b_QF_isIn, 2, (Option.some Jvm.ClassFile.FieldType.boolean))
abbrev b_QF_canChangeQuery : ByteArray := prog_1_method_22_code
abbrev mi_QF_canChangeQuery : MethodName × ByteArray × Nat × Option FieldType := (⟨"QueryFleet", "canChangeQuery", "()Z"⟩, b_QF_canChangeQuery, 1, (Option.some Jvm.ClassFile.FieldType.boolean))
abbrev b_QF_isWorker : ByteArray := prog_1_method_23_code
abbrev mi_QF_isWorker : MethodName × ByteArray × Nat × Option FieldType := (⟨"QueryFleet", "isWorker", "(I)Z"⟩, b_QF_isWorker, 2, (Option.some Jvm.ClassFile.FieldType.boolean))
abbrev b_QF_hasResult : ByteArray := prog_1_method_24_code
abbrev mi_QF_hasResult : MethodName × ByteArray × Nat × Option FieldType := (⟨"QueryFleet", "hasResult", "()Z"⟩, b_QF_hasResult, 1, (Option.some Jvm.ClassFile.FieldType.boolean))
abbrev b_QF_hasCell : ByteArray := prog_1_method_25_code
abbrev mi_QF_hasCell : MethodName × ByteArray × Nat × Option FieldType := (⟨"QueryFleet", "hasCell", "(II)Z"⟩, b_QF_hasCell, 3, (Option.some Jvm.ClassFile.FieldType.boolean))
abbrev b_QM_init : ByteArray := prog_13_method_1_code
abbrev mi_QM_init : MethodName × ByteArray × Nat × Option FieldType := (⟨"QueryFleetModel", "<init>", "()V"⟩, b_QM_init, 1, (Option.none : Option Jvm.ClassFile.FieldType))
abbrev b_QM_within : ByteArray := prog_13_method_2_code
abbrev mi_QM_within : MethodName × ByteArray × Nat × Option FieldType := (⟨"QueryFleetModel", "within", "(III)Z"⟩, b_QM_within, 3, (Option.some Jvm.ClassFile.FieldType.boolean))
abbrev b_QM_row : ByteArray := prog_13_method_3_code
abbrev mi_QM_row : MethodName × ByteArray × Nat × Option FieldType := (⟨"QueryFleetModel", "row", "(IIII)I"⟩, b_QM_row, 6, (Option.some Jvm.ClassFile.FieldType.int))
abbrev b_QM_from : ByteArray := prog_13_method_4_code
abbrev mi_QM_from : MethodName × ByteArray × Nat × Option FieldType := (⟨"QueryFleetModel", "from", "(IIIII)Z"⟩, b_QM_from, 6, (Option.some Jvm.ClassFile.FieldType.boolean))
abbrev b_QM_open : ByteArray := prog_13_method_5_code
abbrev mi_QM_open : MethodName × ByteArray × Nat × Option FieldType := (⟨"QueryFleetModel", "open", "()Z"⟩, b_QM_open, 1, (Option.some Jvm.ClassFile.FieldType.boolean))
abbrev b_QM_isColumn : ByteArray := prog_13_method_6_code
abbrev mi_QM_isColumn : MethodName × ByteArray × Nat × Option FieldType := (⟨"QueryFleetModel", "isColumn", "(I)Z"⟩, b_QM_isColumn, 2, (Option.some Jvm.ClassFile.FieldType.boolean))
abbrev b_QM_push : ByteArray := prog_13_method_7_code
abbrev mi_QM_push : MethodName × ByteArray × Nat × Option FieldType := (⟨"QueryFleetModel", "push", "(IJ)V"⟩, b_QM_push, 4, (Option.none : Option Jvm.ClassFile.FieldType))
abbrev b_QM_column : ByteArray := prog_13_method_8_code
abbrev mi_QM_column : MethodName × ByteArray × Nat × Option FieldType := (⟨"QueryFleetModel", "column", "(I)Z"⟩, b_QM_column, 2, (Option.some Jvm.ClassFile.FieldType.boolean))
abbrev b_QM_number : ByteArray := prog_13_method_9_code
abbrev mi_QM_number : MethodName × ByteArray × Nat × Option FieldType := (⟨"QueryFleetModel", "number", "(I)Z"⟩, b_QM_number, 2, (Option.some Jvm.ClassFile.FieldType.boolean))
abbrev b_QM_operate : ByteArray := prog_13_method_10_code
abbrev mi_QM_operate : MethodName × ByteArray × Nat × Option FieldType := (⟨"QueryFleetModel", "operate", "(I)Z"⟩, b_QM_operate, 7, (Option.some Jvm.ClassFile.FieldType.boolean))
abbrev b_QM_copy : ByteArray := prog_13_method_11_code
abbrev mi_QM_copy : MethodName × ByteArray × Nat × Option FieldType := (⟨"QueryFleetModel", "copy", "(III)V"⟩, b_QM_copy, 5, (Option.none : Option Jvm.ClassFile.FieldType))
abbrev b_QM_where : ByteArray := prog_13_method_12_code
abbrev mi_QM_where : MethodName × ByteArray × Nat × Option FieldType := (⟨"QueryFleetModel", "where", "()Z"⟩, b_QM_where, 1, (Option.some Jvm.ClassFile.FieldType.boolean))
abbrev b_QM_output : ByteArray := prog_13_method_13_code
abbrev mi_QM_output : MethodName × ByteArray × Nat × Option FieldType := (⟨"QueryFleetModel", "output", "(I)Z"⟩, b_QM_output, 2, (Option.some Jvm.ClassFile.FieldType.boolean))
abbrev b_QM_group : ByteArray := prog_13_method_14_code
abbrev mi_QM_group : MethodName × ByteArray × Nat × Option FieldType := (⟨"QueryFleetModel", "group", "(I)Z"⟩, b_QM_group, 2, (Option.some Jvm.ClassFile.FieldType.boolean))
abbrev b_QM_order : ByteArray := prog_13_method_15_code
abbrev mi_QM_order : MethodName × ByteArray × Nat × Option FieldType := (⟨"QueryFleetModel", "order", "(IZI)Z"⟩, b_QM_order, 4, (Option.some Jvm.ClassFile.FieldType.boolean))
abbrev b_QM_form : ByteArray := prog_13_method_16_code
abbrev mi_QM_form : MethodName × ByteArray × Nat × Option FieldType := (⟨"QueryFleetModel", "form", "()I"⟩, b_QM_form, 3, (Option.some Jvm.ClassFile.FieldType.int))
abbrev b_QM_set : ByteArray := prog_13_method_17_code
abbrev mi_QM_set : MethodName × ByteArray × Nat × Option FieldType := (⟨"QueryFleetModel", "set", "(IJZ)V"⟩, b_QM_set, 5, (Option.none : Option Jvm.ClassFile.FieldType))
abbrev b_QM_overflows : ByteArray := prog_13_method_18_code
abbrev mi_QM_overflows : MethodName × ByteArray × Nat × Option FieldType := (⟨"QueryFleetModel", "overflows", "(IJJ)Z"⟩, b_QM_overflows, 7, (Option.some Jvm.ClassFile.FieldType.boolean))
abbrev b_QM_calculate : ByteArray := prog_13_method_19_code
abbrev mi_QM_calculate : MethodName × ByteArray × Nat × Option FieldType := (⟨"QueryFleetModel", "calculate", "(II)V"⟩, b_QM_calculate, 10, (Option.none : Option Jvm.ClassFile.FieldType))
abbrev b_QM_evaluate : ByteArray := prog_13_method_20_code
abbrev mi_QM_evaluate : MethodName × ByteArray × Nat × Option FieldType := (⟨"QueryFleetModel", "evaluate", "(I)V"⟩, b_QM_evaluate, 5, (Option.none : Option Jvm.ClassFile.FieldType))
abbrev b_QM_names : ByteArray := prog_13_method_21_code
abbrev mi_QM_names : MethodName × ByteArray × Nat × Option FieldType := (⟨"QueryFleetModel", "names", "(II)Z"⟩, b_QM_names, 6, (Option.some Jvm.ClassFile.FieldType.boolean))
abbrev b_QM_isTrue : ByteArray := prog_13_method_22_code
abbrev mi_QM_isTrue : MethodName × ByteArray × Nat × Option FieldType := (⟨"QueryFleetModel", "isTrue", "(I)Z"⟩, b_QM_isTrue, 2, (Option.some Jvm.ClassFile.FieldType.boolean))
abbrev b_QM_passesAll : ByteArray := prog_13_method_23_code
abbrev mi_QM_passesAll : MethodName × ByteArray × Nat × Option FieldType := (⟨"QueryFleetModel", "passesAll", "()Z"⟩, b_QM_passesAll, 3, (Option.some Jvm.ClassFile.FieldType.boolean))
abbrev b_QM_bring : ByteArray := prog_13_method_24_code
abbrev mi_QM_bring : MethodName × ByteArray × Nat × Option FieldType := (⟨"QueryFleetModel", "bring", "(II)V"⟩, b_QM_bring, 5, (Option.none : Option Jvm.ClassFile.FieldType))
abbrev b_QM_matches : ByteArray := prog_13_method_25_code
abbrev mi_QM_matches : MethodName × ByteArray × Nat × Option FieldType := (⟨"QueryFleetModel", "matches", "()Z"⟩, b_QM_matches, 1, (Option.some Jvm.ClassFile.FieldType.boolean))
abbrev b_QM_keep : ByteArray := prog_13_method_26_code
abbrev mi_QM_keep : MethodName × ByteArray × Nat × Option FieldType := (⟨"QueryFleetModel", "keep", "()V"⟩, b_QM_keep, 2, (Option.none : Option Jvm.ClassFile.FieldType))
abbrev b_QM_joinAll : ByteArray := prog_13_method_27_code
abbrev mi_QM_joinAll : MethodName × ByteArray × Nat × Option FieldType := (⟨"QueryFleetModel", "joinAll", "()V"⟩, b_QM_joinAll, 4, (Option.none : Option Jvm.ClassFile.FieldType))
abbrev b_QM_second0 : ByteArray := prog_13_method_28_code
abbrev mi_QM_second0 : MethodName × ByteArray × Nat × Option FieldType := (⟨"QueryFleetModel", "second0", "()I"⟩, b_QM_second0, 1, (Option.some Jvm.ClassFile.FieldType.int))
abbrev b_QM_bringKept : ByteArray := prog_13_method_29_code
abbrev mi_QM_bringKept : MethodName × ByteArray × Nat × Option FieldType := (⟨"QueryFleetModel", "bringKept", "(I)V"⟩, b_QM_bringKept, 3, (Option.none : Option Jvm.ClassFile.FieldType))
abbrev b_QM_give : ByteArray := prog_13_method_30_code
abbrev mi_QM_give : MethodName × ByteArray × Nat × Option FieldType := (⟨"QueryFleetModel", "give", "(IJZ)V"⟩, b_QM_give, 5, (Option.none : Option Jvm.ClassFile.FieldType))
abbrev b_QM_together : ByteArray := prog_13_method_31_code
abbrev mi_QM_together : MethodName × ByteArray × Nat × Option FieldType := (⟨"QueryFleetModel", "together", "(II)Z"⟩, b_QM_together, 5, (Option.some Jvm.ClassFile.FieldType.boolean))
abbrev b_QM_aggregate : ByteArray := prog_13_method_32_code
abbrev mi_QM_aggregate : MethodName × ByteArray × Nat × Option FieldType := (⟨"QueryFleetModel", "aggregate", "(III)V"⟩, b_QM_aggregate, 16, (Option.none : Option Jvm.ClassFile.FieldType))
abbrev b_QM_groupRow : ByteArray := prog_13_method_33_code
abbrev mi_QM_groupRow : MethodName × ByteArray × Nat × Option FieldType := (⟨"QueryFleetModel", "groupRow", "(I)V"⟩, b_QM_groupRow, 4, (Option.none : Option Jvm.ClassFile.FieldType))
abbrev b_QM_firstOfGroup : ByteArray := prog_13_method_34_code
abbrev mi_QM_firstOfGroup : MethodName × ByteArray × Nat × Option FieldType := (⟨"QueryFleetModel", "firstOfGroup", "(I)Z"⟩, b_QM_firstOfGroup, 4, (Option.some Jvm.ClassFile.FieldType.boolean))
abbrev b_QM_makeResults : ByteArray := prog_13_method_35_code
abbrev mi_QM_makeResults : MethodName × ByteArray × Nat × Option FieldType := (⟨"QueryFleetModel", "makeResults", "()V"⟩, b_QM_makeResults, 4, (Option.none : Option Jvm.ClassFile.FieldType))
abbrev b_QM_compare : ByteArray := prog_13_method_36_code
abbrev mi_QM_compare : MethodName × ByteArray × Nat × Option FieldType := (⟨"QueryFleetModel", "compare", "(III)I"⟩, b_QM_compare, 6, (Option.some Jvm.ClassFile.FieldType.int))
abbrev b_QM_before : ByteArray := prog_13_method_37_code
abbrev mi_QM_before : MethodName × ByteArray × Nat × Option FieldType := (⟨"QueryFleetModel", "before", "(II)Z"⟩, b_QM_before, 6, (Option.some Jvm.ClassFile.FieldType.boolean))
abbrev b_QM_sort : ByteArray := prog_13_method_38_code
abbrev mi_QM_sort : MethodName × ByteArray × Nat × Option FieldType := (⟨"QueryFleetModel", "sort", "()V"⟩, b_QM_sort, 3, (Option.none : Option Jvm.ClassFile.FieldType))
abbrev b_QM_partOf : ByteArray := prog_13_method_39_code
abbrev mi_QM_partOf : MethodName × ByteArray × Nat × Option FieldType := (⟨"QueryFleetModel", "partOf", "(JZ)I"⟩, b_QM_partOf, 6, (Option.some Jvm.ClassFile.FieldType.int))
abbrev b_QM_scanRows : ByteArray := prog_13_method_40_code
abbrev mi_QM_scanRows : MethodName × ByteArray × Nat × Option FieldType := (⟨"QueryFleetModel", "scanRows", "(II)I"⟩, b_QM_scanRows, 9, (Option.some Jvm.ClassFile.FieldType.int))
abbrev b_QM_joinRows : ByteArray := prog_13_method_41_code
abbrev mi_QM_joinRows : MethodName × ByteArray × Nat × Option FieldType := (⟨"QueryFleetModel", "joinRows", "(I)I"⟩, b_QM_joinRows, 4, (Option.some Jvm.ClassFile.FieldType.int))
abbrev b_QM_groupRows : ByteArray := prog_13_method_42_code
abbrev mi_QM_groupRows : MethodName × ByteArray × Nat × Option FieldType := (⟨"QueryFleetModel", "groupRows", "(I)I"⟩, b_QM_groupRows, 4, (Option.some Jvm.ClassFile.FieldType.int))
abbrev b_QM_addTasks : ByteArray := prog_13_method_43_code
abbrev mi_QM_addTasks : MethodName × ByteArray × Nat × Option FieldType := (⟨"QueryFleetModel", "addTasks", "(I)V"⟩, b_QM_addTasks, 3, (Option.none : Option Jvm.ClassFile.FieldType))
abbrev b_QM_start : ByteArray := prog_13_method_44_code
abbrev mi_QM_start : MethodName × ByteArray × Nat × Option FieldType := (⟨"QueryFleetModel", "start", "(II)I"⟩, b_QM_start, 4, (Option.some Jvm.ClassFile.FieldType.int))
abbrev b_QM_allDone : ByteArray := prog_13_method_45_code
abbrev mi_QM_allDone : MethodName × ByteArray × Nat × Option FieldType := (⟨"QueryFleetModel", "allDone", "(I)Z"⟩, b_QM_allDone, 4, (Option.some Jvm.ClassFile.FieldType.boolean))
abbrev b_QM_sendReady : ByteArray := prog_13_method_46_code
abbrev mi_QM_sendReady : MethodName × ByteArray × Nat × Option FieldType := (⟨"QueryFleetModel", "sendReady", "()V"⟩, b_QM_sendReady, 4, (Option.none : Option Jvm.ClassFile.FieldType))
abbrev b_QM_send : ByteArray := prog_13_method_47_code
abbrev mi_QM_send : MethodName × ByteArray × Nat × Option FieldType := (⟨"QueryFleetModel", "send", "(III)V"⟩, b_QM_send, 4, (Option.none : Option Jvm.ClassFile.FieldType))
abbrev b_QM_sendRun : ByteArray := prog_13_method_48_code
abbrev mi_QM_sendRun : MethodName × ByteArray × Nat × Option FieldType := (⟨"QueryFleetModel", "sendRun", "(I)V"⟩, b_QM_sendRun, 2, (Option.none : Option Jvm.ClassFile.FieldType))
abbrev b_QM_strike : ByteArray := prog_13_method_49_code
abbrev mi_QM_strike : MethodName × ByteArray × Nat × Option FieldType := (⟨"QueryFleetModel", "strike", "(I)V"⟩, b_QM_strike, 3, (Option.none : Option Jvm.ClassFile.FieldType))
abbrev b_QM_workerOf : ByteArray := prog_13_method_50_code
abbrev mi_QM_workerOf : MethodName × ByteArray × Nat × Option FieldType := (⟨"QueryFleetModel", "workerOf", "(II)I"⟩, b_QM_workerOf, 3, (Option.some Jvm.ClassFile.FieldType.int))
abbrev b_QM_deliver : ByteArray := prog_13_method_51_code
abbrev mi_QM_deliver : MethodName × ByteArray × Nat × Option FieldType := (⟨"QueryFleetModel", "deliver", "(III)I"⟩, b_QM_deliver, 5, (Option.some Jvm.ClassFile.FieldType.int))
abbrev b_QM_pass : ByteArray := prog_13_method_52_code
abbrev mi_QM_pass : MethodName × ByteArray × Nat × Option FieldType := (⟨"QueryFleetModel", "pass", "(II)I"⟩, b_QM_pass, 6, (Option.some Jvm.ClassFile.FieldType.int))
abbrev b_QM_isWorker : ByteArray := prog_13_method_53_code
abbrev mi_QM_isWorker : MethodName × ByteArray × Nat × Option FieldType := (⟨"QueryFleetModel", "isWorker", "(I)Z"⟩, b_QM_isWorker, 2, (Option.some Jvm.ClassFile.FieldType.boolean))
abbrev b_QM_work : ByteArray := prog_13_method_54_code
abbrev mi_QM_work : MethodName × ByteArray × Nat × Option FieldType := (⟨"QueryFleetModel", "work", "(I)I"⟩, b_QM_work, 5, (Option.some Jvm.ClassFile.FieldType.int))
abbrev b_QM_crash : ByteArray := prog_13_method_55_code
abbrev mi_QM_crash : MethodName × ByteArray × Nat × Option FieldType := (⟨"QueryFleetModel", "crash", "(I)I"⟩, b_QM_crash, 3, (Option.some Jvm.ClassFile.FieldType.int))
abbrev b_QM_tick : ByteArray := prog_13_method_56_code
abbrev mi_QM_tick : MethodName × ByteArray × Nat × Option FieldType := (⟨"QueryFleetModel", "tick", "()I"⟩, b_QM_tick, 3, (Option.some Jvm.ClassFile.FieldType.int))
abbrev b_QM_message : ByteArray := prog_13_method_57_code
abbrev mi_QM_message : MethodName × ByteArray × Nat × Option FieldType := (⟨"QueryFleetModel", "message", "(II)I"⟩, b_QM_message, 4, (Option.some Jvm.ClassFile.FieldType.int))
abbrev b_QM_task : ByteArray := prog_13_method_58_code
abbrev mi_QM_task : MethodName × ByteArray × Nat × Option FieldType := (⟨"QueryFleetModel", "task", "(II)I"⟩, b_QM_task, 3, (Option.some Jvm.ClassFile.FieldType.int))
abbrev b_QM_shown : ByteArray := prog_13_method_59_code
abbrev mi_QM_shown : MethodName × ByteArray × Nat × Option FieldType := (⟨"QueryFleetModel", "shown", "()I"⟩, b_QM_shown, 1, (Option.some Jvm.ClassFile.FieldType.int))
abbrev b_QM_passes : ByteArray := prog_13_method_60_code
abbrev mi_QM_passes : MethodName × ByteArray × Nat × Option FieldType := (⟨"QueryFleetModel", "passes", "()I"⟩, b_QM_passes, 3, (Option.some Jvm.ClassFile.FieldType.int))
abbrev b_QM_ended : ByteArray := prog_13_method_61_code
abbrev mi_QM_ended : MethodName × ByteArray × Nat × Option FieldType := (⟨"QueryFleetModel", "ended", "(I)I"⟩, b_QM_ended, 2, (Option.some Jvm.ClassFile.FieldType.int))
abbrev b_QM_isCell : ByteArray := prog_13_method_62_code
abbrev mi_QM_isCell : MethodName × ByteArray × Nat × Option FieldType := (⟨"QueryFleetModel", "isCell", "(II)Z"⟩, b_QM_isCell, 3, (Option.some Jvm.ClassFile.FieldType.boolean))
abbrev b_QM_cell : ByteArray := prog_13_method_63_code
abbrev mi_QM_cell : MethodName × ByteArray × Nat × Option FieldType := (⟨"QueryFleetModel", "cell", "(II)J"⟩, b_QM_cell, 3, (Option.some Jvm.ClassFile.FieldType.long))
abbrev b_QM_missing : ByteArray := prog_13_method_64_code
abbrev mi_QM_missing : MethodName × ByteArray × Nat × Option FieldType := (⟨"QueryFleetModel", "missing", "(II)Z"⟩, b_QM_missing, 3, (Option.some Jvm.ClassFile.FieldType.boolean))
abbrev b_Ag_init : ByteArray := prog_2_method_1_code
abbrev mi_Ag_init : MethodName × ByteArray × Nat × Option FieldType := (⟨"QueryFleet$Aggregate", "<init>", "()V"⟩, b_Ag_init, 1, (Option.none : Option Jvm.ClassFile.FieldType))
abbrev b_Ag_clear : ByteArray := prog_2_method_2_code
abbrev mi_Ag_clear : MethodName × ByteArray × Nat × Option FieldType := (⟨"QueryFleet$Aggregate", "clear", "()V"⟩, b_Ag_clear, 1, (Option.none : Option Jvm.ClassFile.FieldType))
abbrev b_Ag_add : ByteArray := prog_2_method_3_code
abbrev mi_Ag_add : MethodName × ByteArray × Nat × Option FieldType := (⟨"QueryFleet$Aggregate", "add", "(JZ)V"⟩, b_Ag_add, 4, (Option.none : Option Jvm.ClassFile.FieldType))
abbrev b_Ag_isNull : ByteArray := prog_2_method_4_code
abbrev mi_Ag_isNull : MethodName × ByteArray × Nat × Option FieldType := (⟨"QueryFleet$Aggregate", "isNull", "(I)Z"⟩, b_Ag_isNull, 2, (Option.some Jvm.ClassFile.FieldType.boolean))
abbrev b_Ag_value : ByteArray := prog_2_method_5_code
abbrev mi_Ag_value : MethodName × ByteArray × Nat × Option FieldType := (⟨"QueryFleet$Aggregate", "value", "(I)J"⟩, b_Ag_value, 2, (Option.some Jvm.ClassFile.FieldType.long))
abbrev b_Ag_hasSum : ByteArray := prog_2_method_6_code
abbrev mi_Ag_hasSum : MethodName × ByteArray × Nat × Option FieldType := (⟨"QueryFleet$Aggregate", "hasSum", "()Z"⟩, b_Ag_hasSum, 3, (Option.some Jvm.ClassFile.FieldType.boolean))
abbrev b_Ex_init : ByteArray := prog_3_method_1_code
abbrev mi_Ex_init : MethodName × ByteArray × Nat × Option FieldType := (⟨"QueryFleet$Expression", "<init>", "()V"⟩, b_Ex_init, 1, (Option.none : Option Jvm.ClassFile.FieldType))
abbrev b_Ex_clear : ByteArray := prog_3_method_2_code
abbrev mi_Ex_clear : MethodName × ByteArray × Nat × Option FieldType := (⟨"QueryFleet$Expression", "clear", "()V"⟩, b_Ex_clear, 1, (Option.none : Option Jvm.ClassFile.FieldType))
abbrev b_Ex_addPart : ByteArray := prog_3_method_3_code
abbrev mi_Ex_addPart : MethodName × ByteArray × Nat × Option FieldType := (⟨"QueryFleet$Expression", "addPart", "(II)V"⟩, b_Ex_addPart, 3, (Option.none : Option Jvm.ClassFile.FieldType))
abbrev b_Ex_addAll : ByteArray := prog_3_method_4_code
abbrev mi_Ex_addAll : MethodName × ByteArray × Nat × Option FieldType := (⟨"QueryFleet$Expression", "addAll", "(LQueryFleet$Expression;)V"⟩, b_Ex_addAll, 3, (Option.none : Option Jvm.ClassFile.FieldType))
abbrev b_Ex_namesFirst : ByteArray := prog_3_method_5_code
abbrev mi_Ex_namesFirst : MethodName × ByteArray × Nat × Option FieldType := (⟨"QueryFleet$Expression", "namesFirst", "()Z"⟩, b_Ex_namesFirst, 1, (Option.some Jvm.ClassFile.FieldType.boolean))
abbrev b_Ex_namesSecond : ByteArray := prog_3_method_6_code
abbrev mi_Ex_namesSecond : MethodName × ByteArray × Nat × Option FieldType := (⟨"QueryFleet$Expression", "namesSecond", "()Z"⟩, b_Ex_namesSecond, 1, (Option.some Jvm.ClassFile.FieldType.boolean))
abbrev b_Jo_init : ByteArray := prog_4_method_1_code
abbrev mi_Jo_init : MethodName × ByteArray × Nat × Option FieldType := (⟨"QueryFleet$Job", "<init>", "()V"⟩, b_Jo_init, 2, (Option.none : Option Jvm.ClassFile.FieldType))
abbrev b_Jo_clear : ByteArray := prog_4_method_2_code
abbrev mi_Jo_clear : MethodName × ByteArray × Nat × Option FieldType := (⟨"QueryFleet$Job", "clear", "(I)V"⟩, b_Jo_clear, 2, (Option.none : Option Jvm.ClassFile.FieldType))
abbrev b_Jo_forgetMessages : ByteArray := prog_4_method_3_code
abbrev mi_Jo_forgetMessages : MethodName × ByteArray × Nat × Option FieldType := (⟨"QueryFleet$Job", "forgetMessages", "()V"⟩, b_Jo_forgetMessages, 2, (Option.none : Option Jvm.ClassFile.FieldType))
abbrev b_Jo_addTask : ByteArray := prog_4_method_4_code
abbrev mi_Jo_addTask : MethodName × ByteArray × Nat × Option FieldType := (⟨"QueryFleet$Job", "addTask", "(III)V"⟩, b_Jo_addTask, 4, (Option.none : Option Jvm.ClassFile.FieldType))
abbrev b_Jo_sendReady : ByteArray := prog_4_method_5_code
abbrev mi_Jo_sendReady : MethodName × ByteArray × Nat × Option FieldType := (⟨"QueryFleet$Job", "sendReady", "()V"⟩, b_Jo_sendReady, 2, (Option.none : Option Jvm.ClassFile.FieldType))
abbrev b_Jo_isReady : ByteArray := prog_4_method_6_code
abbrev mi_Jo_isReady : MethodName × ByteArray × Nat × Option FieldType := (⟨"QueryFleet$Job", "isReady", "(I)Z"⟩, b_Jo_isReady, 3, (Option.some Jvm.ClassFile.FieldType.boolean))
abbrev b_Jo_sendRun : ByteArray := prog_4_method_7_code
abbrev mi_Jo_sendRun : MethodName × ByteArray × Nat × Option FieldType := (⟨"QueryFleet$Job", "sendRun", "(I)V"⟩, b_Jo_sendRun, 2, (Option.none : Option Jvm.ClassFile.FieldType))
abbrev b_Jo_workerOf : ByteArray := prog_4_method_8_code
abbrev mi_Jo_workerOf : MethodName × ByteArray × Nat × Option FieldType := (⟨"QueryFleet$Job", "workerOf", "(II)I"⟩, b_Jo_workerOf, 3, (Option.some Jvm.ClassFile.FieldType.int))
abbrev b_Jo_deliver : ByteArray := prog_4_method_9_code
abbrev mi_Jo_deliver : MethodName × ByteArray × Nat × Option FieldType := (⟨"QueryFleet$Job", "deliver", "(I)I"⟩, b_Jo_deliver, 5, (Option.some Jvm.ClassFile.FieldType.int))
abbrev b_Jo_finish : ByteArray := prog_4_method_10_code
abbrev mi_Jo_finish : MethodName × ByteArray × Nat × Option FieldType := (⟨"QueryFleet$Job", "finish", "(I)V"⟩, b_Jo_finish, 2, (Option.none : Option Jvm.ClassFile.FieldType))
abbrev b_Jo_repeat : ByteArray := prog_4_method_11_code
abbrev mi_Jo_repeat : MethodName × ByteArray × Nat × Option FieldType := (⟨"QueryFleet$Job", "repeat", "(I)I"⟩, b_Jo_repeat, 2, (Option.some Jvm.ClassFile.FieldType.int))
abbrev b_Jo_workOff : ByteArray := prog_4_method_12_code
abbrev mi_Jo_workOff : MethodName × ByteArray × Nat × Option FieldType := (⟨"QueryFleet$Job", "workOff", "(LQueryFleet$Line;)I"⟩, b_Jo_workOff, 3, (Option.some Jvm.ClassFile.FieldType.int))
abbrev b_Jo_sendAgain : ByteArray := prog_4_method_13_code
abbrev mi_Jo_sendAgain : MethodName × ByteArray × Nat × Option FieldType := (⟨"QueryFleet$Job", "sendAgain", "()I"⟩, b_Jo_sendAgain, 5, (Option.some Jvm.ClassFile.FieldType.int))
abbrev b_Jo_tell : ByteArray := prog_4_method_14_code
abbrev mi_Jo_tell : MethodName × ByteArray × Nat × Option FieldType := (⟨"QueryFleet$Job", "tell", "(II)I"⟩, b_Jo_tell, 4, (Option.some Jvm.ClassFile.FieldType.int))
abbrev b_Li_init : ByteArray := prog_5_method_1_code
abbrev mi_Li_init : MethodName × ByteArray × Nat × Option FieldType := (⟨"QueryFleet$Line", "<init>", "(I)V"⟩, b_Li_init, 2, (Option.none : Option Jvm.ClassFile.FieldType))
abbrev b_Li_add : ByteArray := prog_5_method_2_code
abbrev mi_Li_add : MethodName × ByteArray × Nat × Option FieldType := (⟨"QueryFleet$Line", "add", "(III)Z"⟩, b_Li_add, 4, (Option.some Jvm.ClassFile.FieldType.boolean))
abbrev b_Li_removeAt : ByteArray := prog_5_method_3_code
abbrev mi_Li_removeAt : MethodName × ByteArray × Nat × Option FieldType := (⟨"QueryFleet$Line", "removeAt", "(I)V"⟩, b_Li_removeAt, 3, (Option.none : Option Jvm.ClassFile.FieldType))
abbrev b_Ma_init : ByteArray := prog_6_method_1_code
abbrev mi_Ma_init : MethodName × ByteArray × Nat × Option FieldType := (⟨"QueryFleet$Machine", "<init>", "()V"⟩, b_Ma_init, 1, (Option.none : Option Jvm.ClassFile.FieldType))
abbrev b_Ma_load : ByteArray := prog_6_method_2_code
abbrev mi_Ma_load : MethodName × ByteArray × Nat × Option FieldType := (⟨"QueryFleet$Machine", "load", "(ILQueryFleet$Table;I)V"⟩, b_Ma_load, 6, (Option.none : Option Jvm.ClassFile.FieldType))
abbrev b_Ma_evaluate : ByteArray := prog_6_method_3_code
abbrev mi_Ma_evaluate : MethodName × ByteArray × Nat × Option FieldType := (⟨"QueryFleet$Machine", "evaluate", "(LQueryFleet$Expression;)V"⟩, b_Ma_evaluate, 6, (Option.none : Option Jvm.ClassFile.FieldType))
abbrev b_Ma_value : ByteArray := prog_6_method_4_code
abbrev mi_Ma_value : MethodName × ByteArray × Nat × Option FieldType := (⟨"QueryFleet$Machine", "value", "()J"⟩, b_Ma_value, 1, (Option.some Jvm.ClassFile.FieldType.long))
abbrev b_Ma_isNull : ByteArray := prog_6_method_5_code
abbrev mi_Ma_isNull : MethodName × ByteArray × Nat × Option FieldType := (⟨"QueryFleet$Machine", "isNull", "()Z"⟩, b_Ma_isNull, 1, (Option.some Jvm.ClassFile.FieldType.boolean))
abbrev b_Ma_isTrue : ByteArray := prog_6_method_6_code
abbrev mi_Ma_isTrue : MethodName × ByteArray × Nat × Option FieldType := (⟨"QueryFleet$Machine", "isTrue", "()Z"⟩, b_Ma_isTrue, 1, (Option.some Jvm.ClassFile.FieldType.boolean))
abbrev b_Ma_set : ByteArray := prog_6_method_7_code
abbrev mi_Ma_set : MethodName × ByteArray × Nat × Option FieldType := (⟨"QueryFleet$Machine", "set", "(IJZ)V"⟩, b_Ma_set, 5, (Option.none : Option Jvm.ClassFile.FieldType))
abbrev b_Ma_combine : ByteArray := prog_6_method_8_code
abbrev mi_Ma_combine : MethodName × ByteArray × Nat × Option FieldType := (⟨"QueryFleet$Machine", "combine", "(III)V"⟩, b_Ma_combine, 5, (Option.none : Option Jvm.ClassFile.FieldType))
abbrev b_Ma_decide : ByteArray := prog_6_method_9_code
abbrev mi_Ma_decide : MethodName × ByteArray × Nat × Option FieldType := (⟨"QueryFleet$Machine", "decide", "(IIJ)V"⟩, b_Ma_decide, 6, (Option.none : Option Jvm.ClassFile.FieldType))
abbrev b_Ma_isLong : ByteArray := prog_6_method_10_code
abbrev mi_Ma_isLong : MethodName × ByteArray × Nat × Option FieldType := (⟨"QueryFleet$Machine", "isLong", "(IJJ)Z"⟩, b_Ma_isLong, 5, (Option.some Jvm.ClassFile.FieldType.boolean))
abbrev b_Ma_calculate : ByteArray := prog_6_method_11_code
abbrev mi_Ma_calculate : MethodName × ByteArray × Nat × Option FieldType := (⟨"QueryFleet$Machine", "calculate", "(IJJ)J"⟩, b_Ma_calculate, 5, (Option.some Jvm.ClassFile.FieldType.long))
abbrev b_Pl_init : ByteArray := prog_7_method_1_code
abbrev mi_Pl_init : MethodName × ByteArray × Nat × Option FieldType := (⟨"QueryFleet$Plan", "<init>", "()V"⟩, b_Pl_init, 2, (Option.none : Option Jvm.ClassFile.FieldType))
abbrev b_Pl_keepRows : ByteArray := prog_7_method_2_code
abbrev mi_Pl_keepRows : MethodName × ByteArray × Nat × Option FieldType := (⟨"QueryFleet$Plan", "keepRows", "()V"⟩, b_Pl_keepRows, 7, (Option.none : Option Jvm.ClassFile.FieldType))
abbrev b_Pl_arePair : ByteArray := prog_7_method_3_code
abbrev mi_Pl_arePair : MethodName × ByteArray × Nat × Option FieldType := (⟨"QueryFleet$Plan", "arePair", "(LQueryFleet$Table;ILQueryFleet$Table;I)Z"⟩, b_Pl_arePair, 5, (Option.some Jvm.ClassFile.FieldType.boolean))
abbrev b_Pl_keepIfAllTrue : ByteArray := prog_7_method_4_code
abbrev mi_Pl_keepIfAllTrue : MethodName × ByteArray × Nat × Option FieldType := (⟨"QueryFleet$Plan", "keepIfAllTrue", "(II)V"⟩, b_Pl_keepIfAllTrue, 4, (Option.none : Option Jvm.ClassFile.FieldType))
abbrev b_Pl_loadJoined : ByteArray := prog_7_method_5_code
abbrev mi_Pl_loadJoined : MethodName × ByteArray × Nat × Option FieldType := (⟨"QueryFleet$Plan", "loadJoined", "(II)V"⟩, b_Pl_loadJoined, 3, (Option.none : Option Jvm.ClassFile.FieldType))
abbrev b_Pl_makeGroups : ByteArray := prog_7_method_6_code
abbrev mi_Pl_makeGroups : MethodName × ByteArray × Nat × Option FieldType := (⟨"QueryFleet$Plan", "makeGroups", "()V"⟩, b_Pl_makeGroups, 2, (Option.none : Option Jvm.ClassFile.FieldType))
abbrev b_Pl_findGroup : ByteArray := prog_7_method_7_code
abbrev mi_Pl_findGroup : MethodName × ByteArray × Nat × Option FieldType := (⟨"QueryFleet$Plan", "findGroup", "(I)I"⟩, b_Pl_findGroup, 6, (Option.some Jvm.ClassFile.FieldType.int))
abbrev b_Pl_fillResult : ByteArray := prog_7_method_8_code
abbrev mi_Pl_fillResult : MethodName × ByteArray × Nat × Option FieldType := (⟨"QueryFleet$Plan", "fillResult", "(LQueryFleet$Result;)V"⟩, b_Pl_fillResult, 3, (Option.none : Option Jvm.ClassFile.FieldType))
abbrev b_Pl_fillPlain : ByteArray := prog_7_method_9_code
abbrev mi_Pl_fillPlain : MethodName × ByteArray × Nat × Option FieldType := (⟨"QueryFleet$Plan", "fillPlain", "(LQueryFleet$Result;I)V"⟩, b_Pl_fillPlain, 4, (Option.none : Option Jvm.ClassFile.FieldType))
abbrev b_Pl_fillGroup : ByteArray := prog_7_method_10_code
abbrev mi_Pl_fillGroup : MethodName × ByteArray × Nat × Option FieldType := (⟨"QueryFleet$Plan", "fillGroup", "(LQueryFleet$Result;I)V"⟩, b_Pl_fillGroup, 6, (Option.none : Option Jvm.ClassFile.FieldType))
abbrev b_Pl_addUp : ByteArray := prog_7_method_11_code
abbrev mi_Pl_addUp : MethodName × ByteArray × Nat × Option FieldType := (⟨"QueryFleet$Plan", "addUp", "(LQueryFleet$Expression;I)V"⟩, b_Pl_addUp, 4, (Option.none : Option Jvm.ClassFile.FieldType))
abbrev b_Pl_rowsOf : ByteArray := prog_7_method_12_code
abbrev mi_Pl_rowsOf : MethodName × ByteArray × Nat × Option FieldType := (⟨"QueryFleet$Plan", "rowsOf", "(III)I"⟩, b_Pl_rowsOf, 4, (Option.some Jvm.ClassFile.FieldType.int))
abbrev b_Pl_scannedRows : ByteArray := prog_7_method_13_code
abbrev mi_Pl_scannedRows : MethodName × ByteArray × Nat × Option FieldType := (⟨"QueryFleet$Plan", "scannedRows", "(IIII)I"⟩, b_Pl_scannedRows, 7, (Option.some Jvm.ClassFile.FieldType.int))
abbrev b_Pl_passesPushed : ByteArray := prog_7_method_14_code
abbrev mi_Pl_passesPushed : MethodName × ByteArray × Nat × Option FieldType := (⟨"QueryFleet$Plan", "passesPushed", "(I)Z"⟩, b_Pl_passesPushed, 3, (Option.some Jvm.ClassFile.FieldType.boolean))
abbrev b_Pl_joinedRows : ByteArray := prog_7_method_15_code
abbrev mi_Pl_joinedRows : MethodName × ByteArray × Nat × Option FieldType := (⟨"QueryFleet$Plan", "joinedRows", "(II)I"⟩, b_Pl_joinedRows, 7, (Option.some Jvm.ClassFile.FieldType.int))
abbrev b_Pl_groupsOfPart : ByteArray := prog_7_method_16_code
abbrev mi_Pl_groupsOfPart : MethodName × ByteArray × Nat × Option FieldType := (⟨"QueryFleet$Plan", "groupsOfPart", "(II)I"⟩, b_Pl_groupsOfPart, 5, (Option.some Jvm.ClassFile.FieldType.int))
abbrev b_Pl_partOf : ByteArray := prog_7_method_17_code
abbrev mi_Pl_partOf : MethodName × ByteArray × Nat × Option FieldType := (⟨"QueryFleet$Plan", "partOf", "(JZI)I"⟩, b_Pl_partOf, 4, (Option.some Jvm.ClassFile.FieldType.int))
abbrev b_Qu_init : ByteArray := prog_8_method_1_code
abbrev mi_Qu_init : MethodName × ByteArray × Nat × Option FieldType := (⟨"QueryFleet$Query", "<init>", "()V"⟩, b_Qu_init, 1, (Option.none : Option Jvm.ClassFile.FieldType))
abbrev b_Qu_makeExpressions : ByteArray := prog_8_method_2_code
abbrev mi_Qu_makeExpressions : MethodName × ByteArray × Nat × Option FieldType := (⟨"QueryFleet$Query", "makeExpressions", "(I)[LQueryFleet$Expression;"⟩, b_Qu_makeExpressions, 3, (Option.some (Jvm.ClassFile.FieldType.array (Jvm.ClassFile.FieldType.object "QueryFleet$Expression"))))
abbrev b_Qu_begin : ByteArray := prog_8_method_3_code
abbrev mi_Qu_begin : MethodName × ByteArray × Nat × Option FieldType := (⟨"QueryFleet$Query", "begin", "(IIIII)V"⟩, b_Qu_begin, 6, (Option.none : Option Jvm.ClassFile.FieldType))
abbrev b_Qu_isJoin : ByteArray := prog_8_method_4_code
abbrev mi_Qu_isJoin : MethodName × ByteArray × Nat × Option FieldType := (⟨"QueryFleet$Query", "isJoin", "()Z"⟩, b_Qu_isJoin, 1, (Option.some Jvm.ClassFile.FieldType.boolean))
abbrev b_Qu_columns : ByteArray := prog_8_method_5_code
abbrev mi_Qu_columns : MethodName × ByteArray × Nat × Option FieldType := (⟨"QueryFleet$Query", "columns", "()I"⟩, b_Qu_columns, 1, (Option.some Jvm.ClassFile.FieldType.int))
abbrev b_Qu_isGrouped : ByteArray := prog_8_method_6_code
abbrev mi_Qu_isGrouped : MethodName × ByteArray × Nat × Option FieldType := (⟨"QueryFleet$Query", "isGrouped", "()Z"⟩, b_Qu_isGrouped, 1, (Option.some Jvm.ClassFile.FieldType.boolean))
abbrev b_Qu_isAggregate : ByteArray := prog_8_method_7_code
abbrev mi_Qu_isAggregate : MethodName × ByteArray × Nat × Option FieldType := (⟨"QueryFleet$Query", "isAggregate", "()Z"⟩, b_Qu_isAggregate, 1, (Option.some Jvm.ClassFile.FieldType.boolean))
abbrev b_Qu_isWhole : ByteArray := prog_8_method_8_code
abbrev mi_Qu_isWhole : MethodName × ByteArray × Nat × Option FieldType := (⟨"QueryFleet$Query", "isWhole", "()Z"⟩, b_Qu_isWhole, 3, (Option.some Jvm.ClassFile.FieldType.boolean))
abbrev b_Qu_resultColumns : ByteArray := prog_8_method_9_code
abbrev mi_Qu_resultColumns : MethodName × ByteArray × Nat × Option FieldType := (⟨"QueryFleet$Query", "resultColumns", "()I"⟩, b_Qu_resultColumns, 1, (Option.some Jvm.ClassFile.FieldType.int))
abbrev b_Qu_needs : ByteArray := prog_8_method_10_code
abbrev mi_Qu_needs : MethodName × ByteArray × Nat × Option FieldType := (⟨"QueryFleet$Query", "needs", "(I)Z"⟩, b_Qu_needs, 2, (Option.some Jvm.ClassFile.FieldType.boolean))
abbrev b_Qu_isPushed : ByteArray := prog_8_method_11_code
abbrev mi_Qu_isPushed : MethodName × ByteArray × Nat × Option FieldType := (⟨"QueryFleet$Query", "isPushed", "(LQueryFleet$Expression;I)Z"⟩, b_Qu_isPushed, 3, (Option.some Jvm.ClassFile.FieldType.boolean))
abbrev b_Qu_push : ByteArray := prog_8_method_12_code
abbrev mi_Qu_push : MethodName × ByteArray × Nat × Option FieldType := (⟨"QueryFleet$Query", "push", "(II)Z"⟩, b_Qu_push, 3, (Option.some Jvm.ClassFile.FieldType.boolean))
abbrev b_Qu_apply : ByteArray := prog_8_method_13_code
abbrev mi_Qu_apply : MethodName × ByteArray × Nat × Option FieldType := (⟨"QueryFleet$Query", "apply", "(I)Z"⟩, b_Qu_apply, 6, (Option.some Jvm.ClassFile.FieldType.boolean))
abbrev b_Qu_takeCondition : ByteArray := prog_8_method_14_code
abbrev mi_Qu_takeCondition : MethodName × ByteArray × Nat × Option FieldType := (⟨"QueryFleet$Query", "takeCondition", "()Z"⟩, b_Qu_takeCondition, 1, (Option.some Jvm.ClassFile.FieldType.boolean))
abbrev b_Qu_takeOutput : ByteArray := prog_8_method_15_code
abbrev mi_Qu_takeOutput : MethodName × ByteArray × Nat × Option FieldType := (⟨"QueryFleet$Query", "takeOutput", "(I)Z"⟩, b_Qu_takeOutput, 2, (Option.some Jvm.ClassFile.FieldType.boolean))
abbrev b_Qu_moveOffStack : ByteArray := prog_8_method_16_code
abbrev mi_Qu_moveOffStack : MethodName × ByteArray × Nat × Option FieldType := (⟨"QueryFleet$Query", "moveOffStack", "([LQueryFleet$Expression;I)V"⟩, b_Qu_moveOffStack, 4, (Option.none : Option Jvm.ClassFile.FieldType))
abbrev b_Re_init : ByteArray := prog_9_method_1_code
abbrev mi_Re_init : MethodName × ByteArray × Nat × Option FieldType := (⟨"QueryFleet$Result", "<init>", "()V"⟩, b_Re_init, 1, (Option.none : Option Jvm.ClassFile.FieldType))
abbrev b_Re_set : ByteArray := prog_9_method_2_code
abbrev mi_Re_set : MethodName × ByteArray × Nat × Option FieldType := (⟨"QueryFleet$Result", "set", "(IIJZ)V"⟩, b_Re_set, 6, (Option.none : Option Jvm.ClassFile.FieldType))
abbrev b_Re_value : ByteArray := prog_9_method_3_code
abbrev mi_Re_value : MethodName × ByteArray × Nat × Option FieldType := (⟨"QueryFleet$Result", "value", "(II)J"⟩, b_Re_value, 3, (Option.some Jvm.ClassFile.FieldType.long))
abbrev b_Re_isNull : ByteArray := prog_9_method_4_code
abbrev mi_Re_isNull : MethodName × ByteArray × Nat × Option FieldType := (⟨"QueryFleet$Result", "isNull", "(II)Z"⟩, b_Re_isNull, 3, (Option.some Jvm.ClassFile.FieldType.boolean))
abbrev b_Re_sort : ByteArray := prog_9_method_5_code
abbrev mi_Re_sort : MethodName × ByteArray × Nat × Option FieldType := (⟨"QueryFleet$Result", "sort", "(LQueryFleet$Query;)V"⟩, b_Re_sort, 5, (Option.none : Option Jvm.ClassFile.FieldType))
abbrev b_Re_compare : ByteArray := prog_9_method_6_code
abbrev mi_Re_compare : MethodName × ByteArray × Nat × Option FieldType := (⟨"QueryFleet$Result", "compare", "(IIIZ)I"⟩, b_Re_compare, 7, (Option.some Jvm.ClassFile.FieldType.int))
abbrev b_Re_compareAt : ByteArray := prog_9_method_7_code
abbrev mi_Re_compareAt : MethodName × ByteArray × Nat × Option FieldType := (⟨"QueryFleet$Result", "compareAt", "(III)I"⟩, b_Re_compareAt, 6, (Option.some Jvm.ClassFile.FieldType.int))
abbrev b_Re_countPasses : ByteArray := prog_9_method_8_code
abbrev mi_Re_countPasses : MethodName × ByteArray × Nat × Option FieldType := (⟨"QueryFleet$Result", "countPasses", "(I)V"⟩, b_Re_countPasses, 3, (Option.none : Option Jvm.ClassFile.FieldType))
abbrev b_Tb_init : ByteArray := prog_10_method_1_code
abbrev mi_Tb_init : MethodName × ByteArray × Nat × Option FieldType := (⟨"QueryFleet$Table", "<init>", "()V"⟩, b_Tb_init, 1, (Option.none : Option Jvm.ClassFile.FieldType))
abbrev b_Tb_add : ByteArray := prog_10_method_2_code
abbrev mi_Tb_add : MethodName × ByteArray × Nat × Option FieldType := (⟨"QueryFleet$Table", "add", "(III)I"⟩, b_Tb_add, 5, (Option.some Jvm.ClassFile.FieldType.int))
abbrev b_Tb_value : ByteArray := prog_10_method_3_code
abbrev mi_Tb_value : MethodName × ByteArray × Nat × Option FieldType := (⟨"QueryFleet$Table", "value", "(II)I"⟩, b_Tb_value, 3, (Option.some Jvm.ClassFile.FieldType.int))
abbrev b_Tb_isNull : ByteArray := prog_10_method_4_code
abbrev mi_Tb_isNull : MethodName × ByteArray × Nat × Option FieldType := (⟨"QueryFleet$Table", "isNull", "(II)Z"⟩, b_Tb_isNull, 3, (Option.some Jvm.ClassFile.FieldType.boolean))
abbrev b_Ta_init : ByteArray := prog_11_method_1_code
abbrev mi_Ta_init : MethodName × ByteArray × Nat × Option FieldType := (⟨"QueryFleet$Task", "<init>", "()V"⟩, b_Ta_init, 1, (Option.none : Option Jvm.ClassFile.FieldType))
abbrev b_Ta_clear : ByteArray := prog_11_method_2_code
abbrev mi_Ta_clear : MethodName × ByteArray × Nat × Option FieldType := (⟨"QueryFleet$Task", "clear", "(III)V"⟩, b_Ta_clear, 4, (Option.none : Option Jvm.ClassFile.FieldType))
abbrev b_Ta_tell : ByteArray := prog_11_method_3_code
abbrev mi_Ta_tell : MethodName × ByteArray × Nat × Option FieldType := (⟨"QueryFleet$Task", "tell", "(I)I"⟩, b_Ta_tell, 2, (Option.some Jvm.ClassFile.FieldType.int))
abbrev b_La_law : ByteArray := code
abbrev mi_La_law : MethodName × ByteArray × Nat × Option FieldType := (⟨"QueryFleetLaw", "law", "([I)Z"⟩, b_La_law, 4, (Option.some Jvm.ClassFile.FieldType.boolean : Option Jvm.ClassFile.FieldType))
abbrev b_JL_compare : ByteArray := prog_14_method_42_code
abbrev mi_JL_compare : MethodName × ByteArray × Nat × Option FieldType := (⟨"java/lang/Long", "compare", "(JJ)I"⟩, b_JL_compare, 4, (Option.some Jvm.ClassFile.FieldType.int))
abbrev b_JM_floorModI : ByteArray := prog_15_method_50_code
abbrev mi_JM_floorModI : MethodName × ByteArray × Nat × Option FieldType := (⟨"java/lang/Math", "floorMod", "(II)I"⟩, b_JM_floorModI, 3, (Option.some Jvm.ClassFile.FieldType.int))
abbrev b_JM_floorModJ : ByteArray := prog_15_method_52_code
abbrev mi_JM_floorModJ : MethodName × ByteArray × Nat × Option FieldType := (⟨"java/lang/Math", "floorMod", "(JJ)J"⟩, b_JM_floorModJ, 6, (Option.some Jvm.ClassFile.FieldType.long))
abbrev b_JM_maxJ : ByteArray := prog_15_method_66_code
abbrev mi_JM_maxJ : MethodName × ByteArray × Nat × Option FieldType := (⟨"java/lang/Math", "max", "(JJ)J"⟩, b_JM_maxJ, 4, (Option.some Jvm.ClassFile.FieldType.long))
abbrev b_JM_minI : ByteArray := prog_15_method_69_code
abbrev mi_JM_minI : MethodName × ByteArray × Nat × Option FieldType := (⟨"java/lang/Math", "min", "(II)I"⟩, b_JM_minI, 2, (Option.some Jvm.ClassFile.FieldType.int))
abbrev b_JM_minJ : ByteArray := prog_15_method_70_code
abbrev mi_JM_minJ : MethodName × ByteArray × Nat × Option FieldType := (⟨"java/lang/Math", "min", "(JJ)J"⟩, b_JM_minJ, 4, (Option.some Jvm.ClassFile.FieldType.long))
