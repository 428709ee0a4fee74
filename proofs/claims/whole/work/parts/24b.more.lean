set_option maxRecDepth 100000 in
theorem pg_wi : pg_c5.map (fun q => Cond.instantiable q.1 q.2.2.1) = ([541, 358, 214, 364, 285, 387, 370, 279, 245, 513, 435, 206, 1590] : List Nat).filterMap (fun i => lw_tbl[i]?) := rfl
set_option maxRecDepth 100000 in
theorem pg_wa : pg_tl.map (fun q => mj_aw q.1) = ([242, 243, 385, 1796, 220, 222, 356, 539] : List Nat).filterMap (fun i => lw_tbl[i]?) := rfl
set_option maxRecDepth 100000 in
theorem pg_ls : Cond.laysStatic "ArrayCalculator" "NO_NUMBERS" "[J" ∈ lw_tbl := List.mem_of_getElem? (i := 393) rfl
set_option maxRecDepth 100000 in
theorem pg_ini : Cond.initialized "ArrayCalculator" ∈ lw_tbl := List.mem_of_getElem? (i := 183) rfl
set_option maxRecDepth 100000 in
theorem pg_ls2 : Cond.laysStatic "java/lang/String" "COMPACT_STRINGS" "Z" ∈ lw_tbl := List.mem_of_getElem? (i := 774) rfl
set_option maxRecDepth 100000 in
theorem pg_ini2 : Cond.initialized "java/lang/String" ∈ lw_tbl := List.mem_of_getElem? (i := 197) rfl
set_option maxRecDepth 100000 in
theorem pg_sr1 : (Cond.stringRef "ArrayCalculator$Tokens" (108 : Nat) "+-*%&|<>=~!,#?@$^._") ∈ lw_tbl := List.mem_of_getElem? (i := 760) rfl
set_option maxRecDepth 100000 in
theorem pg_sr2 : (Cond.stringRef "ArrayCalculator$Tokens" (115 : Nat) ";()[]{}:") ∈ lw_tbl := List.mem_of_getElem? (i := 845) rfl
def pg_lo : Nat := 13
