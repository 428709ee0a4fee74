set_option maxRecDepth 100000 in
theorem pg_wi : pg_c5.map (fun q => Cond.instantiable q.1 q.2.2.1) = ([540, 357, 213, 363, 284, 386, 369, 278, 244, 512, 434, 205, 1585] : List Nat).filterMap (fun i => lw_tbl[i]?) := rfl
set_option maxRecDepth 100000 in
theorem pg_wa : pg_tl.map (fun q => mj_aw q.1) = ([241, 242, 384, 1791, 219, 221, 355, 538] : List Nat).filterMap (fun i => lw_tbl[i]?) := rfl
set_option maxRecDepth 100000 in
theorem pg_ls : Cond.laysStatic "ArrayCalculator" "NO_NUMBERS" "[J" ∈ lw_tbl := List.mem_of_getElem? (i := 392) rfl
set_option maxRecDepth 100000 in
theorem pg_ini : Cond.initialized "ArrayCalculator" ∈ lw_tbl := List.mem_of_getElem? (i := 182) rfl
set_option maxRecDepth 100000 in
theorem pg_ls2 : Cond.laysStatic "java/lang/String" "COMPACT_STRINGS" "Z" ∈ lw_tbl := List.mem_of_getElem? (i := 773) rfl
set_option maxRecDepth 100000 in
theorem pg_ini2 : Cond.initialized "java/lang/String" ∈ lw_tbl := List.mem_of_getElem? (i := 196) rfl
set_option maxRecDepth 100000 in
theorem pg_sr1 : (Cond.stringRef "ArrayCalculator$Tokens" (108 : Nat) "+-*%&|<>=~!,#?@$^._") ∈ lw_tbl := List.mem_of_getElem? (i := 759) rfl
set_option maxRecDepth 100000 in
theorem pg_sr2 : (Cond.stringRef "ArrayCalculator$Tokens" (115 : Nat) ";()[]{}:") ∈ lw_tbl := List.mem_of_getElem? (i := 844) rfl
def pg_lo : Nat := 13
