set_option maxRecDepth 100000 in
theorem pg_wi : pg_c5.map (fun q => Cond.instantiable q.1 q.2.2.1) = ([445, 358, 214, 364, 285, 406, 370, 279, 245, 400, 536, 206, 1535] : List Nat).filterMap (fun i => lw_tbl[i]?) := rfl
set_option maxRecDepth 100000 in
theorem pg_wa : pg_tl.map (fun q => mj_aw q.1) = ([242, 243, 385, 1741, 220, 222, 356, 443] : List Nat).filterMap (fun i => lw_tbl[i]?) := rfl
set_option maxRecDepth 100000 in
theorem pg_ls : Cond.laysStatic "ArrayCalculator" "NO_NUMBERS" "[J" ∈ lw_tbl := List.mem_of_getElem? (i := 538) rfl
set_option maxRecDepth 100000 in
theorem pg_ini : Cond.initialized "ArrayCalculator" ∈ lw_tbl := List.mem_of_getElem? (i := 183) rfl
def pg_lo : Nat := 13
