def wq_X4_fetch : List Cond := .code yX4_fetch cX4_fetch 1 (some .boolean) :: ([.fieldLink RX4 9 "WorkspaceBox$Processor" "mode" "I"] ++ wsX40)
def wq_X6_run : List Cond := .code yX6_run cX6_run 3 (some .int) :: ([.fieldLink RX6 55 "WorkspaceBox" "processor" "LWorkspaceBox$Processor;", .methodLink RX6 102 yX4_fetch, .instanceMethod yX4_fetch, .selects RX4 yX4_fetch yX4_fetch, .initialized RX4, .code yX4_fetch cX4_fetch 1 (some .boolean), .fieldLink RX4 9 "WorkspaceBox$Processor" "mode" "I"] ++ wsX60 ++ wsX40)
set_option maxRecDepth 20000 in
theorem gX6_run_X4_fetch : GoodIn wq_X6_run (wsV RX6 102 RX4 yX4_fetch wq_X4_fetch) := goodIn_of _ (by decide +kernel)
def wq_L_run : List Cond := .codeWith yL_run cL_run 4 (some .int) [(0, 9, 12, 13)] :: ([.methodLink RL 7 yX6_run, .instanceMethod yX6_run, .selects RX6 yX6_run yX6_run, .initialized RX6] ++ wq_X6_run)
set_option maxRecDepth 20000 in
theorem gL_run_X6_run : GoodIn wq_L_run (wsV RL 7 RX6 yX6_run wq_X6_run) := goodIn_of _ (by decide +kernel)
def wq_X6_vram : List Cond := .code yX6_vram cX6_vram 2 (some .int) :: ([.fieldLink RX6 21 "WorkspaceBox" "picture" "LWorkspaceBox$Picture;", .fieldLink RX6 88 "WorkspaceBox$Picture" "cells" "LWorkspaceBox$Bytes;", .methodLink RX6 74 yX0_get, .instanceMethod yX0_get, .selects RX0 yX0_get yX0_get, .initialized RX0] ++ wsX60 ++ wsX30 ++ wsX0_get)
set_option maxRecDepth 20000 in
theorem gqX6_vram_X0_get : GoodIn wq_X6_vram (wsV RX6 74 RX0 yX0_get wsX0_get) := goodIn_of _ (by decide +kernel)
def wq_L_vram : List Cond := .codeWith yL_vram cL_vram 4 (some .int) [(0, 9, 12, 18)] :: ([.methodLink RL 15 yX6_vram, .instanceMethod yX6_vram, .selects RX6 yX6_vram yX6_vram, .initialized RX6] ++ wq_X6_vram)
set_option maxRecDepth 20000 in
theorem gL_vram_X6_vram : GoodIn wq_L_vram (wsV RL 15 RX6 yX6_vram wq_X6_vram) := goodIn_of _ (by decide +kernel)
theorem sp_thr_in {n : Int} {x : Int32} (h : 0 ≤ x.toInt ∧ x.toInt ≤ n) : sp_thr n x = 0 := if_pos h
theorem sp_thr_out {n : Int} {x : Int32} (h : ¬ (0 ≤ x.toInt ∧ x.toInt ≤ n)) : sp_thr n x = 1 := if_neg h

