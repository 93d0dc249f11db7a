def wl_source : List Cond := .codeWith yL_source cL_source 6 (some .int) [(0, 12, 15, 13), (0, 12, 19, 15)] :: ([.methodLink RL 7 yX4_source, .instanceMethod yX4_source, .selects RX4 yX4_source yX4_source, .initialized RX4, .classLink RL 13 "java/lang/IllegalArgumentException", .classLink RL 15 "java/lang/IllegalStateException"] ++ wsX4_source)
set_option maxRecDepth 100000 in
theorem gw_source : GoodIn wl_source (wsV RL 7 RX4 yX4_source wsX4_source) := goodIn_app (goodIn_of _ (by decide +kernel)) (goodIn_sub (fun _ h => List.mem_cons_of_mem _ (List.mem_append_right _ h)) (by decide +kernel))
def wl_move : List Cond := .codeWith yL_move cL_move 7 (some .int) [(0, 14, 17, 21), (0, 14, 21, 13)] :: ([.methodLink RL 17 yX4_move, .instanceMethod yX4_move, .selects RX4 yX4_move yX4_move, .initialized RX4, .classLink RL 21 "java/lang/IndexOutOfBoundsException", .classLink RL 13 "java/lang/IllegalArgumentException"] ++ wsX4_move)
set_option maxRecDepth 100000 in
theorem gw_move : GoodIn wl_move (wsV RL 17 RX4 yX4_move wsX4_move) := goodIn_app (goodIn_of _ (by decide +kernel)) (goodIn_sub (fun _ h => List.mem_cons_of_mem _ (List.mem_append_right _ h)) (by decide +kernel))
def wl_part : List Cond := .codeWith yL_part cL_part 5 (some .int) [(0, 10, 13, 13), (0, 10, 17, 15)] :: ([.methodLink RL 23 yX4_part, .instanceMethod yX4_part, .selects RX4 yX4_part yX4_part, .initialized RX4, .classLink RL 13 "java/lang/IllegalArgumentException", .classLink RL 15 "java/lang/IllegalStateException"] ++ wsX4_part)
set_option maxRecDepth 100000 in
theorem gw_part : GoodIn wl_part (wsV RL 23 RX4 yX4_part wsX4_part) := goodIn_app (goodIn_of _ (by decide +kernel)) (goodIn_sub (fun _ h => List.mem_cons_of_mem _ (List.mem_append_right _ h)) (by decide +kernel))
def wl_set : List Cond := .codeWith yL_set cL_set 5 (some .int) [(0, 10, 13, 21), (0, 10, 17, 13)] :: ([.methodLink RL 27 yX4_set, .instanceMethod yX4_set, .selects RX4 yX4_set yX4_set, .initialized RX4, .classLink RL 21 "java/lang/IndexOutOfBoundsException", .classLink RL 13 "java/lang/IllegalArgumentException"] ++ wsX4_set)
set_option maxRecDepth 100000 in
theorem gw_set : GoodIn wl_set (wsV RL 27 RX4 yX4_set wsX4_set) := goodIn_app (goodIn_of _ (by decide +kernel)) (goodIn_sub (fun _ h => List.mem_cons_of_mem _ (List.mem_append_right _ h)) (by decide +kernel))
def wl_put : List Cond := .codeWith yL_put cL_put 5 (some .int) [(0, 17, 20, 21)] :: ([.methodLink RL 30 yX4_put, .instanceMethod yX4_put, .selects RX4 yX4_put yX4_put, .initialized RX4, .classLink RL 21 "java/lang/IndexOutOfBoundsException"] ++ wsX4_put)
set_option maxRecDepth 100000 in
theorem gw_put : GoodIn wl_put (wsV RL 30 RX4 yX4_put wsX4_put) := goodIn_app (goodIn_of _ (by decide +kernel)) (goodIn_sub (fun _ h => List.mem_cons_of_mem _ (List.mem_append_right _ h)) (by decide +kernel))
def wl_dirt : List Cond := .codeWith yL_dirt cL_dirt 5 (some .int) [(0, 10, 13, 21), (0, 10, 17, 13)] :: ([.methodLink RL 34 yX4_dirt, .instanceMethod yX4_dirt, .selects RX4 yX4_dirt yX4_dirt, .initialized RX4, .classLink RL 21 "java/lang/IndexOutOfBoundsException", .classLink RL 13 "java/lang/IllegalArgumentException"] ++ wsX4_dirt)
set_option maxRecDepth 100000 in
theorem gw_dirt : GoodIn wl_dirt (wsV RL 34 RX4 yX4_dirt wsX4_dirt) := goodIn_app (goodIn_of _ (by decide +kernel)) (goodIn_sub (fun _ h => List.mem_cons_of_mem _ (List.mem_append_right _ h)) (by decide +kernel))
def wl_expose : List Cond := .codeWith yL_expose cL_expose 5 (some .int) [(0, 10, 13, 21), (0, 10, 17, 13), (0, 10, 21, 15)] :: ([.methodLink RL 37 yX4_expose, .instanceMethod yX4_expose, .selects RX4 yX4_expose yX4_expose, .initialized RX4, .classLink RL 21 "java/lang/IndexOutOfBoundsException", .classLink RL 13 "java/lang/IllegalArgumentException", .classLink RL 15 "java/lang/IllegalStateException"] ++ wsX4_expose)
set_option maxRecDepth 100000 in
theorem gw_expose : GoodIn wl_expose (wsV RL 37 RX4 yX4_expose wsX4_expose) := goodIn_app (goodIn_of _ (by decide +kernel)) (goodIn_sub (fun _ h => List.mem_cons_of_mem _ (List.mem_append_right _ h)) (by decide +kernel))
def wl_amplitude : List Cond := .codeWith yL_amplitude cL_amplitude 7 (some .int) [(0, 13, 16, 21), (0, 13, 20, 13)] :: ([.methodLink RL 40 yX4_amplitude, .instanceMethod yX4_amplitude, .selects RX4 yX4_amplitude yX4_amplitude, .initialized RX4, .classLink RL 21 "java/lang/IndexOutOfBoundsException", .classLink RL 13 "java/lang/IllegalArgumentException"] ++ wsX4_amplitude)
set_option maxRecDepth 100000 in
theorem gw_amplitude : GoodIn wl_amplitude (wsV RL 40 RX4 yX4_amplitude wsX4_amplitude) := goodIn_app (goodIn_of _ (by decide +kernel)) (goodIn_sub (fun _ h => List.mem_cons_of_mem _ (List.mem_append_right _ h)) (by decide +kernel))
def wl_whole : List Cond := .codeWith yL_whole cL_whole 5 (some .int) [(0, 9, 12, 21)] :: ([.methodLink RL 44 yX4_whole, .instanceMethod yX4_whole, .selects RX4 yX4_whole yX4_whole, .initialized RX4, .classLink RL 21 "java/lang/IndexOutOfBoundsException"] ++ wsX4_whole)
set_option maxRecDepth 100000 in
theorem gw_whole : GoodIn wl_whole (wsV RL 44 RX4 yX4_whole wsX4_whole) := goodIn_app (goodIn_of _ (by decide +kernel)) (goodIn_sub (fun _ h => List.mem_cons_of_mem _ (List.mem_append_right _ h)) (by decide +kernel))
def wl_root : List Cond := .codeWith yL_root cL_root 5 (some .int) [(0, 9, 12, 21)] :: ([.methodLink RL 48 yX4_root, .instanceMethod yX4_root, .selects RX4 yX4_root yX4_root, .initialized RX4, .classLink RL 21 "java/lang/IndexOutOfBoundsException"] ++ wsX4_root)
set_option maxRecDepth 100000 in
theorem gw_root : GoodIn wl_root (wsV RL 48 RX4 yX4_root wsX4_root) := goodIn_app (goodIn_of _ (by decide +kernel)) (goodIn_sub (fun _ h => List.mem_cons_of_mem _ (List.mem_append_right _ h)) (by decide +kernel))
def wl_power : List Cond := .codeWith yL_power cL_power 5 (some .int) [(0, 9, 12, 21)] :: ([.methodLink RL 51 yX4_power, .instanceMethod yX4_power, .selects RX4 yX4_power yX4_power, .initialized RX4, .classLink RL 21 "java/lang/IndexOutOfBoundsException"] ++ wsX4_power)
set_option maxRecDepth 100000 in
theorem gw_power : GoodIn wl_power (wsV RL 51 RX4 yX4_power wsX4_power) := goodIn_app (goodIn_of _ (by decide +kernel)) (goodIn_sub (fun _ h => List.mem_cons_of_mem _ (List.mem_append_right _ h)) (by decide +kernel))
def wl_brightest : List Cond := .codeWith yL_brightest cL_brightest 4 (some .int) [(0, 9, 12, 21)] :: ([.methodLink RL 55 yX4_brightest, .instanceMethod yX4_brightest, .selects RX4 yX4_brightest yX4_brightest, .initialized RX4, .classLink RL 21 "java/lang/IndexOutOfBoundsException"] ++ wsX4_brightest)
set_option maxRecDepth 100000 in
theorem gw_brightest : GoodIn wl_brightest (wsV RL 55 RX4 yX4_brightest wsX4_brightest) := goodIn_app (goodIn_of _ (by decide +kernel)) (goodIn_sub (fun _ h => List.mem_cons_of_mem _ (List.mem_append_right _ h)) (by decide +kernel))
def wl_dark : List Cond := .codeWith yL_dark cL_dark 4 (some .int) [(0, 9, 12, 21)] :: ([.methodLink RL 59 yX4_dark, .instanceMethod yX4_dark, .selects RX4 yX4_dark yX4_dark, .initialized RX4, .classLink RL 21 "java/lang/IndexOutOfBoundsException"] ++ wsX4_dark)
set_option maxRecDepth 100000 in
theorem gw_dark : GoodIn wl_dark (wsV RL 59 RX4 yX4_dark wsX4_dark) := goodIn_app (goodIn_of _ (by decide +kernel)) (goodIn_sub (fun _ h => List.mem_cons_of_mem _ (List.mem_append_right _ h)) (by decide +kernel))
def wl_period : List Cond := .codeWith yL_period cL_period 4 (some .int) [(0, 9, 12, 21)] :: ([.methodLink RL 62 yX4_period, .instanceMethod yX4_period, .selects RX4 yX4_period yX4_period, .initialized RX4, .classLink RL 21 "java/lang/IndexOutOfBoundsException"] ++ wsX4_period)
set_option maxRecDepth 100000 in
theorem gw_period : GoodIn wl_period (wsV RL 62 RX4 yX4_period wsX4_period) := goodIn_app (goodIn_of _ (by decide +kernel)) (goodIn_sub (fun _ h => List.mem_cons_of_mem _ (List.mem_append_right _ h)) (by decide +kernel))
def wl_clear : List Cond := .codeWith yL_clear cL_clear 4 (some .int) [(0, 8, 11, 21)] :: ([.methodLink RL 65 yX4_clear, .instanceMethod yX4_clear, .selects RX4 yX4_clear yX4_clear, .initialized RX4, .classLink RL 21 "java/lang/IndexOutOfBoundsException"] ++ wsX4_clear)
set_option maxRecDepth 100000 in
theorem gw_clear : GoodIn wl_clear (wsV RL 65 RX4 yX4_clear wsX4_clear) := goodIn_app (goodIn_of _ (by decide +kernel)) (goodIn_sub (fun _ h => List.mem_cons_of_mem _ (List.mem_append_right _ h)) (by decide +kernel))
def wl_tenths : List Cond := .codeWith yL_tenths cL_tenths 5 (some .int) [(0, 9, 12, 21)] :: ([.methodLink RL 69 yX4_tenths, .instanceMethod yX4_tenths, .selects RX4 yX4_tenths yX4_tenths, .initialized RX4, .classLink RL 21 "java/lang/IndexOutOfBoundsException"] ++ wsX4_tenths)
set_option maxRecDepth 100000 in
theorem gw_tenths : GoodIn wl_tenths (wsV RL 69 RX4 yX4_tenths wsX4_tenths) := goodIn_app (goodIn_of _ (by decide +kernel)) (goodIn_sub (fun _ h => List.mem_cons_of_mem _ (List.mem_append_right _ h)) (by decide +kernel))
def wl_loses : List Cond := .codeWith yL_loses cL_loses 4 (some .int) [(0, 8, 11, 21)] :: ([.methodLink RL 73 yX4_loses, .instanceMethod yX4_loses, .selects RX4 yX4_loses yX4_loses, .initialized RX4, .classLink RL 21 "java/lang/IndexOutOfBoundsException"] ++ wsX4_loses)
set_option maxRecDepth 100000 in
theorem gw_loses : GoodIn wl_loses (wsV RL 73 RX4 yX4_loses wsX4_loses) := goodIn_app (goodIn_of _ (by decide +kernel)) (goodIn_sub (fun _ h => List.mem_cons_of_mem _ (List.mem_append_right _ h)) (by decide +kernel))
def wl_ofPart : List Cond := .codeWith yL_ofPart cL_ofPart 5 (some .int) [(0, 10, 13, 21), (0, 10, 17, 13)] :: ([.methodLink RL 77 yX4_ofPart, .instanceMethod yX4_ofPart, .selects RX4 yX4_ofPart yX4_ofPart, .initialized RX4, .classLink RL 21 "java/lang/IndexOutOfBoundsException", .classLink RL 13 "java/lang/IllegalArgumentException"] ++ wsX4_ofPart)
set_option maxRecDepth 100000 in
theorem gw_ofPart : GoodIn wl_ofPart (wsV RL 77 RX4 yX4_ofPart wsX4_ofPart) := goodIn_app (goodIn_of _ (by decide +kernel)) (goodIn_sub (fun _ h => List.mem_cons_of_mem _ (List.mem_append_right _ h)) (by decide +kernel))
def wl_exposure : List Cond := .codeWith yL_exposure cL_exposure 5 (some .int) [(0, 10, 13, 21)] :: ([.methodLink RL 80 yX4_exposure, .instanceMethod yX4_exposure, .selects RX4 yX4_exposure yX4_exposure, .initialized RX4, .classLink RL 21 "java/lang/IndexOutOfBoundsException"] ++ wsX4_exposure)
set_option maxRecDepth 100000 in
theorem gw_exposure : GoodIn wl_exposure (wsV RL 80 RX4 yX4_exposure wsX4_exposure) := goodIn_app (goodIn_of _ (by decide +kernel)) (goodIn_sub (fun _ h => List.mem_cons_of_mem _ (List.mem_append_right _ h)) (by decide +kernel))
def wl_ofSource : List Cond := .codeWith yL_ofSource cL_ofSource 5 (some .int) [(0, 10, 13, 21), (0, 10, 17, 13)] :: ([.methodLink RL 83 yX4_ofSource, .instanceMethod yX4_ofSource, .selects RX4 yX4_ofSource yX4_ofSource, .initialized RX4, .classLink RL 21 "java/lang/IndexOutOfBoundsException", .classLink RL 13 "java/lang/IllegalArgumentException"] ++ wsX4_ofSource)
set_option maxRecDepth 100000 in
theorem gw_ofSource : GoodIn wl_ofSource (wsV RL 83 RX4 yX4_ofSource wsX4_ofSource) := goodIn_app (goodIn_of _ (by decide +kernel)) (goodIn_sub (fun _ h => List.mem_cons_of_mem _ (List.mem_append_right _ h)) (by decide +kernel))
def wl_many : List Cond := .codeWith yL_many cL_many 4 (some .int) [(0, 9, 12, 13)] :: ([.methodLink RL 86 yX4_many, .instanceMethod yX4_many, .selects RX4 yX4_many yX4_many, .initialized RX4, .classLink RL 13 "java/lang/IllegalArgumentException"] ++ wsX4_many)
set_option maxRecDepth 100000 in
theorem gw_many : GoodIn wl_many (wsV RL 86 RX4 yX4_many wsX4_many) := goodIn_app (goodIn_of _ (by decide +kernel)) (goodIn_sub (fun _ h => List.mem_cons_of_mem _ (List.mem_append_right _ h)) (by decide +kernel))
def wl_without : List Cond := .codeWith yL_without cL_without 5 (some .int) [(0, 9, 12, 21)] :: ([.methodLink RL 89 yX4_without, .instanceMethod yX4_without, .selects RX4 yX4_without yX4_without, .initialized RX4, .classLink RL 21 "java/lang/IndexOutOfBoundsException"] ++ wsX4_without)
set_option maxRecDepth 100000 in
theorem gw_without : GoodIn wl_without (wsV RL 89 RX4 yX4_without wsX4_without) := goodIn_app (goodIn_of _ (by decide +kernel)) (goodIn_sub (fun _ h => List.mem_cons_of_mem _ (List.mem_append_right _ h)) (by decide +kernel))
def wl_best : List Cond := .codeWith yL_best cL_best 5 (some .int) [(0, 10, 13, 21)] :: ([.methodLink RL 92 yX4_best, .instanceMethod yX4_best, .selects RX4 yX4_best yX4_best, .initialized RX4, .classLink RL 21 "java/lang/IndexOutOfBoundsException"] ++ wsX4_best)
set_option maxRecDepth 100000 in
theorem gw_best : GoodIn wl_best (wsV RL 92 RX4 yX4_best wsX4_best) := goodIn_app (goodIn_of _ (by decide +kernel)) (goodIn_sub (fun _ h => List.mem_cons_of_mem _ (List.mem_append_right _ h)) (by decide +kernel))
def wl_alone : List Cond := .codeWith yL_alone cL_alone 4 (some .int) [(0, 9, 12, 21)] :: ([.methodLink RL 95 yX4_alone, .instanceMethod yX4_alone, .selects RX4 yX4_alone yX4_alone, .initialized RX4, .classLink RL 21 "java/lang/IndexOutOfBoundsException"] ++ wsX4_alone)
set_option maxRecDepth 100000 in
theorem gw_alone : GoodIn wl_alone (wsV RL 95 RX4 yX4_alone wsX4_alone) := goodIn_app (goodIn_of _ (by decide +kernel)) (goodIn_sub (fun _ h => List.mem_cons_of_mem _ (List.mem_append_right _ h)) (by decide +kernel))