/-! what the tables say of the links (own work, written by wip/tools/mk_facts.py) -/
theorem in_X1 : ∀ w ∈ u_ws RX1 TX1 2, w ∈ am_W := by
  intro w hw
  obtain ⟨k, hk, rfl⟩ := List.mem_map.mp hw
  have hk := List.mem_range.mp hk
  match k, hk with
  | 0, _ => exact (am_in (i := 97) (by decide +kernel) (by decide +kernel))
  | 1, _ => exact (am_in (i := 99) (by decide +kernel) (by decide +kernel))
  | k + 2, h => exact absurd h (by omega)
theorem cl_X1 : am_Cl 0 RX1 TX1 2 tyX1 := ⟨rfl, in_X1, tyX1_ok, nmX1⟩
theorem in_X2 : ∀ w ∈ u_ws RX2 TX2 12, w ∈ am_W := by
  intro w hw
  obtain ⟨k, hk, rfl⟩ := List.mem_map.mp hw
  have hk := List.mem_range.mp hk
  match k, hk with
  | 0, _ => exact (am_in (i := 59) (by decide +kernel) (by decide +kernel))
  | 1, _ => exact (am_in (i := 61) (by decide +kernel) (by decide +kernel))
  | 2, _ => exact (am_in (i := 63) (by decide +kernel) (by decide +kernel))
  | 3, _ => exact (am_in (i := 65) (by decide +kernel) (by decide +kernel))
  | 4, _ => exact (am_in (i := 67) (by decide +kernel) (by decide +kernel))
  | 5, _ => exact (am_in (i := 69) (by decide +kernel) (by decide +kernel))
  | 6, _ => exact (am_in (i := 71) (by decide +kernel) (by decide +kernel))
  | 7, _ => exact (am_in (i := 73) (by decide +kernel) (by decide +kernel))
  | 8, _ => exact (am_in (i := 75) (by decide +kernel) (by decide +kernel))
  | 9, _ => exact (am_in (i := 77) (by decide +kernel) (by decide +kernel))
  | 10, _ => exact (am_in (i := 79) (by decide +kernel) (by decide +kernel))
  | 11, _ => exact (am_in (i := 81) (by decide +kernel) (by decide +kernel))
  | k + 12, h => exact absurd h (by omega)
theorem cl_X2 : am_Cl 1 RX2 TX2 12 tyX2 := ⟨rfl, in_X2, tyX2_ok, nmX2⟩
theorem in_X4 : ∀ w ∈ u_ws RX4 TX4 2, w ∈ am_W := by
  intro w hw
  obtain ⟨k, hk, rfl⟩ := List.mem_map.mp hw
  have hk := List.mem_range.mp hk
  match k, hk with
  | 0, _ => exact (am_in (i := 123) (by decide +kernel) (by decide +kernel))
  | 1, _ => exact (am_in (i := 125) (by decide +kernel) (by decide +kernel))
  | k + 2, h => exact absurd h (by omega)
theorem cl_X4 : am_Cl 2 RX4 TX4 2 tyX4 := ⟨rfl, in_X4, tyX4_ok, nmX4⟩
theorem in_X5 : ∀ w ∈ u_ws RX5 TX5 2, w ∈ am_W := by
  intro w hw
  obtain ⟨k, hk, rfl⟩ := List.mem_map.mp hw
  have hk := List.mem_range.mp hk
  match k, hk with
  | 0, _ => exact (am_in (i := 111) (by decide +kernel) (by decide +kernel))
  | 1, _ => exact (am_in (i := 113) (by decide +kernel) (by decide +kernel))
  | k + 2, h => exact absurd h (by omega)
theorem cl_X5 : am_Cl 3 RX5 TX5 2 tyX5 := ⟨rfl, in_X5, tyX5_ok, nmX5⟩
theorem in_X6 : ∀ w ∈ u_ws RX6 TX6 7, w ∈ am_W := by
  intro w hw
  obtain ⟨k, hk, rfl⟩ := List.mem_map.mp hw
  have hk := List.mem_range.mp hk
  match k, hk with
  | 0, _ => exact (am_in (i := 136) (by decide +kernel) (by decide +kernel))
  | 1, _ => exact (am_in (i := 138) (by decide +kernel) (by decide +kernel))
  | 2, _ => exact (am_in (i := 140) (by decide +kernel) (by decide +kernel))
  | 3, _ => exact (am_in (i := 142) (by decide +kernel) (by decide +kernel))
  | 4, _ => exact (am_in (i := 144) (by decide +kernel) (by decide +kernel))
  | 5, _ => exact (am_in (i := 146) (by decide +kernel) (by decide +kernel))
  | 6, _ => exact (am_in (i := 148) (by decide +kernel) (by decide +kernel))
  | k + 7, h => exact absurd h (by omega)
theorem cl_X6 : am_Cl 4 RX6 TX6 7 tyX6 := ⟨rfl, in_X6, tyX6_ok, nmX6⟩
abbrev kX1_init : Cond := .code yX1_init cX1_init 2 none
theorem l0_X1_init : am_L0 kX1_init yX1_init 0 := ⟨am_in (i := 89) (by decide +kernel) (by decide +kernel), (am_in (i := 15) (by decide +kernel) (by decide +kernel)), by decide +kernel, by decide +kernel, by decide +kernel⟩
theorem pl_X1_init : plainName yX1_init.cls = true := by decide +kernel
abbrev kX1_push : Cond := .code yX1_push cX1_push 2 none
theorem l0_X1_push : am_L0 kX1_push yX1_push 1 := ⟨am_in (i := 451) (by decide +kernel) (by decide +kernel), (am_in (i := 15) (by decide +kernel) (by decide +kernel)), by decide +kernel, by decide +kernel, by decide +kernel⟩
theorem pl_X1_push : plainName yX1_push.cls = true := by decide +kernel
abbrev kX1_dropOldest : Cond := .code yX1_dropOldest cX1_dropOldest 3 none
theorem l0_X1_dropOldest : am_L0 kX1_dropOldest yX1_dropOldest 0 := ⟨am_in (i := 455) (by decide +kernel) (by decide +kernel), (am_in (i := 15) (by decide +kernel) (by decide +kernel)), by decide +kernel, by decide +kernel, by decide +kernel⟩
theorem pl_X1_dropOldest : plainName yX1_dropOldest.cls = true := by decide +kernel
abbrev kX2_init : Cond := .code yX2_init cX2_init 2 none
theorem l0_X2_init : am_L0 kX2_init yX2_init 0 := ⟨am_in (i := 38) (by decide +kernel) (by decide +kernel), (am_in (i := 14) (by decide +kernel) (by decide +kernel)), by decide +kernel, by decide +kernel, by decide +kernel⟩
theorem pl_X2_init : plainName yX2_init.cls = true := by decide +kernel
abbrev kX2_copy : Cond := .code yX2_copy cX2_copy 2 none
theorem l0_X2_copy : am_L0 kX2_copy yX2_copy 2 := ⟨am_in (i := 458) (by decide +kernel) (by decide +kernel), (am_in (i := 14) (by decide +kernel) (by decide +kernel)), by decide +kernel, by decide +kernel, by decide +kernel⟩
theorem pl_X2_copy : plainName yX2_copy.cls = true := by decide +kernel
abbrev kX2_become : Cond := .code yX2_become cX2_become 2 none
theorem l0_X2_become : am_L0 kX2_become yX2_become 1 := ⟨am_in (i := 462) (by decide +kernel) (by decide +kernel), (am_in (i := 14) (by decide +kernel) (by decide +kernel)), by decide +kernel, by decide +kernel, by decide +kernel⟩
theorem pl_X2_become : plainName yX2_become.cls = true := by decide +kernel
abbrev kX2_isIslander : Cond := .code yX2_isIslander cX2_isIslander 1 (some .boolean)
theorem l0_X2_isIslander : am_L0 kX2_isIslander yX2_isIslander 1 := ⟨am_in (i := 241) (by decide +kernel) (by decide +kernel), (am_in (i := 14) (by decide +kernel) (by decide +kernel)), by decide +kernel, by decide +kernel, by decide +kernel⟩
theorem pl_X2_isIslander : plainName yX2_isIslander.cls = true := by decide +kernel
abbrev kX2_isColour : Cond := .code yX2_isColour cX2_isColour 1 (some .boolean)
theorem l0_X2_isColour : am_L0 kX2_isColour yX2_isColour 1 := ⟨am_in (i := 271) (by decide +kernel) (by decide +kernel), (am_in (i := 14) (by decide +kernel) (by decide +kernel)), by decide +kernel, by decide +kernel, by decide +kernel⟩
theorem pl_X2_isColour : plainName yX2_isColour.cls = true := by decide +kernel
abbrev kX2_isPromise : Cond := .code yX2_isPromise cX2_isPromise 2 (some .boolean)
theorem l0_X2_isPromise : am_L0 kX2_isPromise yX2_isPromise 1 := ⟨am_in (i := 324) (by decide +kernel) (by decide +kernel), (am_in (i := 14) (by decide +kernel) (by decide +kernel)), by decide +kernel, by decide +kernel, by decide +kernel⟩
theorem pl_X2_isPromise : plainName yX2_isPromise.cls = true := by decide +kernel
abbrev kX2_capsOf : Cond := .code yX2_capsOf cX2_capsOf 3 (some .int)
theorem l0_X2_capsOf : am_L0 kX2_capsOf yX2_capsOf 2 := ⟨am_in (i := 268) (by decide +kernel) (by decide +kernel), (am_in (i := 14) (by decide +kernel) (by decide +kernel)), by decide +kernel, by decide +kernel, by decide +kernel⟩
theorem pl_X2_capsOf : plainName yX2_capsOf.cls = true := by decide +kernel
abbrev kX2_hand : Cond := .code yX2_hand cX2_hand 5 none
theorem l0_X2_hand : am_L0 kX2_hand yX2_hand 4 := ⟨am_in (i := 513) (by decide +kernel) (by decide +kernel), (am_in (i := 14) (by decide +kernel) (by decide +kernel)), by decide +kernel, by decide +kernel, by decide +kernel⟩
theorem pl_X2_hand : plainName yX2_hand.cls = true := by decide +kernel
abbrev kX2_worthOf : Cond := .code yX2_worthOf cX2_worthOf 2 (some .int)
theorem l0_X2_worthOf : am_L0 kX2_worthOf yX2_worthOf 1 := ⟨am_in (i := 275) (by decide +kernel) (by decide +kernel), (am_in (i := 14) (by decide +kernel) (by decide +kernel)), by decide +kernel, by decide +kernel, by decide +kernel⟩
theorem pl_X2_worthOf : plainName yX2_worthOf.cls = true := by decide +kernel
abbrev kX2_makeWorth : Cond := .code yX2_makeWorth cX2_makeWorth 3 none
theorem l0_X2_makeWorth : am_L0 kX2_makeWorth yX2_makeWorth 2 := ⟨am_in (i := 554) (by decide +kernel) (by decide +kernel), (am_in (i := 14) (by decide +kernel) (by decide +kernel)), by decide +kernel, by decide +kernel, by decide +kernel⟩
theorem pl_X2_makeWorth : plainName yX2_makeWorth.cls = true := by decide +kernel
abbrev kX2_purseWorth : Cond := .code yX2_purseWorth cX2_purseWorth 4 (some .int)
theorem l0_X2_purseWorth : am_L0 kX2_purseWorth yX2_purseWorth 1 := ⟨am_in (i := 264) (by decide +kernel) (by decide +kernel), (am_in (i := 14) (by decide +kernel) (by decide +kernel)), by decide +kernel, by decide +kernel, by decide +kernel⟩
theorem pl_X2_purseWorth : plainName yX2_purseWorth.cls = true := by decide +kernel
abbrev kX2_allCaps : Cond := .code yX2_allCaps cX2_allCaps 3 (some .int)
theorem l0_X2_allCaps : am_L0 kX2_allCaps yX2_allCaps 0 := ⟨am_in (i := 352) (by decide +kernel) (by decide +kernel), (am_in (i := 14) (by decide +kernel) (by decide +kernel)), by decide +kernel, by decide +kernel, by decide +kernel⟩
theorem pl_X2_allCaps : plainName yX2_allCaps.cls = true := by decide +kernel
abbrev kX2_allWorth : Cond := .code yX2_allWorth cX2_allWorth 3 (some .int)
theorem l0_X2_allWorth : am_L0 kX2_allWorth yX2_allWorth 0 := ⟨am_in (i := 356) (by decide +kernel) (by decide +kernel), (am_in (i := 14) (by decide +kernel) (by decide +kernel)), by decide +kernel, by decide +kernel, by decide +kernel⟩
theorem pl_X2_allWorth : plainName yX2_allWorth.cls = true := by decide +kernel
abbrev kX2_canStorm : Cond := .code yX2_canStorm cX2_canStorm 1 (some .boolean)
theorem l0_X2_canStorm : am_L0 kX2_canStorm yX2_canStorm 0 := ⟨am_in (i := 431) (by decide +kernel) (by decide +kernel), (am_in (i := 14) (by decide +kernel) (by decide +kernel)), by decide +kernel, by decide +kernel, by decide +kernel⟩
theorem pl_X2_canStorm : plainName yX2_canStorm.cls = true := by decide +kernel
abbrev kX2_blow : Cond := .code yX2_blow cX2_blow 3 (some .int)
theorem l0_X2_blow : am_L0 kX2_blow yX2_blow 0 := ⟨am_in (i := 469) (by decide +kernel) (by decide +kernel), (am_in (i := 14) (by decide +kernel) (by decide +kernel)), by decide +kernel, by decide +kernel, by decide +kernel⟩
theorem pl_X2_blow : plainName yX2_blow.cls = true := by decide +kernel
abbrev kX2_breakPromises : Cond := .code yX2_breakPromises cX2_breakPromises 3 (some .int)
theorem l0_X2_breakPromises : am_L0 kX2_breakPromises yX2_breakPromises 0 := ⟨am_in (i := 473) (by decide +kernel) (by decide +kernel), (am_in (i := 14) (by decide +kernel) (by decide +kernel)), by decide +kernel, by decide +kernel, by decide +kernel⟩
theorem pl_X2_breakPromises : plainName yX2_breakPromises.cls = true := by decide +kernel
abbrev kX2_leadsTo : Cond := .code yX2_leadsTo cX2_leadsTo 2 (some .int)
theorem l0_X2_leadsTo : am_L0 kX2_leadsTo yX2_leadsTo 1 := ⟨am_in (i := 238) (by decide +kernel) (by decide +kernel), (am_in (i := 14) (by decide +kernel) (by decide +kernel)), by decide +kernel, by decide +kernel, by decide +kernel⟩
theorem pl_X2_leadsTo : plainName yX2_leadsTo.cls = true := by decide +kernel
abbrev kX2_swapPaths : Cond := .code yX2_swapPaths cX2_swapPaths 4 none
theorem l0_X2_swapPaths : am_L0 kX2_swapPaths yX2_swapPaths 2 := ⟨am_in (i := 490) (by decide +kernel) (by decide +kernel), (am_in (i := 14) (by decide +kernel) (by decide +kernel)), by decide +kernel, by decide +kernel, by decide +kernel⟩
theorem pl_X2_swapPaths : plainName yX2_swapPaths.cls = true := by decide +kernel
abbrev kX2_along : Cond := .code yX2_along cX2_along 5 (some .int)
theorem l0_X2_along : am_L0 kX2_along yX2_along 2 := ⟨am_in (i := 252) (by decide +kernel) (by decide +kernel), (am_in (i := 14) (by decide +kernel) (by decide +kernel)), by decide +kernel, by decide +kernel, by decide +kernel⟩
theorem pl_X2_along : plainName yX2_along.cls = true := by decide +kernel
abbrev kX2_senderTo : Cond := .code yX2_senderTo cX2_senderTo 3 (some .int)
theorem l0_X2_senderTo : am_L0 kX2_senderTo yX2_senderTo 1 := ⟨am_in (i := 399) (by decide +kernel) (by decide +kernel), (am_in (i := 14) (by decide +kernel) (by decide +kernel)), by decide +kernel, by decide +kernel, by decide +kernel⟩
theorem pl_X2_senderTo : plainName yX2_senderTo.cls = true := by decide +kernel
abbrev kX2_circle : Cond := .code yX2_circle cX2_circle 4 (some .int)
theorem l0_X2_circle : am_L0 kX2_circle yX2_circle 1 := ⟨am_in (i := 234) (by decide +kernel) (by decide +kernel), (am_in (i := 14) (by decide +kernel) (by decide +kernel)), by decide +kernel, by decide +kernel, by decide +kernel⟩
theorem pl_X2_circle : plainName yX2_circle.cls = true := by decide +kernel
abbrev kX2_partOf : Cond := .code yX2_partOf cX2_partOf 3 (some .int)
theorem l0_X2_partOf : am_L0 kX2_partOf yX2_partOf 2 := ⟨am_in (i := 320) (by decide +kernel) (by decide +kernel), (am_in (i := 14) (by decide +kernel) (by decide +kernel)), by decide +kernel, by decide +kernel, by decide +kernel⟩
theorem pl_X2_partOf : plainName yX2_partOf.cls = true := by decide +kernel
abbrev kX2_makePromise : Cond := .code yX2_makePromise cX2_makePromise 6 (some .int)
theorem l0_X2_makePromise : am_L0 kX2_makePromise yX2_makePromise 4 := ⟨am_in (i := 521) (by decide +kernel) (by decide +kernel), (am_in (i := 14) (by decide +kernel) (by decide +kernel)), by decide +kernel, by decide +kernel, by decide +kernel⟩
theorem pl_X2_makePromise : plainName yX2_makePromise.cls = true := by decide +kernel
abbrev kX2_dropPromise : Cond := .code yX2_dropPromise cX2_dropPromise 3 none
theorem l0_X2_dropPromise : am_L0 kX2_dropPromise yX2_dropPromise 1 := ⟨am_in (i := 477) (by decide +kernel) (by decide +kernel), (am_in (i := 14) (by decide +kernel) (by decide +kernel)), by decide +kernel, by decide +kernel, by decide +kernel⟩
theorem pl_X2_dropPromise : plainName yX2_dropPromise.cls = true := by decide +kernel
abbrev kX2_sumOf : Cond := .code yX2_sumOf cX2_sumOf 5 (some .int)
theorem l0_X2_sumOf : am_L0 kX2_sumOf yX2_sumOf 2 := ⟨am_in (i := 316) (by decide +kernel) (by decide +kernel), (am_in (i := 14) (by decide +kernel) (by decide +kernel)), by decide +kernel, by decide +kernel, by decide +kernel⟩
theorem pl_X2_sumOf : plainName yX2_sumOf.cls = true := by decide +kernel
abbrev kX4_init : Cond := .code yX4_init cX4_init 1 none
theorem l0_X4_init : am_L0 kX4_init yX4_init 0 := ⟨am_in (i := 120) (by decide +kernel) (by decide +kernel), (am_in (i := 17) (by decide +kernel) (by decide +kernel)), by decide +kernel, by decide +kernel, by decide +kernel⟩
theorem pl_X4_init : plainName yX4_init.cls = true := by decide +kernel
abbrev kX5_init : Cond := .code yX5_init cX5_init 1 none
theorem l0_X5_init : am_L0 kX5_init yX5_init 0 := ⟨am_in (i := 106) (by decide +kernel) (by decide +kernel), (am_in (i := 16) (by decide +kernel) (by decide +kernel)), by decide +kernel, by decide +kernel, by decide +kernel⟩
theorem pl_X5_init : plainName yX5_init.cls = true := by decide +kernel
abbrev kX5_leastByColours : Cond := .code yX5_leastByColours cX5_leastByColours 5 (some .int)
theorem l0_X5_leastByColours : am_L0 kX5_leastByColours yX5_leastByColours 3 := ⟨am_in (i := 380) (by decide +kernel) (by decide +kernel), (am_in (i := 16) (by decide +kernel) (by decide +kernel)), by decide +kernel, by decide +kernel, by decide +kernel⟩
theorem pl_X5_leastByColours : plainName yX5_leastByColours.cls = true := by decide +kernel
abbrev kX5_addColour : Cond := .code yX5_addColour cX5_addColour 6 none
theorem l0_X5_addColour : am_L0 kX5_addColour yX5_addColour 3 := ⟨am_in (i := 387) (by decide +kernel) (by decide +kernel), (am_in (i := 16) (by decide +kernel) (by decide +kernel)), by decide +kernel, by decide +kernel, by decide +kernel⟩
theorem pl_X5_addColour : plainName yX5_addColour.cls = true := by decide +kernel
abbrev kX5_leastByTrying : Cond := .code yX5_leastByTrying cX5_leastByTrying 11 (some .int)
theorem l0_X5_leastByTrying : am_L0 kX5_leastByTrying yX5_leastByTrying 3 := ⟨am_in (i := 407) (by decide +kernel) (by decide +kernel), (am_in (i := 16) (by decide +kernel) (by decide +kernel)), by decide +kernel, by decide +kernel, by decide +kernel⟩
theorem pl_X5_leastByTrying : plainName yX5_leastByTrying.cls = true := by decide +kernel
abbrev kX5_wholeCaps : Cond := .code yX5_wholeCaps cX5_wholeCaps 2 (some .int)
theorem l0_X5_wholeCaps : am_L0 kX5_wholeCaps yX5_wholeCaps 2 := ⟨am_in (i := 410) (by decide +kernel) (by decide +kernel), (am_in (i := 16) (by decide +kernel) (by decide +kernel)), by decide +kernel, by decide +kernel, by decide +kernel⟩
theorem pl_X5_wholeCaps : plainName yX5_wholeCaps.cls = true := by decide +kernel
abbrev kX5_note : Cond := .code yX5_note cX5_note 5 none
theorem l0_X5_note : am_L0 kX5_note yX5_note 4 := ⟨am_in (i := 414) (by decide +kernel) (by decide +kernel), (am_in (i := 16) (by decide +kernel) (by decide +kernel)), by decide +kernel, by decide +kernel, by decide +kernel⟩
theorem pl_X5_note : plainName yX5_note.cls = true := by decide +kernel
abbrev kX6_init : Cond := .code yX6_init cX6_init 2 none
theorem l0_X6_init : am_L0 kX6_init yX6_init 0 := ⟨am_in (i := 30) (by decide +kernel) (by decide +kernel), (am_in (i := 13) (by decide +kernel) (by decide +kernel)), by decide +kernel, by decide +kernel, by decide +kernel⟩
theorem pl_X6_init : plainName yX6_init.cls = true := by decide +kernel
abbrev kX6_storm : Cond := .code yX6_storm cX6_storm 1 (some .int)
theorem l0_X6_storm : am_L0 kX6_storm yX6_storm 0 := ⟨am_in (i := 427) (by decide +kernel) (by decide +kernel), (am_in (i := 13) (by decide +kernel) (by decide +kernel)), by decide +kernel, by decide +kernel, by decide +kernel⟩
theorem pl_X6_storm : plainName yX6_storm.cls = true := by decide +kernel
abbrev kX6_cross : Cond := .code yX6_cross cX6_cross 3 (some .int)
theorem l0_X6_cross : am_L0 kX6_cross yX6_cross 2 := ⟨am_in (i := 486) (by decide +kernel) (by decide +kernel), (am_in (i := 13) (by decide +kernel) (by decide +kernel)), by decide +kernel, by decide +kernel, by decide +kernel⟩
theorem pl_X6_cross : plainName yX6_cross.cls = true := by decide +kernel
abbrev kX6_trade : Cond := .code yX6_trade cX6_trade 8 (some .int)
theorem l0_X6_trade : am_L0 kX6_trade yX6_trade 6 := ⟨am_in (i := 497) (by decide +kernel) (by decide +kernel), (am_in (i := 13) (by decide +kernel) (by decide +kernel)), by decide +kernel, by decide +kernel, by decide +kernel⟩
theorem pl_X6_trade : plainName yX6_trade.cls = true := by decide +kernel
abbrev kX6_worth : Cond := .code yX6_worth cX6_worth 4 (some .int)
theorem l0_X6_worth : am_L0 kX6_worth yX6_worth 2 := ⟨am_in (i := 550) (by decide +kernel) (by decide +kernel), (am_in (i := 13) (by decide +kernel) (by decide +kernel)), by decide +kernel, by decide +kernel, by decide +kernel⟩
theorem pl_X6_worth : plainName yX6_worth.cls = true := by decide +kernel
abbrev kX6_set : Cond := .code yX6_set cX6_set 3 (some .int)
theorem l0_X6_set : am_L0 kX6_set yX6_set 1 := ⟨am_in (i := 558) (by decide +kernel) (by decide +kernel), (am_in (i := 13) (by decide +kernel) (by decide +kernel)), by decide +kernel, by decide +kernel, by decide +kernel⟩
theorem pl_X6_set : plainName yX6_set.cls = true := by decide +kernel
abbrev kX6_promise : Cond := .code yX6_promise cX6_promise 5 (some .int)
theorem l0_X6_promise : am_L0 kX6_promise yX6_promise 4 := ⟨am_in (i := 517) (by decide +kernel) (by decide +kernel), (am_in (i := 13) (by decide +kernel) (by decide +kernel)), by decide +kernel, by decide +kernel, by decide +kernel⟩
theorem pl_X6_promise : plainName yX6_promise.cls = true := by decide +kernel
abbrev kX6_fulfil : Cond := .code yX6_fulfil cX6_fulfil 2 (some .int)
theorem l0_X6_fulfil : am_L0 kX6_fulfil yX6_fulfil 1 := ⟨am_in (i := 528) (by decide +kernel) (by decide +kernel), (am_in (i := 13) (by decide +kernel) (by decide +kernel)), by decide +kernel, by decide +kernel, by decide +kernel⟩
theorem pl_X6_fulfil : plainName yX6_fulfil.cls = true := by decide +kernel
abbrev kX6_keep : Cond := .code yX6_keep cX6_keep 2 (some .int)
theorem l0_X6_keep : am_L0 kX6_keep yX6_keep 1 := ⟨am_in (i := 540) (by decide +kernel) (by decide +kernel), (am_in (i := 13) (by decide +kernel) (by decide +kernel)), by decide +kernel, by decide +kernel, by decide +kernel⟩
theorem pl_X6_keep : plainName yX6_keep.cls = true := by decide +kernel
abbrev kX6_goBack : Cond := .code yX6_goBack cX6_goBack 2 (some .int)
theorem l0_X6_goBack : am_L0 kX6_goBack yX6_goBack 1 := ⟨am_in (i := 545) (by decide +kernel) (by decide +kernel), (am_in (i := 13) (by decide +kernel) (by decide +kernel)), by decide +kernel, by decide +kernel, by decide +kernel⟩
theorem pl_X6_goBack : plainName yX6_goBack.cls = true := by decide +kernel
abbrev kX6_caps : Cond := .code yX6_caps cX6_caps 3 (some .int)
theorem l0_X6_caps : am_L0 kX6_caps yX6_caps 2 := ⟨am_in (i := 329) (by decide +kernel) (by decide +kernel), (am_in (i := 13) (by decide +kernel) (by decide +kernel)), by decide +kernel, by decide +kernel, by decide +kernel⟩
theorem pl_X6_caps : plainName yX6_caps.cls = true := by decide +kernel
abbrev kX6_islanderOf : Cond := .code yX6_islanderOf cX6_islanderOf 3 (some .int)
theorem l0_X6_islanderOf : am_L0 kX6_islanderOf yX6_islanderOf 2 := ⟨am_in (i := 291) (by decide +kernel) (by decide +kernel), (am_in (i := 13) (by decide +kernel) (by decide +kernel)), by decide +kernel, by decide +kernel, by decide +kernel⟩
theorem pl_X6_islanderOf : plainName yX6_islanderOf.cls = true := by decide +kernel
abbrev kX6_promiseOf : Cond := .code yX6_promiseOf cX6_promiseOf 3 (some .int)
theorem l0_X6_promiseOf : am_L0 kX6_promiseOf yX6_promiseOf 2 := ⟨am_in (i := 370) (by decide +kernel) (by decide +kernel), (am_in (i := 13) (by decide +kernel) (by decide +kernel)), by decide +kernel, by decide +kernel, by decide +kernel⟩
theorem pl_X6_promiseOf : plainName yX6_promiseOf.cls = true := by decide +kernel
abbrev kX6_owed : Cond := .code yX6_owed cX6_owed 5 (some .int)
theorem l0_X6_owed : am_L0 kX6_owed yX6_owed 2 := ⟨am_in (i := 339) (by decide +kernel) (by decide +kernel), (am_in (i := 13) (by decide +kernel) (by decide +kernel)), by decide +kernel, by decide +kernel, by decide +kernel⟩
theorem pl_X6_owed : plainName yX6_owed.cls = true := by decide +kernel
abbrev kX6_count : Cond := .code yX6_count cX6_count 2 (some .int)
theorem l0_X6_count : am_L0 kX6_count yX6_count 1 := ⟨am_in (i := 348) (by decide +kernel) (by decide +kernel), (am_in (i := 13) (by decide +kernel) (by decide +kernel)), by decide +kernel, by decide +kernel, by decide +kernel⟩
theorem pl_X6_count : plainName yX6_count.cls = true := by decide +kernel
abbrev kX6_where : Cond := .code yX6_where cX6_where 5 (some .int)
theorem l0_X6_where : am_L0 kX6_where yX6_where 3 := ⟨am_in (i := 344) (by decide +kernel) (by decide +kernel), (am_in (i := 13) (by decide +kernel) (by decide +kernel)), by decide +kernel, by decide +kernel, by decide +kernel⟩
theorem pl_X6_where : plainName yX6_where.cls = true := by decide +kernel
abbrev kX6_homeIn : Cond := .code yX6_homeIn cX6_homeIn 2 (some .int)
theorem l0_X6_homeIn : am_L0 kX6_homeIn yX6_homeIn 1 := ⟨am_in (i := 155) (by decide +kernel) (by decide +kernel), (am_in (i := 13) (by decide +kernel) (by decide +kernel)), by decide +kernel, by decide +kernel, by decide +kernel⟩
theorem pl_X6_homeIn : plainName yX6_homeIn.cls = true := by decide +kernel
abbrev kX6_fewest : Cond := .code yX6_fewest cX6_fewest 4 (some .int)
theorem l0_X6_fewest : am_L0 kX6_fewest yX6_fewest 3 := ⟨am_in (i := 403) (by decide +kernel) (by decide +kernel), (am_in (i := 13) (by decide +kernel) (by decide +kernel)), by decide +kernel, by decide +kernel, by decide +kernel⟩
theorem pl_X6_fewest : plainName yX6_fewest.cls = true := by decide +kernel
abbrev kX6_richest : Cond := .code yX6_richest cX6_richest 3 (some .int)
theorem l0_X6_richest : am_L0 kX6_richest yX6_richest 0 := ⟨am_in (i := 260) (by decide +kernel) (by decide +kernel), (am_in (i := 13) (by decide +kernel) (by decide +kernel)), by decide +kernel, by decide +kernel, by decide +kernel⟩
theorem pl_X6_richest : plainName yX6_richest.cls = true := by decide +kernel
abbrev kX6_canKeepIn : Cond := .code yX6_canKeepIn cX6_canKeepIn 6 (some .int)
theorem l0_X6_canKeepIn : am_L0 kX6_canKeepIn yX6_canKeepIn 1 := ⟨am_in (i := 394) (by decide +kernel) (by decide +kernel), (am_in (i := 13) (by decide +kernel) (by decide +kernel)), by decide +kernel, by decide +kernel, by decide +kernel⟩
theorem pl_X6_canKeepIn : plainName yX6_canKeepIn.cls = true := by decide +kernel
abbrev kX6_richShare : Cond := .code yX6_richShare cX6_richShare 2 (some .double)
theorem l0_X6_richShare : am_L0 kX6_richShare yX6_richShare 0 := ⟨am_in (i := 362) (by decide +kernel) (by decide +kernel), (am_in (i := 13) (by decide +kernel) (by decide +kernel)), by decide +kernel, by decide +kernel, by decide +kernel⟩
theorem pl_X6_richShare : plainName yX6_richShare.cls = true := by decide +kernel
abbrev kX6_reasonAgainst : Cond := .code yX6_reasonAgainst cX6_reasonAgainst 8 (some .int)
theorem l0_X6_reasonAgainst : am_L0 kX6_reasonAgainst yX6_reasonAgainst 6 := ⟨am_in (i := 505) (by decide +kernel) (by decide +kernel), (am_in (i := 13) (by decide +kernel) (by decide +kernel)), by decide +kernel, by decide +kernel, by decide +kernel⟩
theorem pl_X6_reasonAgainst : plainName yX6_reasonAgainst.cls = true := by decide +kernel
abbrev kX6_keepPromise : Cond := .code yX6_keepPromise cX6_keepPromise 6 (some .int)
theorem l0_X6_keepPromise : am_L0 kX6_keepPromise yX6_keepPromise 1 := ⟨am_in (i := 532) (by decide +kernel) (by decide +kernel), (am_in (i := 13) (by decide +kernel) (by decide +kernel)), by decide +kernel, by decide +kernel, by decide +kernel⟩
theorem pl_X6_keepPromise : plainName yX6_keepPromise.cls = true := by decide +kernel
abbrev kX6_homeByCircles : Cond := .code yX6_homeByCircles cX6_homeByCircles 3 (some .int)
theorem l0_X6_homeByCircles : am_L0 kX6_homeByCircles yX6_homeByCircles 0 := ⟨am_in (i := 230) (by decide +kernel) (by decide +kernel), (am_in (i := 13) (by decide +kernel) (by decide +kernel)), by decide +kernel, by decide +kernel, by decide +kernel⟩
theorem pl_X6_homeByCircles : plainName yX6_homeByCircles.cls = true := by decide +kernel
abbrev kX6_homeByTrying : Cond := .code yX6_homeByTrying cX6_homeByTrying 3 (some .int)
theorem l0_X6_homeByTrying : am_L0 kX6_homeByTrying yX6_homeByTrying 0 := ⟨am_in (i := 248) (by decide +kernel) (by decide +kernel), (am_in (i := 13) (by decide +kernel) (by decide +kernel)), by decide +kernel, by decide +kernel, by decide +kernel⟩
theorem pl_X6_homeByTrying : plainName yX6_homeByTrying.cls = true := by decide +kernel
abbrev kX6_areHome : Cond := .code yX6_areHome cX6_areHome 2 (some .boolean)
theorem l0_X6_areHome : am_L0 kX6_areHome yX6_areHome 0 := ⟨am_in (i := 256) (by decide +kernel) (by decide +kernel), (am_in (i := 13) (by decide +kernel) (by decide +kernel)), by decide +kernel, by decide +kernel, by decide +kernel⟩
theorem pl_X6_areHome : plainName yX6_areHome.cls = true := by decide +kernel
abbrev kX6_leastCommonMultiple : Cond := .code yX6_leastCommonMultiple cX6_leastCommonMultiple 4 (some .int)
theorem l0_X6_leastCommonMultiple : am_L0 kX6_leastCommonMultiple yX6_leastCommonMultiple 2 := ⟨am_in (i := 244) (by decide +kernel) (by decide +kernel), (am_in (i := 13) (by decide +kernel) (by decide +kernel)), by decide +kernel, by decide +kernel, by decide +kernel⟩
theorem pl_X6_leastCommonMultiple : plainName yX6_leastCommonMultiple.cls = true := by decide +kernel
abbrev kX6_needIslander : Cond := .code yX6_needIslander cX6_needIslander 1 none
theorem l0_X6_needIslander : am_L0 kX6_needIslander yX6_needIslander 1 := ⟨am_in (i := 294) (by decide +kernel) (by decide +kernel), (am_in (i := 13) (by decide +kernel) (by decide +kernel)), by decide +kernel, by decide +kernel, by decide +kernel⟩
theorem pl_X6_needIslander : plainName yX6_needIslander.cls = true := by decide +kernel
abbrev kX6_needColour : Cond := .code yX6_needColour cX6_needColour 1 none
theorem l0_X6_needColour : am_L0 kX6_needColour yX6_needColour 1 := ⟨am_in (i := 332) (by decide +kernel) (by decide +kernel), (am_in (i := 13) (by decide +kernel) (by decide +kernel)), by decide +kernel, by decide +kernel, by decide +kernel⟩
theorem pl_X6_needColour : plainName yX6_needColour.cls = true := by decide +kernel
abbrev kX6_needPromise : Cond := .code yX6_needPromise cX6_needPromise 2 none
theorem l0_X6_needPromise : am_L0 kX6_needPromise yX6_needPromise 1 := ⟨am_in (i := 374) (by decide +kernel) (by decide +kernel), (am_in (i := 13) (by decide +kernel) (by decide +kernel)), by decide +kernel, by decide +kernel, by decide +kernel⟩
theorem pl_X6_needPromise : plainName yX6_needPromise.cls = true := by decide +kernel
abbrev kX6_needOthers : Cond := .code yX6_needOthers cX6_needOthers 2 none
theorem l0_X6_needOthers : am_L0 kX6_needOthers yX6_needOthers 2 := ⟨am_in (i := 500) (by decide +kernel) (by decide +kernel), (am_in (i := 13) (by decide +kernel) (by decide +kernel)), by decide +kernel, by decide +kernel, by decide +kernel⟩
theorem pl_X6_needOthers : plainName yX6_needOthers.cls = true := by decide +kernel
abbrev kX6_needRange : Cond := .code yX6_needRange cX6_needRange 3 none
theorem l0_X6_needRange : am_L0 kX6_needRange yX6_needRange 3 := ⟨am_in (i := 158) (by decide +kernel) (by decide +kernel), (am_in (i := 13) (by decide +kernel) (by decide +kernel)), by decide +kernel, by decide +kernel, by decide +kernel⟩
theorem pl_X6_needRange : plainName yX6_needRange.cls = true := by decide +kernel
abbrev kL_cell : Cond := .code yL_cell cL_cell 2 (some .int)
theorem l0_L_cell : am_L0 kL_cell yL_cell 2 := ⟨am_in (i := 278) (by decide +kernel) (by decide +kernel), (am_in (i := 12) (by decide +kernel) (by decide +kernel)), by decide +kernel, by decide +kernel, by decide +kernel⟩
theorem pl_L_cell : plainName yL_cell.cls = true := by decide +kernel
abbrev kL_low : Cond := .code yL_low cL_low 2 (some .int)
theorem l0_L_low : am_L0 kL_low yL_low 2 := ⟨am_in (i := 283) (by decide +kernel) (by decide +kernel), (am_in (i := 12) (by decide +kernel) (by decide +kernel)), by decide +kernel, by decide +kernel, by decide +kernel⟩
theorem pl_L_low : plainName yL_low.cls = true := by decide +kernel
abbrev kL_arePurses : Cond := .code yL_arePurses cL_arePurses 14 (some .boolean)
theorem l0_L_arePurses : am_L0 kL_arePurses yL_arePurses 1 := ⟨am_in (i := 287) (by decide +kernel) (by decide +kernel), (am_in (i := 12) (by decide +kernel) (by decide +kernel)), by decide +kernel, by decide +kernel, by decide +kernel⟩
theorem pl_L_arePurses : plainName yL_arePurses.cls = true := by decide +kernel
abbrev kL_arePromises : Cond := .code yL_arePromises cL_arePromises 9 (some .boolean)
theorem l0_L_arePromises : am_L0 kL_arePromises yL_arePromises 1 := ⟨am_in (i := 366) (by decide +kernel) (by decide +kernel), (am_in (i := 12) (by decide +kernel) (by decide +kernel)), by decide +kernel, by decide +kernel, by decide +kernel⟩
theorem pl_L_arePromises : plainName yL_arePromises.cls = true := by decide +kernel
abbrev kL_pays : Cond := .code yL_pays cL_pays 4 (some .boolean)
theorem l0_L_pays : am_L0 kL_pays yL_pays 3 := ⟨am_in (i := 417) (by decide +kernel) (by decide +kernel), (am_in (i := 12) (by decide +kernel) (by decide +kernel)), by decide +kernel, by decide +kernel, by decide +kernel⟩
theorem pl_L_pays : plainName yL_pays.cls = true := by decide +kernel
abbrev kL_storms : Cond := .code yL_storms cL_storms 9 (some .boolean)
theorem l0_L_storms : am_L0 kL_storms yL_storms 1 := ⟨am_in (i := 423) (by decide +kernel) (by decide +kernel), (am_in (i := 12) (by decide +kernel) (by decide +kernel)), by decide +kernel, by decide +kernel, by decide +kernel⟩
theorem pl_L_storms : plainName yL_storms.cls = true := by decide +kernel
abbrev kL_fulfils : Cond := .code yL_fulfils cL_fulfils 14 (some .boolean)
theorem l0_L_fulfils : am_L0 kL_fulfils yL_fulfils 2 := ⟨am_in (i := 524) (by decide +kernel) (by decide +kernel), (am_in (i := 12) (by decide +kernel) (by decide +kernel)), by decide +kernel, by decide +kernel, by decide +kernel⟩
theorem pl_L_fulfils : plainName yL_fulfils.cls = true := by decide +kernel
abbrev kL_waits : Cond := .code yL_waits cL_waits 10 (some .boolean)
theorem l0_L_waits : am_L0 kL_waits yL_waits 2 := ⟨am_in (i := 536) (by decide +kernel) (by decide +kernel), (am_in (i := 12) (by decide +kernel) (by decide +kernel)), by decide +kernel, by decide +kernel, by decide +kernel⟩
theorem pl_L_waits : plainName yL_waits.cls = true := by decide +kernel
abbrev kL_trades : Cond := .code yL_trades cL_trades 17 (some .boolean)
theorem l0_L_trades : am_L0 kL_trades yL_trades 2 := ⟨am_in (i := 493) (by decide +kernel) (by decide +kernel), (am_in (i := 12) (by decide +kernel) (by decide +kernel)), by decide +kernel, by decide +kernel, by decide +kernel⟩
theorem pl_L_trades : plainName yL_trades.cls = true := by decide +kernel
abbrev kL_tale : Cond := .code yL_tale cL_tale 5 (some .long)
theorem l0_L_tale : am_L0 kL_tale yL_tale 1 := ⟨am_in (i := 480) (by decide +kernel) (by decide +kernel), (am_in (i := 12) (by decide +kernel) (by decide +kernel)), by decide +kernel, by decide +kernel, by decide +kernel⟩
theorem pl_L_tale : plainName yL_tale.cls = true := by decide +kernel
abbrev kL_act : Cond := .code yL_act cL_act 11 (some .boolean)
theorem l0_L_act : am_L0 kL_act yL_act 3 := ⟨am_in (i := 420) (by decide +kernel) (by decide +kernel), (am_in (i := 12) (by decide +kernel) (by decide +kernel)), by decide +kernel, by decide +kernel, by decide +kernel⟩
theorem pl_L_act : plainName yL_act.cls = true := by decide +kernel
theorem oi_X1_3 : am_oiW RX1 3 := ⟨(am_in (i := 90) (by decide +kernel) (by decide +kernel)), (am_in (i := 32) (by decide +kernel) (by decide +kernel)), am_in (i := 33) (by decide +kernel) (by decide +kernel)⟩
theorem an_X1_9 : Cond.classLink RX1 9 "StormPurses$Island" ∈ am_W := (am_in (i := 91) (by decide +kernel) (by decide +kernel))
theorem fp_X1_11 : am_FP RX1 11 0 0 (.array (.object "StormPurses$Island")) true := ⟨RX1, TX1, 2, tyX1, cl_X1, by decide, (am_in (i := 94) (by decide +kernel) (by decide +kernel)), rfl, by decide +kernel, fun _ => rfl⟩
theorem f_X1_11 : am_F RX1 11 0 0 := fp_X1_11.F
theorem cn_X1_9 : Cond.classLink RX1 9 "StormPurses$Island" ∈ am_W := (am_in (i := 91) (by decide +kernel) (by decide +kernel))
abbrev fs0_X2 : List Value := [.null, .null, .null, .null, .null, .int 0, .int 0, .int 0, .int 0, .int 0, .int 0, .int 0]
theorem nw_X1_9 : am_Nw RX1 9 1 fs0_X2 12 := ⟨RX2, TX2, tyX2, cl_X2, cn_X1_9, (am_in (i := 35) (by decide +kernel) (by decide +kernel)), (am_in (i := 14) (by decide +kernel) (by decide +kernel)), by decide +kernel⟩
theorem mi_X1_17 : Cond.methodLink RX1 17 yX2_init ∈ am_W := (am_in (i := 93) (by decide +kernel) (by decide +kernel))
theorem mj_X1_17 : Cond.instanceMethod yX2_init ∈ am_W := (am_in (i := 37) (by decide +kernel) (by decide +kernel))
theorem fp_X1_18 : am_FP RX1 18 0 1 .int false := ⟨RX1, TX1, 2, tyX1, cl_X1, by decide, (am_in (i := 95) (by decide +kernel) (by decide +kernel)), rfl, by decide +kernel, fun h => by cases h⟩
theorem f_X1_18 : am_F RX1 18 0 1 := fp_X1_18.F
theorem mv_X1_22 : am_LV RX1 22 0 kX1_dropOldest yX1_dropOldest 0 := ⟨l0_X1_dropOldest, (am_in (i := 452) (by decide +kernel) (by decide +kernel)), (am_in (i := 454) (by decide +kernel) (by decide +kernel)), (am_in (i := 7) (by decide +kernel) (by decide +kernel)), TX1, _, rfl⟩
theorem ms_X1_25 : am_LS RX1 25 kX2_copy yX2_copy 2 := ⟨l0_X2_copy, (am_in (i := 456) (by decide +kernel) (by decide +kernel)), (am_in (i := 457) (by decide +kernel) (by decide +kernel))⟩
theorem oi_X2_3 : am_oiW RX2 3 := ⟨(am_in (i := 39) (by decide +kernel) (by decide +kernel)), (am_in (i := 32) (by decide +kernel) (by decide +kernel)), am_in (i := 33) (by decide +kernel) (by decide +kernel)⟩
theorem fp_X2_9 : am_FP RX2 9 1 0 (.array .int) true := ⟨RX2, TX2, 12, tyX2, cl_X2, by decide, (am_in (i := 40) (by decide +kernel) (by decide +kernel)), rfl, by decide +kernel, fun _ => rfl⟩
theorem f_X2_9 : am_F RX2 9 1 0 := fp_X2_9.F
theorem fp_X2_15 : am_FP RX2 15 1 1 (.array .int) true := ⟨RX2, TX2, 12, tyX2, cl_X2, by decide, (am_in (i := 41) (by decide +kernel) (by decide +kernel)), rfl, by decide +kernel, fun _ => rfl⟩
theorem f_X2_15 : am_F RX2 15 1 1 := fp_X2_15.F
theorem fp_X2_18 : am_FP RX2 18 1 2 (.array .int) true := ⟨RX2, TX2, 12, tyX2, cl_X2, by decide, (am_in (i := 42) (by decide +kernel) (by decide +kernel)), rfl, by decide +kernel, fun _ => rfl⟩
theorem f_X2_18 : am_F RX2 18 1 2 := fp_X2_18.F
theorem fp_X2_21 : am_FP RX2 21 1 3 (.array .int) true := ⟨RX2, TX2, 12, tyX2, cl_X2, by decide, (am_in (i := 43) (by decide +kernel) (by decide +kernel)), rfl, by decide +kernel, fun _ => rfl⟩
theorem f_X2_21 : am_F RX2 21 1 3 := fp_X2_21.F
theorem fp_X2_24 : am_FP RX2 24 1 4 (.array .int) true := ⟨RX2, TX2, 12, tyX2, cl_X2, by decide, (am_in (i := 44) (by decide +kernel) (by decide +kernel)), rfl, by decide +kernel, fun _ => rfl⟩
theorem f_X2_24 : am_F RX2 24 1 4 := fp_X2_24.F
theorem mv_X2_27 : am_LV RX2 27 1 kX2_become yX2_become 1 := ⟨l0_X2_become, (am_in (i := 459) (by decide +kernel) (by decide +kernel)), (am_in (i := 461) (by decide +kernel) (by decide +kernel)), (am_in (i := 8) (by decide +kernel) (by decide +kernel)), TX2, _, rfl⟩
theorem cp_X2_31 : am_cpW RX2 31 := ⟨(am_in (i := 463) (by decide +kernel) (by decide +kernel)), (am_in (i := 465) (by decide +kernel) (by decide +kernel)), (am_in (i := 464) (by decide +kernel) (by decide +kernel)), (am_in (i := 25) (by decide +kernel) (by decide +kernel))⟩
theorem fp_X2_37 : am_FP RX2 37 1 5 .int false := ⟨RX2, TX2, 12, tyX2, cl_X2, by decide, (am_in (i := 45) (by decide +kernel) (by decide +kernel)), rfl, by decide +kernel, fun h => by cases h⟩
theorem f_X2_37 : am_F RX2 37 1 5 := fp_X2_37.F
theorem fp_X2_41 : am_FP RX2 41 1 6 .int false := ⟨RX2, TX2, 12, tyX2, cl_X2, by decide, (am_in (i := 47) (by decide +kernel) (by decide +kernel)), rfl, by decide +kernel, fun h => by cases h⟩
theorem f_X2_41 : am_F RX2 41 1 6 := fp_X2_41.F
theorem fp_X2_44 : am_FP RX2 44 1 7 .int false := ⟨RX2, TX2, 12, tyX2, cl_X2, by decide, (am_in (i := 49) (by decide +kernel) (by decide +kernel)), rfl, by decide +kernel, fun h => by cases h⟩
theorem f_X2_44 : am_F RX2 44 1 7 := fp_X2_44.F
theorem fp_X2_47 : am_FP RX2 47 1 8 .int false := ⟨RX2, TX2, 12, tyX2, cl_X2, by decide, (am_in (i := 51) (by decide +kernel) (by decide +kernel)), rfl, by decide +kernel, fun h => by cases h⟩
theorem f_X2_47 : am_F RX2 47 1 8 := fp_X2_47.F
theorem fp_X2_50 : am_FP RX2 50 1 9 .int false := ⟨RX2, TX2, 12, tyX2, cl_X2, by decide, (am_in (i := 53) (by decide +kernel) (by decide +kernel)), rfl, by decide +kernel, fun h => by cases h⟩
theorem f_X2_50 : am_F RX2 50 1 9 := fp_X2_50.F
theorem fp_X2_53 : am_FP RX2 53 1 10 .int false := ⟨RX2, TX2, 12, tyX2, cl_X2, by decide, (am_in (i := 55) (by decide +kernel) (by decide +kernel)), rfl, by decide +kernel, fun h => by cases h⟩
theorem f_X2_53 : am_F RX2 53 1 10 := fp_X2_53.F
theorem fp_X2_56 : am_FP RX2 56 1 11 .int false := ⟨RX2, TX2, 12, tyX2, cl_X2, by decide, (am_in (i := 57) (by decide +kernel) (by decide +kernel)), rfl, by decide +kernel, fun h => by cases h⟩
theorem f_X2_56 : am_F RX2 56 1 11 := fp_X2_56.F
theorem ms_X2_59 : am_LS RX2 59 kX2_isIslander yX2_isIslander 1 := ⟨l0_X2_isIslander, (am_in (i := 239) (by decide +kernel) (by decide +kernel)), (am_in (i := 240) (by decide +kernel) (by decide +kernel))⟩
theorem ms_X2_63 : am_LS RX2 63 kX2_isColour yX2_isColour 1 := ⟨l0_X2_isColour, (am_in (i := 269) (by decide +kernel) (by decide +kernel)), (am_in (i := 270) (by decide +kernel) (by decide +kernel))⟩
theorem mv_X2_66 : am_LV RX2 66 1 kX2_capsOf yX2_capsOf 2 := ⟨l0_X2_capsOf, (am_in (i := 265) (by decide +kernel) (by decide +kernel)), (am_in (i := 266) (by decide +kernel) (by decide +kernel)), (am_in (i := 267) (by decide +kernel) (by decide +kernel)), TX2, _, rfl⟩
theorem mv_X2_70 : am_LV RX2 70 1 kX2_worthOf yX2_worthOf 1 := ⟨l0_X2_worthOf, (am_in (i := 272) (by decide +kernel) (by decide +kernel)), (am_in (i := 273) (by decide +kernel) (by decide +kernel)), (am_in (i := 274) (by decide +kernel) (by decide +kernel)), TX2, _, rfl⟩
theorem mv_X2_74 : am_LV RX2 74 1 kX2_purseWorth yX2_purseWorth 1 := ⟨l0_X2_purseWorth, (am_in (i := 357) (by decide +kernel) (by decide +kernel)), (am_in (i := 262) (by decide +kernel) (by decide +kernel)), (am_in (i := 263) (by decide +kernel) (by decide +kernel)), TX2, _, rfl⟩
theorem mv_X2_77 : am_LV RX2 77 1 kX2_leadsTo yX2_leadsTo 1 := ⟨l0_X2_leadsTo, (am_in (i := 235) (by decide +kernel) (by decide +kernel)), (am_in (i := 236) (by decide +kernel) (by decide +kernel)), (am_in (i := 237) (by decide +kernel) (by decide +kernel)), TX2, _, rfl⟩
theorem mv_X2_80 : am_LV RX2 80 1 kX2_breakPromises yX2_breakPromises 0 := ⟨l0_X2_breakPromises, (am_in (i := 470) (by decide +kernel) (by decide +kernel)), (am_in (i := 472) (by decide +kernel) (by decide +kernel)), (am_in (i := 9) (by decide +kernel) (by decide +kernel)), TX2, _, rfl⟩
theorem mv_X2_84 : am_LV RX2 84 1 kX2_partOf yX2_partOf 2 := ⟨l0_X2_partOf, (am_in (i := 317) (by decide +kernel) (by decide +kernel)), (am_in (i := 318) (by decide +kernel) (by decide +kernel)), (am_in (i := 319) (by decide +kernel) (by decide +kernel)), TX2, _, rfl⟩
theorem mv_X2_87 : am_LV RX2 87 1 kX2_dropPromise yX2_dropPromise 1 := ⟨l0_X2_dropPromise, (am_in (i := 474) (by decide +kernel) (by decide +kernel)), (am_in (i := 475) (by decide +kernel) (by decide +kernel)), (am_in (i := 476) (by decide +kernel) (by decide +kernel)), TX2, _, rfl⟩
theorem mv_X2_91 : am_LV RX2 91 1 kX2_isPromise yX2_isPromise 1 := ⟨l0_X2_isPromise, (am_in (i := 321) (by decide +kernel) (by decide +kernel)), (am_in (i := 322) (by decide +kernel) (by decide +kernel)), (am_in (i := 323) (by decide +kernel) (by decide +kernel)), TX2, _, rfl⟩
theorem oi_X4_3 : am_oiW RX4 3 := ⟨(am_in (i := 121) (by decide +kernel) (by decide +kernel)), (am_in (i := 32) (by decide +kernel) (by decide +kernel)), am_in (i := 33) (by decide +kernel) (by decide +kernel)⟩
theorem fp_X4_9 : am_FP RX4 9 2 0 (.array .char) true := ⟨RX4, TX4, 2, tyX4, cl_X4, by decide, (am_in (i := 122) (by decide +kernel) (by decide +kernel)), rfl, by decide +kernel, fun _ => rfl⟩
theorem f_X4_9 : am_F RX4 9 2 0 := fp_X4_9.F
theorem oi_X5_3 : am_oiW RX5 3 := ⟨(am_in (i := 107) (by decide +kernel) (by decide +kernel)), (am_in (i := 32) (by decide +kernel) (by decide +kernel)), am_in (i := 33) (by decide +kernel) (by decide +kernel)⟩
theorem fp_X5_9 : am_FP RX5 9 3 0 (.array .int) true := ⟨RX5, TX5, 2, tyX5, cl_X5, by decide, (am_in (i := 108) (by decide +kernel) (by decide +kernel)), rfl, by decide +kernel, fun _ => rfl⟩
theorem f_X5_9 : am_F RX5 9 3 0 := fp_X5_9.F
theorem fp_X5_15 : am_FP RX5 15 3 1 (.array .int) true := ⟨RX5, TX5, 2, tyX5, cl_X5, by decide, (am_in (i := 109) (by decide +kernel) (by decide +kernel)), rfl, by decide +kernel, fun _ => rfl⟩
theorem f_X5_15 : am_F RX5 15 3 1 := fp_X5_15.F
theorem kc_X5_18 : Cond.constant RX5 18 1000000 ∈ am_W := am_in (i := 381) (by decide +kernel) (by decide +kernel)
theorem mv_X5_19 : am_LV RX5 19 1 kX2_capsOf yX2_capsOf 2 := ⟨l0_X2_capsOf, (am_in (i := 382) (by decide +kernel) (by decide +kernel)), (am_in (i := 266) (by decide +kernel) (by decide +kernel)), (am_in (i := 267) (by decide +kernel) (by decide +kernel)), TX2, _, rfl⟩
theorem mv_X5_25 : am_LV RX5 25 1 kX2_worthOf yX2_worthOf 1 := ⟨l0_X2_worthOf, (am_in (i := 383) (by decide +kernel) (by decide +kernel)), (am_in (i := 273) (by decide +kernel) (by decide +kernel)), (am_in (i := 274) (by decide +kernel) (by decide +kernel)), TX2, _, rfl⟩
theorem mv_X5_29 : am_LV RX5 29 3 kX5_addColour yX5_addColour 3 := ⟨l0_X5_addColour, (am_in (i := 384) (by decide +kernel) (by decide +kernel)), (am_in (i := 386) (by decide +kernel) (by decide +kernel)), (am_in (i := 5) (by decide +kernel) (by decide +kernel)), TX5, _, rfl⟩
theorem mm_X5_33 : am_minW RX5 33 := ⟨(am_in (i := 388) (by decide +kernel) (by decide +kernel)), (am_in (i := 389) (by decide +kernel) (by decide +kernel)), (am_in (i := 23) (by decide +kernel) (by decide +kernel)), am_in (i := 390) (by decide +kernel) (by decide +kernel)⟩
theorem ms_X5_38 : am_LS RX5 38 kX5_wholeCaps yX5_wholeCaps 2 := ⟨l0_X5_wholeCaps, (am_in (i := 408) (by decide +kernel) (by decide +kernel)), (am_in (i := 409) (by decide +kernel) (by decide +kernel))⟩
theorem mv_X5_41 : am_LV RX5 41 3 kX5_note yX5_note 4 := ⟨l0_X5_note, (am_in (i := 411) (by decide +kernel) (by decide +kernel)), (am_in (i := 413) (by decide +kernel) (by decide +kernel)), (am_in (i := 6) (by decide +kernel) (by decide +kernel)), TX5, _, rfl⟩
theorem oi_X6_1 : am_oiW RX6 1 := ⟨(am_in (i := 31) (by decide +kernel) (by decide +kernel)), (am_in (i := 32) (by decide +kernel) (by decide +kernel)), am_in (i := 33) (by decide +kernel) (by decide +kernel)⟩
theorem cn_X6_7 : Cond.classLink RX6 7 "StormPurses$Island" ∈ am_W := (am_in (i := 34) (by decide +kernel) (by decide +kernel))
theorem nw_X6_7 : am_Nw RX6 7 1 fs0_X2 12 := ⟨RX2, TX2, tyX2, cl_X2, cn_X6_7, (am_in (i := 35) (by decide +kernel) (by decide +kernel)), (am_in (i := 14) (by decide +kernel) (by decide +kernel)), by decide +kernel⟩
theorem mi_X6_9 : Cond.methodLink RX6 9 yX2_init ∈ am_W := (am_in (i := 36) (by decide +kernel) (by decide +kernel))
theorem mj_X6_9 : Cond.instanceMethod yX2_init ∈ am_W := (am_in (i := 37) (by decide +kernel) (by decide +kernel))
theorem fp_X6_10 : am_FP RX6 10 4 0 (.object "StormPurses$Island") true := ⟨RX6, TX6, 7, tyX6, cl_X6, by decide, (am_in (i := 129) (by decide +kernel) (by decide +kernel)), rfl, by decide +kernel, fun _ => rfl⟩
theorem f_X6_10 : am_F RX6 10 4 0 := fp_X6_10.F
theorem cn_X6_16 : Cond.classLink RX6 16 "StormPurses$History" ∈ am_W := (am_in (i := 85) (by decide +kernel) (by decide +kernel))
abbrev fs0_X1 : List Value := [.null, .int 0]
theorem nw_X6_16 : am_Nw RX6 16 0 fs0_X1 2 := ⟨RX1, TX1, tyX1, cl_X1, cn_X6_16, (am_in (i := 86) (by decide +kernel) (by decide +kernel)), (am_in (i := 15) (by decide +kernel) (by decide +kernel)), by decide +kernel⟩
theorem mi_X6_18 : Cond.methodLink RX6 18 yX1_init ∈ am_W := (am_in (i := 87) (by decide +kernel) (by decide +kernel))
theorem mj_X6_18 : Cond.instanceMethod yX1_init ∈ am_W := (am_in (i := 88) (by decide +kernel) (by decide +kernel))
theorem fp_X6_19 : am_FP RX6 19 4 1 (.object "StormPurses$History") true := ⟨RX6, TX6, 7, tyX6, cl_X6, by decide, (am_in (i := 130) (by decide +kernel) (by decide +kernel)), rfl, by decide +kernel, fun _ => rfl⟩
theorem f_X6_19 : am_F RX6 19 4 1 := fp_X6_19.F
theorem cn_X6_23 : Cond.classLink RX6 23 "StormPurses$Till" ∈ am_W := (am_in (i := 102) (by decide +kernel) (by decide +kernel))
abbrev fs0_X5 : List Value := [.null, .null]
theorem nw_X6_23 : am_Nw RX6 23 3 fs0_X5 2 := ⟨RX5, TX5, tyX5, cl_X5, cn_X6_23, (am_in (i := 103) (by decide +kernel) (by decide +kernel)), (am_in (i := 16) (by decide +kernel) (by decide +kernel)), by decide +kernel⟩
theorem mj_X6_25 : Cond.instanceMethod yX5_init ∈ am_W := (am_in (i := 105) (by decide +kernel) (by decide +kernel))
theorem fp_X6_26 : am_FP RX6 26 4 2 (.object "StormPurses$Till") true := ⟨RX6, TX6, 7, tyX6, cl_X6, by decide, (am_in (i := 131) (by decide +kernel) (by decide +kernel)), rfl, by decide +kernel, fun _ => rfl⟩
theorem f_X6_26 : am_F RX6 26 4 2 := fp_X6_26.F
theorem cn_X6_30 : Cond.classLink RX6 30 "StormPurses$Text" ∈ am_W := (am_in (i := 116) (by decide +kernel) (by decide +kernel))
abbrev fs0_X4 : List Value := [.null, .int 0]
theorem nw_X6_30 : am_Nw RX6 30 2 fs0_X4 2 := ⟨RX4, TX4, tyX4, cl_X4, cn_X6_30, (am_in (i := 117) (by decide +kernel) (by decide +kernel)), (am_in (i := 17) (by decide +kernel) (by decide +kernel)), by decide +kernel⟩
theorem mj_X6_32 : Cond.instanceMethod yX4_init ∈ am_W := (am_in (i := 119) (by decide +kernel) (by decide +kernel))
theorem fp_X6_33 : am_FP RX6 33 4 3 (.object "StormPurses$Text") true := ⟨RX6, TX6, 7, tyX6, cl_X6, by decide, (am_in (i := 132) (by decide +kernel) (by decide +kernel)), rfl, by decide +kernel, fun _ => rfl⟩
theorem f_X6_33 : am_F RX6 33 4 3 := fp_X6_33.F
theorem an_X6_7 : Cond.classLink RX6 7 "StormPurses$Island" ∈ am_W := (am_in (i := 34) (by decide +kernel) (by decide +kernel))
theorem fp_X6_37 : am_FP RX6 37 4 4 (.array (.object "StormPurses$Island")) true := ⟨RX6, TX6, 7, tyX6, cl_X6, by decide, (am_in (i := 133) (by decide +kernel) (by decide +kernel)), rfl, by decide +kernel, fun _ => rfl⟩
theorem f_X6_37 : am_F RX6 37 4 4 := fp_X6_37.F
theorem fp_X6_41 : am_FP RX6 41 4 5 (.array .boolean) true := ⟨RX6, TX6, 7, tyX6, cl_X6, by decide, (am_in (i := 134) (by decide +kernel) (by decide +kernel)), rfl, by decide +kernel, fun _ => rfl⟩
theorem f_X6_41 : am_F RX6 41 4 5 := fp_X6_41.F
theorem fp_X6_45 : am_FP RX6 45 4 6 (.array .int) true := ⟨RX6, TX6, 7, tyX6, cl_X6, by decide, (am_in (i := 135) (by decide +kernel) (by decide +kernel)), rfl, by decide +kernel, fun _ => rfl⟩
theorem f_X6_45 : am_F RX6 45 4 6 := fp_X6_45.F
theorem mv_X6_49 : am_LV RX6 49 1 kX2_canStorm yX2_canStorm 0 := ⟨l0_X2_canStorm, (am_in (i := 428) (by decide +kernel) (by decide +kernel)), (am_in (i := 429) (by decide +kernel) (by decide +kernel)), (am_in (i := 430) (by decide +kernel) (by decide +kernel)), TX2, _, rfl⟩
theorem cn_X6_53 : Cond.classLink RX6 53 "java/lang/IllegalStateException" ∈ am_W := (am_in (i := 432) (by decide +kernel) (by decide +kernel))
-- other call X6 57 Method java/lang/IllegalStateException."<init>":(Ljava/lang/String;)V
theorem mv_X6_60 : am_LV RX6 60 0 kX1_push yX1_push 1 := ⟨l0_X1_push, (am_in (i := 448) (by decide +kernel) (by decide +kernel)), (am_in (i := 449) (by decide +kernel) (by decide +kernel)), (am_in (i := 450) (by decide +kernel) (by decide +kernel)), TX1, _, rfl⟩
theorem mv_X6_64 : am_LV RX6 64 1 kX2_blow yX2_blow 0 := ⟨l0_X2_blow, (am_in (i := 466) (by decide +kernel) (by decide +kernel)), (am_in (i := 467) (by decide +kernel) (by decide +kernel)), (am_in (i := 468) (by decide +kernel) (by decide +kernel)), TX2, _, rfl⟩
theorem ms_X6_68 : am_LS RX6 68 kX6_needIslander yX6_needIslander 1 := ⟨l0_X6_needIslander, (am_in (i := 292) (by decide +kernel) (by decide +kernel)), (am_in (i := 293) (by decide +kernel) (by decide +kernel))⟩
theorem mv_X6_72 : am_LV RX6 72 1 kX2_swapPaths yX2_swapPaths 2 := ⟨l0_X2_swapPaths, (am_in (i := 487) (by decide +kernel) (by decide +kernel)), (am_in (i := 488) (by decide +kernel) (by decide +kernel)), (am_in (i := 489) (by decide +kernel) (by decide +kernel)), TX2, _, rfl⟩
theorem mv_X6_76 : am_LV RX6 76 1 kX2_leadsTo yX2_leadsTo 1 := ⟨l0_X2_leadsTo, (am_in (i := 312) (by decide +kernel) (by decide +kernel)), (am_in (i := 236) (by decide +kernel) (by decide +kernel)), (am_in (i := 237) (by decide +kernel) (by decide +kernel)), TX2, _, rfl⟩
theorem ms_X6_80 : am_LS RX6 80 kX6_needColour yX6_needColour 1 := ⟨l0_X6_needColour, (am_in (i := 330) (by decide +kernel) (by decide +kernel)), (am_in (i := 331) (by decide +kernel) (by decide +kernel))⟩
theorem ms_X6_83 : am_LS RX6 83 kX6_needOthers yX6_needOthers 2 := ⟨l0_X6_needOthers, (am_in (i := 498) (by decide +kernel) (by decide +kernel)), (am_in (i := 499) (by decide +kernel) (by decide +kernel))⟩
theorem ms_X6_86 : am_LS RX6 86 kX6_needRange yX6_needRange 3 := ⟨l0_X6_needRange, (am_in (i := 156) (by decide +kernel) (by decide +kernel)), (am_in (i := 157) (by decide +kernel) (by decide +kernel))⟩
theorem mv_X6_90 : am_LV RX6 90 4 kX6_reasonAgainst yX6_reasonAgainst 6 := ⟨l0_X6_reasonAgainst, (am_in (i := 502) (by decide +kernel) (by decide +kernel)), (am_in (i := 504) (by decide +kernel) (by decide +kernel)), (am_in (i := 10) (by decide +kernel) (by decide +kernel)), TX6, _, rfl⟩
theorem fp_X6_94 : am_FP RX6 94 1 11 .int false := ⟨RX2, TX2, 12, tyX2, cl_X2, by decide, (am_in (i := 58) (by decide +kernel) (by decide +kernel)), rfl, by decide +kernel, fun h => by cases h⟩
theorem f_X6_94 : am_F RX6 94 1 11 := fp_X6_94.F
theorem mv_X6_98 : am_LV RX6 98 1 kX2_hand yX2_hand 4 := ⟨l0_X2_hand, (am_in (i := 510) (by decide +kernel) (by decide +kernel)), (am_in (i := 511) (by decide +kernel) (by decide +kernel)), (am_in (i := 512) (by decide +kernel) (by decide +kernel)), TX2, _, rfl⟩
theorem fp_X6_102 : am_FP RX6 102 1 8 .int false := ⟨RX2, TX2, 12, tyX2, cl_X2, by decide, (am_in (i := 52) (by decide +kernel) (by decide +kernel)), rfl, by decide +kernel, fun h => by cases h⟩
theorem f_X6_102 : am_F RX6 102 1 8 := fp_X6_102.F
theorem mv_X6_105 : am_LV RX6 105 1 kX2_worthOf yX2_worthOf 1 := ⟨l0_X2_worthOf, (am_in (i := 506) (by decide +kernel) (by decide +kernel)), (am_in (i := 273) (by decide +kernel) (by decide +kernel)), (am_in (i := 274) (by decide +kernel) (by decide +kernel)), TX2, _, rfl⟩
theorem mv_X6_108 : am_LV RX6 108 1 kX2_makeWorth yX2_makeWorth 2 := ⟨l0_X2_makeWorth, (am_in (i := 551) (by decide +kernel) (by decide +kernel)), (am_in (i := 552) (by decide +kernel) (by decide +kernel)), (am_in (i := 553) (by decide +kernel) (by decide +kernel)), TX2, _, rfl⟩
theorem fp_X6_111 : am_FP RX6 111 1 7 .int false := ⟨RX2, TX2, 12, tyX2, cl_X2, by decide, (am_in (i := 50) (by decide +kernel) (by decide +kernel)), rfl, by decide +kernel, fun h => by cases h⟩
theorem f_X6_111 : am_F RX6 111 1 7 := fp_X6_111.F
theorem mv_X6_114 : am_LV RX6 114 1 kX2_makePromise yX2_makePromise 4 := ⟨l0_X2_makePromise, (am_in (i := 518) (by decide +kernel) (by decide +kernel)), (am_in (i := 519) (by decide +kernel) (by decide +kernel)), (am_in (i := 520) (by decide +kernel) (by decide +kernel)), TX2, _, rfl⟩
theorem mv_X6_118 : am_LV RX6 118 4 kX6_needPromise yX6_needPromise 1 := ⟨l0_X6_needPromise, (am_in (i := 371) (by decide +kernel) (by decide +kernel)), (am_in (i := 373) (by decide +kernel) (by decide +kernel)), (am_in (i := 4) (by decide +kernel) (by decide +kernel)), TX6, _, rfl⟩
theorem mv_X6_121 : am_LV RX6 121 4 kX6_keepPromise yX6_keepPromise 1 := ⟨l0_X6_keepPromise, (am_in (i := 529) (by decide +kernel) (by decide +kernel)), (am_in (i := 531) (by decide +kernel) (by decide +kernel)), (am_in (i := 11) (by decide +kernel) (by decide +kernel)), TX6, _, rfl⟩
theorem ms_X6_151 : am_LS RX6 151 kX2_copy yX2_copy 2 := ⟨l0_X2_copy, (am_in (i := 541) (by decide +kernel) (by decide +kernel)), (am_in (i := 457) (by decide +kernel) (by decide +kernel))⟩
theorem fp_X6_155 : am_FP RX6 155 1 6 .int false := ⟨RX2, TX2, 12, tyX2, cl_X2, by decide, (am_in (i := 48) (by decide +kernel) (by decide +kernel)), rfl, by decide +kernel, fun h => by cases h⟩
theorem f_X6_155 : am_F RX6 155 1 6 := fp_X6_155.F
theorem mv_X6_168 : am_LV RX6 168 1 kX2_capsOf yX2_capsOf 2 := ⟨l0_X2_capsOf, (am_in (i := 335) (by decide +kernel) (by decide +kernel)), (am_in (i := 266) (by decide +kernel) (by decide +kernel)), (am_in (i := 267) (by decide +kernel) (by decide +kernel)), TX2, _, rfl⟩
theorem mv_X6_172 : am_LV RX6 172 1 kX2_purseWorth yX2_purseWorth 1 := ⟨l0_X2_purseWorth, (am_in (i := 261) (by decide +kernel) (by decide +kernel)), (am_in (i := 262) (by decide +kernel) (by decide +kernel)), (am_in (i := 263) (by decide +kernel) (by decide +kernel)), TX2, _, rfl⟩
theorem mv_X6_175 : am_LV RX6 175 1 kX2_circle yX2_circle 1 := ⟨l0_X2_circle, (am_in (i := 231) (by decide +kernel) (by decide +kernel)), (am_in (i := 232) (by decide +kernel) (by decide +kernel)), (am_in (i := 233) (by decide +kernel) (by decide +kernel)), TX2, _, rfl⟩
theorem mv_X6_178 : am_LV RX6 178 1 kX2_sumOf yX2_sumOf 2 := ⟨l0_X2_sumOf, (am_in (i := 313) (by decide +kernel) (by decide +kernel)), (am_in (i := 314) (by decide +kernel) (by decide +kernel)), (am_in (i := 315) (by decide +kernel) (by decide +kernel)), TX2, _, rfl⟩
theorem cn_X6_139 : Cond.classLink RX6 139 "java/lang/IllegalArgumentException" ∈ am_W := (am_in (i := 159) (by decide +kernel) (by decide +kernel))
-- other call X6 143 Method java/lang/IllegalArgumentException."<init>":(Ljava/lang/String;)V
theorem mv_X6_183 : am_LV RX6 183 1 kX2_partOf yX2_partOf 2 := ⟨l0_X2_partOf, (am_in (i := 340) (by decide +kernel) (by decide +kernel)), (am_in (i := 318) (by decide +kernel) (by decide +kernel)), (am_in (i := 319) (by decide +kernel) (by decide +kernel)), TX2, _, rfl⟩
theorem mv_X6_186 : am_LV RX6 186 3 kX5_leastByColours yX5_leastByColours 3 := ⟨l0_X5_leastByColours, (am_in (i := 377) (by decide +kernel) (by decide +kernel)), (am_in (i := 378) (by decide +kernel) (by decide +kernel)), (am_in (i := 379) (by decide +kernel) (by decide +kernel)), TX5, _, rfl⟩
theorem fp_X6_190 : am_FP RX6 190 1 5 .int false := ⟨RX2, TX2, 12, tyX2, cl_X2, by decide, (am_in (i := 46) (by decide +kernel) (by decide +kernel)), rfl, by decide +kernel, fun h => by cases h⟩
theorem f_X6_190 : am_F RX6 190 1 5 := fp_X6_190.F
theorem mv_X6_193 : am_LV RX6 193 1 kX2_allCaps yX2_allCaps 0 := ⟨l0_X2_allCaps, (am_in (i := 349) (by decide +kernel) (by decide +kernel)), (am_in (i := 350) (by decide +kernel) (by decide +kernel)), (am_in (i := 351) (by decide +kernel) (by decide +kernel)), TX2, _, rfl⟩
theorem mv_X6_196 : am_LV RX6 196 1 kX2_allWorth yX2_allWorth 0 := ⟨l0_X2_allWorth, (am_in (i := 353) (by decide +kernel) (by decide +kernel)), (am_in (i := 354) (by decide +kernel) (by decide +kernel)), (am_in (i := 355) (by decide +kernel) (by decide +kernel)), TX2, _, rfl⟩
theorem fp_X6_199 : am_FP RX6 199 1 9 .int false := ⟨RX2, TX2, 12, tyX2, cl_X2, by decide, (am_in (i := 54) (by decide +kernel) (by decide +kernel)), rfl, by decide +kernel, fun h => by cases h⟩
theorem f_X6_199 : am_F RX6 199 1 9 := fp_X6_199.F
theorem fp_X6_202 : am_FP RX6 202 1 10 .int false := ⟨RX2, TX2, 12, tyX2, cl_X2, by decide, (am_in (i := 56) (by decide +kernel) (by decide +kernel)), rfl, by decide +kernel, fun h => by cases h⟩
theorem f_X6_202 : am_F RX6 202 1 10 := fp_X6_202.F
theorem fp_X6_160 : am_FP RX6 160 0 1 .int false := ⟨RX1, TX1, 2, tyX1, cl_X1, by decide, (am_in (i := 96) (by decide +kernel) (by decide +kernel)), rfl, by decide +kernel, fun h => by cases h⟩
theorem f_X6_160 : am_F RX6 160 0 1 := fp_X6_160.F
theorem mv_X6_207 : am_LV RX6 207 1 kX2_along yX2_along 2 := ⟨l0_X2_along, (am_in (i := 249) (by decide +kernel) (by decide +kernel)), (am_in (i := 250) (by decide +kernel) (by decide +kernel)), (am_in (i := 251) (by decide +kernel) (by decide +kernel)), TX2, _, rfl⟩
theorem mv_X6_210 : am_LV RX6 210 4 kX6_homeByCircles yX6_homeByCircles 0 := ⟨l0_X6_homeByCircles, (am_in (i := 227) (by decide +kernel) (by decide +kernel)), (am_in (i := 229) (by decide +kernel) (by decide +kernel)), (am_in (i := 1) (by decide +kernel) (by decide +kernel)), TX6, _, rfl⟩
theorem mv_X6_213 : am_LV RX6 213 4 kX6_homeByTrying yX6_homeByTrying 0 := ⟨l0_X6_homeByTrying, (am_in (i := 245) (by decide +kernel) (by decide +kernel)), (am_in (i := 247) (by decide +kernel) (by decide +kernel)), (am_in (i := 2) (by decide +kernel) (by decide +kernel)), TX6, _, rfl⟩
theorem mv_X6_216 : am_LV RX6 216 3 kX5_leastByTrying yX5_leastByTrying 3 := ⟨l0_X5_leastByTrying, (am_in (i := 404) (by decide +kernel) (by decide +kernel)), (am_in (i := 405) (by decide +kernel) (by decide +kernel)), (am_in (i := 406) (by decide +kernel) (by decide +kernel)), TX5, _, rfl⟩
theorem mm_X6_219 : am_minW RX6 219 := ⟨(am_in (i := 395) (by decide +kernel) (by decide +kernel)), (am_in (i := 389) (by decide +kernel) (by decide +kernel)), (am_in (i := 23) (by decide +kernel) (by decide +kernel)), am_in (i := 390) (by decide +kernel) (by decide +kernel)⟩
theorem mv_X6_224 : am_LV RX6 224 1 kX2_senderTo yX2_senderTo 1 := ⟨l0_X2_senderTo, (am_in (i := 396) (by decide +kernel) (by decide +kernel)), (am_in (i := 397) (by decide +kernel) (by decide +kernel)), (am_in (i := 398) (by decide +kernel) (by decide +kernel)), TX2, _, rfl⟩
theorem mv_X6_227 : am_LV RX6 227 4 kX6_richest yX6_richest 0 := ⟨l0_X6_richest, (am_in (i := 363) (by decide +kernel) (by decide +kernel)), (am_in (i := 258) (by decide +kernel) (by decide +kernel)), (am_in (i := 259) (by decide +kernel) (by decide +kernel)), TX6, _, rfl⟩
theorem mm_X6_289 : am_absW RX6 289 := ⟨(am_in (i := 507) (by decide +kernel) (by decide +kernel)), (am_in (i := 508) (by decide +kernel) (by decide +kernel)), (am_in (i := 23) (by decide +kernel) (by decide +kernel)), am_in (i := 509) (by decide +kernel) (by decide +kernel)⟩
theorem f_X6_292 : am_F RX6 292 3 1 := ⟨RX5, TX5, 2, tyX5, cl_X5, by decide, (am_in (i := 110) (by decide +kernel) (by decide +kernel))⟩
theorem mv_X6_295 : am_LV RX6 295 1 kX2_dropPromise yX2_dropPromise 1 := ⟨l0_X2_dropPromise, (am_in (i := 533) (by decide +kernel) (by decide +kernel)), (am_in (i := 475) (by decide +kernel) (by decide +kernel)), (am_in (i := 476) (by decide +kernel) (by decide +kernel)), TX2, _, rfl⟩
theorem ms_X6_313 : am_LS RX6 313 kX6_leastCommonMultiple yX6_leastCommonMultiple 2 := ⟨l0_X6_leastCommonMultiple, (am_in (i := 242) (by decide +kernel) (by decide +kernel)), (am_in (i := 243) (by decide +kernel) (by decide +kernel))⟩
theorem mv_X6_316 : am_LV RX6 316 4 kX6_areHome yX6_areHome 0 := ⟨l0_X6_areHome, (am_in (i := 253) (by decide +kernel) (by decide +kernel)), (am_in (i := 255) (by decide +kernel) (by decide +kernel)), (am_in (i := 3) (by decide +kernel) (by decide +kernel)), TX6, _, rfl⟩
theorem ms_X6_319 : am_LS RX6 319 kX2_isIslander yX2_isIslander 1 := ⟨l0_X2_isIslander, (am_in (i := 295) (by decide +kernel) (by decide +kernel)), (am_in (i := 240) (by decide +kernel) (by decide +kernel))⟩
theorem cn_X6_322 : Cond.classLink RX6 322 "java/lang/IndexOutOfBoundsException" ∈ am_W := (am_in (i := 296) (by decide +kernel) (by decide +kernel))
-- other call X6 326 Method java/lang/IndexOutOfBoundsException."<init>":(Ljava/lang/String;)V
theorem ms_X6_327 : am_LS RX6 327 kX2_isColour yX2_isColour 1 := ⟨l0_X2_isColour, (am_in (i := 333) (by decide +kernel) (by decide +kernel)), (am_in (i := 270) (by decide +kernel) (by decide +kernel))⟩
theorem mv_X6_310 : am_LV RX6 310 1 kX2_isPromise yX2_isPromise 1 := ⟨l0_X2_isPromise, (am_in (i := 375) (by decide +kernel) (by decide +kernel)), (am_in (i := 322) (by decide +kernel) (by decide +kernel)), (am_in (i := 323) (by decide +kernel) (by decide +kernel)), TX2, _, rfl⟩
theorem kc_L_7 : Cond.constant RL 7 903334369 ∈ am_W := am_in (i := 279) (by decide +kernel) (by decide +kernel)
theorem kc_L_8 : Cond.constant RL 8 800303061 ∈ am_W := am_in (i := 280) (by decide +kernel) (by decide +kernel)
theorem kc_L_9 : Cond.constant RL 9 2147483647 ∈ am_W := am_in (i := 284) (by decide +kernel) (by decide +kernel)
theorem mv_L_10 : am_LV RL 10 4 kX6_richest yX6_richest 0 := ⟨l0_X6_richest, (am_in (i := 257) (by decide +kernel) (by decide +kernel)), (am_in (i := 258) (by decide +kernel) (by decide +kernel)), (am_in (i := 259) (by decide +kernel) (by decide +kernel)), TX6, _, rfl⟩
theorem mv_L_16 : am_LV RL 16 4 kX6_homeIn yX6_homeIn 1 := ⟨l0_X6_homeIn, (am_in (i := 152) (by decide +kernel) (by decide +kernel)), (am_in (i := 153) (by decide +kernel) (by decide +kernel)), (am_in (i := 154) (by decide +kernel) (by decide +kernel)), TX6, _, rfl⟩
theorem mv_L_20 : am_LV RL 20 4 kX6_islanderOf yX6_islanderOf 2 := ⟨l0_X6_islanderOf, (am_in (i := 288) (by decide +kernel) (by decide +kernel)), (am_in (i := 289) (by decide +kernel) (by decide +kernel)), (am_in (i := 290) (by decide +kernel) (by decide +kernel)), TX6, _, rfl⟩
theorem mv_L_24 : am_LV RL 24 4 kX6_caps yX6_caps 2 := ⟨l0_X6_caps, (am_in (i := 326) (by decide +kernel) (by decide +kernel)), (am_in (i := 327) (by decide +kernel) (by decide +kernel)), (am_in (i := 328) (by decide +kernel) (by decide +kernel)), TX6, _, rfl⟩
theorem mv_L_27 : am_LV RL 27 4 kX6_owed yX6_owed 2 := ⟨l0_X6_owed, (am_in (i := 336) (by decide +kernel) (by decide +kernel)), (am_in (i := 337) (by decide +kernel) (by decide +kernel)), (am_in (i := 338) (by decide +kernel) (by decide +kernel)), TX6, _, rfl⟩
theorem mv_L_30 : am_LV RL 30 4 kX6_where yX6_where 3 := ⟨l0_X6_where, (am_in (i := 341) (by decide +kernel) (by decide +kernel)), (am_in (i := 342) (by decide +kernel) (by decide +kernel)), (am_in (i := 343) (by decide +kernel) (by decide +kernel)), TX6, _, rfl⟩
theorem mv_L_34 : am_LV RL 34 4 kX6_count yX6_count 1 := ⟨l0_X6_count, (am_in (i := 345) (by decide +kernel) (by decide +kernel)), (am_in (i := 346) (by decide +kernel) (by decide +kernel)), (am_in (i := 347) (by decide +kernel) (by decide +kernel)), TX6, _, rfl⟩
theorem mv_L_37 : am_LV RL 37 4 kX6_richShare yX6_richShare 0 := ⟨l0_X6_richShare, (am_in (i := 359) (by decide +kernel) (by decide +kernel)), (am_in (i := 360) (by decide +kernel) (by decide +kernel)), (am_in (i := 361) (by decide +kernel) (by decide +kernel)), TX6, _, rfl⟩
theorem mv_L_41 : am_LV RL 41 4 kX6_promiseOf yX6_promiseOf 2 := ⟨l0_X6_promiseOf, (am_in (i := 367) (by decide +kernel) (by decide +kernel)), (am_in (i := 368) (by decide +kernel) (by decide +kernel)), (am_in (i := 369) (by decide +kernel) (by decide +kernel)), TX6, _, rfl⟩
theorem mv_L_44 : am_LV RL 44 4 kX6_canKeepIn yX6_canKeepIn 1 := ⟨l0_X6_canKeepIn, (am_in (i := 391) (by decide +kernel) (by decide +kernel)), (am_in (i := 392) (by decide +kernel) (by decide +kernel)), (am_in (i := 393) (by decide +kernel) (by decide +kernel)), TX6, _, rfl⟩
theorem mv_L_47 : am_LV RL 47 4 kX6_fewest yX6_fewest 3 := ⟨l0_X6_fewest, (am_in (i := 400) (by decide +kernel) (by decide +kernel)), (am_in (i := 401) (by decide +kernel) (by decide +kernel)), (am_in (i := 402) (by decide +kernel) (by decide +kernel)), TX6, _, rfl⟩
theorem mv_L_50 : am_LV RL 50 4 kX6_storm yX6_storm 0 := ⟨l0_X6_storm, (am_in (i := 424) (by decide +kernel) (by decide +kernel)), (am_in (i := 425) (by decide +kernel) (by decide +kernel)), (am_in (i := 426) (by decide +kernel) (by decide +kernel)), TX6, _, rfl⟩
theorem mv_L_53 : am_LV RL 53 4 kX6_fulfil yX6_fulfil 1 := ⟨l0_X6_fulfil, (am_in (i := 525) (by decide +kernel) (by decide +kernel)), (am_in (i := 526) (by decide +kernel) (by decide +kernel)), (am_in (i := 527) (by decide +kernel) (by decide +kernel)), TX6, _, rfl⟩
theorem mv_L_56 : am_LV RL 56 4 kX6_keep yX6_keep 1 := ⟨l0_X6_keep, (am_in (i := 537) (by decide +kernel) (by decide +kernel)), (am_in (i := 538) (by decide +kernel) (by decide +kernel)), (am_in (i := 539) (by decide +kernel) (by decide +kernel)), TX6, _, rfl⟩
theorem mv_L_59 : am_LV RL 59 4 kX6_goBack yX6_goBack 1 := ⟨l0_X6_goBack, (am_in (i := 542) (by decide +kernel) (by decide +kernel)), (am_in (i := 543) (by decide +kernel) (by decide +kernel)), (am_in (i := 544) (by decide +kernel) (by decide +kernel)), TX6, _, rfl⟩
theorem ms_L_62 : am_LS RL 62 kL_low yL_low 2 := ⟨l0_L_low, (am_in (i := 281) (by decide +kernel) (by decide +kernel)), (am_in (i := 282) (by decide +kernel) (by decide +kernel))⟩
theorem mv_L_67 : am_LV RL 67 4 kX6_trade yX6_trade 6 := ⟨l0_X6_trade, (am_in (i := 494) (by decide +kernel) (by decide +kernel)), (am_in (i := 495) (by decide +kernel) (by decide +kernel)), (am_in (i := 496) (by decide +kernel) (by decide +kernel)), TX6, _, rfl⟩
theorem kc_L_71 : Cond.constantLong RL 71 23 ∈ am_W := am_in (i := 481) (by decide +kernel) (by decide +kernel)
theorem kc_L_73 : Cond.constantLong RL 73 31 ∈ am_W := am_in (i := 482) (by decide +kernel) (by decide +kernel)
theorem ms_L_75 : am_LS RL 75 kL_storms yL_storms 1 := ⟨l0_L_storms, (am_in (i := 421) (by decide +kernel) (by decide +kernel)), (am_in (i := 422) (by decide +kernel) (by decide +kernel))⟩
theorem ms_L_79 : am_LS RL 79 kL_tale yL_tale 1 := ⟨l0_L_tale, (am_in (i := 478) (by decide +kernel) (by decide +kernel)), (am_in (i := 479) (by decide +kernel) (by decide +kernel))⟩
theorem mv_L_83 : am_LV RL 83 4 kX6_cross yX6_cross 2 := ⟨l0_X6_cross, (am_in (i := 483) (by decide +kernel) (by decide +kernel)), (am_in (i := 484) (by decide +kernel) (by decide +kernel)), (am_in (i := 485) (by decide +kernel) (by decide +kernel)), TX6, _, rfl⟩
theorem ms_L_86 : am_LS RL 86 kL_trades yL_trades 2 := ⟨l0_L_trades, (am_in (i := 491) (by decide +kernel) (by decide +kernel)), (am_in (i := 492) (by decide +kernel) (by decide +kernel))⟩
theorem mv_L_90 : am_LV RL 90 4 kX6_promise yX6_promise 4 := ⟨l0_X6_promise, (am_in (i := 514) (by decide +kernel) (by decide +kernel)), (am_in (i := 515) (by decide +kernel) (by decide +kernel)), (am_in (i := 516) (by decide +kernel) (by decide +kernel)), TX6, _, rfl⟩
theorem ms_L_94 : am_LS RL 94 kL_fulfils yL_fulfils 2 := ⟨l0_L_fulfils, (am_in (i := 522) (by decide +kernel) (by decide +kernel)), (am_in (i := 523) (by decide +kernel) (by decide +kernel))⟩
theorem ms_L_97 : am_LS RL 97 kL_waits yL_waits 2 := ⟨l0_L_waits, (am_in (i := 534) (by decide +kernel) (by decide +kernel)), (am_in (i := 535) (by decide +kernel) (by decide +kernel))⟩
theorem mv_L_100 : am_LV RL 100 4 kX6_worth yX6_worth 2 := ⟨l0_X6_worth, (am_in (i := 547) (by decide +kernel) (by decide +kernel)), (am_in (i := 548) (by decide +kernel) (by decide +kernel)), (am_in (i := 549) (by decide +kernel) (by decide +kernel)), TX6, _, rfl⟩
theorem ms_L_103 : am_LS RL 103 kL_pays yL_pays 3 := ⟨l0_L_pays, (am_in (i := 415) (by decide +kernel) (by decide +kernel)), (am_in (i := 416) (by decide +kernel) (by decide +kernel))⟩
theorem mv_L_107 : am_LV RL 107 4 kX6_set yX6_set 1 := ⟨l0_X6_set, (am_in (i := 555) (by decide +kernel) (by decide +kernel)), (am_in (i := 556) (by decide +kernel) (by decide +kernel)), (am_in (i := 557) (by decide +kernel) (by decide +kernel)), TX6, _, rfl⟩
theorem cn_L_11 : Cond.classLink RL 11 "StormPurses" ∈ am_W := (am_in (i := 26) (by decide +kernel) (by decide +kernel))
abbrev fs0_X6 : List Value := [.null, .null, .null, .null, .null, .null, .null]
theorem nw_L_11 : am_Nw RL 11 4 fs0_X6 7 := ⟨RX6, TX6, tyX6, cl_X6, cn_L_11, (am_in (i := 27) (by decide +kernel) (by decide +kernel)), (am_in (i := 13) (by decide +kernel) (by decide +kernel)), by decide +kernel⟩
theorem mi_L_110 : Cond.methodLink RL 110 yX6_init ∈ am_W := (am_in (i := 28) (by decide +kernel) (by decide +kernel))
theorem mj_L_110 : Cond.instanceMethod yX6_init ∈ am_W := (am_in (i := 29) (by decide +kernel) (by decide +kernel))
theorem ms_L_111 : am_LS RL 111 kL_arePurses yL_arePurses 1 := ⟨l0_L_arePurses, (am_in (i := 285) (by decide +kernel) (by decide +kernel)), (am_in (i := 286) (by decide +kernel) (by decide +kernel))⟩
theorem ms_L_114 : am_LS RL 114 kL_cell yL_cell 2 := ⟨l0_L_cell, (am_in (i := 276) (by decide +kernel) (by decide +kernel)), (am_in (i := 277) (by decide +kernel) (by decide +kernel))⟩
theorem ms_L_118 : am_LS RL 118 kL_act yL_act 3 := ⟨l0_L_act, (am_in (i := 418) (by decide +kernel) (by decide +kernel)), (am_in (i := 419) (by decide +kernel) (by decide +kernel))⟩
theorem ms_L_121 : am_LS RL 121 kL_arePromises yL_arePromises 1 := ⟨l0_L_arePromises, (am_in (i := 364) (by decide +kernel) (by decide +kernel)), (am_in (i := 365) (by decide +kernel) (by decide +kernel))⟩
theorem ot_57 : ∀ w ∈ vx_atS RX6 57 "java/lang/IllegalStateException" ["java/lang/RuntimeException", "java/lang/Exception"], w ∈ am_W ∨ w = .castable "java/lang/IllegalStateException" "java/lang/IllegalStateException" ∨ ∃ x ∈ am_Ds, w = .declares x := by
  have h : (vx_atS RX6 57 "java/lang/IllegalStateException" ["java/lang/RuntimeException", "java/lang/Exception"]).all (fun w => (decide (w ∈ lw_tbl) && goodWord w) || (decide (w = .castable "java/lang/IllegalStateException" "java/lang/IllegalStateException") || am_Ds.any (fun x => decide (w = .declares x)))) = true := by decide +kernel
  intro w hw
  have h2 := List.all_eq_true.mp h w hw
  simp only [Bool.or_eq_true, Bool.and_eq_true, decide_eq_true_eq] at h2
  rcases h2 with h3 | h3 | h3
  · exact Or.inl (List.mem_filter.mpr h3)
  · exact Or.inr (Or.inl h3)
  · obtain ⟨x, h4, h5⟩ := List.any_eq_true.mp h3
    exact Or.inr (Or.inr ⟨x, h4, of_decide_eq_true h5⟩)
theorem ie_57 : Cond.initialized "java/lang/IllegalStateException" ∈ am_W := (am_in (i := 24) (by decide +kernel) (by decide +kernel))
theorem ot_143 : ∀ w ∈ vx_atS RX6 143 "java/lang/IllegalArgumentException" ["java/lang/RuntimeException", "java/lang/Exception"], w ∈ am_W ∨ w = .castable "java/lang/IllegalArgumentException" "java/lang/IllegalArgumentException" ∨ ∃ x ∈ am_Ds, w = .declares x := by
  have h : (vx_atS RX6 143 "java/lang/IllegalArgumentException" ["java/lang/RuntimeException", "java/lang/Exception"]).all (fun w => (decide (w ∈ lw_tbl) && goodWord w) || (decide (w = .castable "java/lang/IllegalArgumentException" "java/lang/IllegalArgumentException") || am_Ds.any (fun x => decide (w = .declares x)))) = true := by decide +kernel
  intro w hw
  have h2 := List.all_eq_true.mp h w hw
  simp only [Bool.or_eq_true, Bool.and_eq_true, decide_eq_true_eq] at h2
  rcases h2 with h3 | h3 | h3
  · exact Or.inl (List.mem_filter.mpr h3)
  · exact Or.inr (Or.inl h3)
  · obtain ⟨x, h4, h5⟩ := List.any_eq_true.mp h3
    exact Or.inr (Or.inr ⟨x, h4, of_decide_eq_true h5⟩)
theorem ie_143 : Cond.initialized "java/lang/IllegalArgumentException" ∈ am_W := (am_in (i := 21) (by decide +kernel) (by decide +kernel))
theorem ot_326 : ∀ w ∈ vx_atS RX6 326 "java/lang/IndexOutOfBoundsException" ["java/lang/RuntimeException", "java/lang/Exception"], w ∈ am_W ∨ w = .castable "java/lang/IndexOutOfBoundsException" "java/lang/IndexOutOfBoundsException" ∨ ∃ x ∈ am_Ds, w = .declares x := by
  have h : (vx_atS RX6 326 "java/lang/IndexOutOfBoundsException" ["java/lang/RuntimeException", "java/lang/Exception"]).all (fun w => (decide (w ∈ lw_tbl) && goodWord w) || (decide (w = .castable "java/lang/IndexOutOfBoundsException" "java/lang/IndexOutOfBoundsException") || am_Ds.any (fun x => decide (w = .declares x)))) = true := by decide +kernel
  intro w hw
  have h2 := List.all_eq_true.mp h w hw
  simp only [Bool.or_eq_true, Bool.and_eq_true, decide_eq_true_eq] at h2
  rcases h2 with h3 | h3 | h3
  · exact Or.inl (List.mem_filter.mpr h3)
  · exact Or.inr (Or.inl h3)
  · obtain ⟨x, h4, h5⟩ := List.any_eq_true.mp h3
    exact Or.inr (Or.inr ⟨x, h4, of_decide_eq_true h5⟩)
theorem ie_326 : Cond.initialized "java/lang/IndexOutOfBoundsException" ∈ am_W := (am_in (i := 22) (by decide +kernel) (by decide +kernel))
theorem ac_i : Cond.arrayClass (newarray.typeOf .int) ∈ am_W := (am_in (i := 84) (by decide +kernel) (by decide +kernel))
theorem ac_c : Cond.arrayClass (newarray.typeOf .char) ∈ am_W := (am_in (i := 128) (by decide +kernel) (by decide +kernel))
theorem ac_z : Cond.arrayClass (newarray.typeOf .boolean) ∈ am_W := (am_in (i := 151) (by decide +kernel) (by decide +kernel))
