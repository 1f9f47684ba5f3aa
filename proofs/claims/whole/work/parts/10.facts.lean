/-! what the tables say of the links (own work, written by wip/tools/mk_facts.py) -/
theorem in_X1 : ∀ w ∈ u_ws RX1 TX1 2, w ∈ am_W := by
  intro w hw
  obtain ⟨k, hk, rfl⟩ := List.mem_map.mp hw
  have hk := List.mem_range.mp hk
  match k, hk with
  | 0, _ => exact (am_in (i := 144) (by decide +kernel) (by decide +kernel))
  | 1, _ => exact (am_in (i := 146) (by decide +kernel) (by decide +kernel))
  | k + 2, h => exact absurd h (by omega)
theorem cl_X1 : am_Cl 0 RX1 TX1 2 tyX1 := ⟨rfl, in_X1, tyX1_ok, nmX1⟩
theorem in_X2 : ∀ w ∈ u_ws RX2 TX2 12, w ∈ am_W := by
  intro w hw
  obtain ⟨k, hk, rfl⟩ := List.mem_map.mp hw
  have hk := List.mem_range.mp hk
  match k, hk with
  | 0, _ => exact (am_in (i := 106) (by decide +kernel) (by decide +kernel))
  | 1, _ => exact (am_in (i := 108) (by decide +kernel) (by decide +kernel))
  | 2, _ => exact (am_in (i := 110) (by decide +kernel) (by decide +kernel))
  | 3, _ => exact (am_in (i := 112) (by decide +kernel) (by decide +kernel))
  | 4, _ => exact (am_in (i := 114) (by decide +kernel) (by decide +kernel))
  | 5, _ => exact (am_in (i := 116) (by decide +kernel) (by decide +kernel))
  | 6, _ => exact (am_in (i := 118) (by decide +kernel) (by decide +kernel))
  | 7, _ => exact (am_in (i := 120) (by decide +kernel) (by decide +kernel))
  | 8, _ => exact (am_in (i := 122) (by decide +kernel) (by decide +kernel))
  | 9, _ => exact (am_in (i := 124) (by decide +kernel) (by decide +kernel))
  | 10, _ => exact (am_in (i := 126) (by decide +kernel) (by decide +kernel))
  | 11, _ => exact (am_in (i := 128) (by decide +kernel) (by decide +kernel))
  | k + 12, h => exact absurd h (by omega)
theorem cl_X2 : am_Cl 1 RX2 TX2 12 tyX2 := ⟨rfl, in_X2, tyX2_ok, nmX2⟩
theorem in_X4 : ∀ w ∈ u_ws RX4 TX4 2, w ∈ am_W := by
  intro w hw
  obtain ⟨k, hk, rfl⟩ := List.mem_map.mp hw
  have hk := List.mem_range.mp hk
  match k, hk with
  | 0, _ => exact (am_in (i := 172) (by decide +kernel) (by decide +kernel))
  | 1, _ => exact (am_in (i := 174) (by decide +kernel) (by decide +kernel))
  | k + 2, h => exact absurd h (by omega)
theorem cl_X4 : am_Cl 2 RX4 TX4 2 tyX4 := ⟨rfl, in_X4, tyX4_ok, nmX4⟩
theorem in_X5 : ∀ w ∈ u_ws RX5 TX5 2, w ∈ am_W := by
  intro w hw
  obtain ⟨k, hk, rfl⟩ := List.mem_map.mp hw
  have hk := List.mem_range.mp hk
  match k, hk with
  | 0, _ => exact (am_in (i := 158) (by decide +kernel) (by decide +kernel))
  | 1, _ => exact (am_in (i := 160) (by decide +kernel) (by decide +kernel))
  | k + 2, h => exact absurd h (by omega)
theorem cl_X5 : am_Cl 3 RX5 TX5 2 tyX5 := ⟨rfl, in_X5, tyX5_ok, nmX5⟩
theorem in_X6 : ∀ w ∈ u_ws RX6 TX6 7, w ∈ am_W := by
  intro w hw
  obtain ⟨k, hk, rfl⟩ := List.mem_map.mp hw
  have hk := List.mem_range.mp hk
  match k, hk with
  | 0, _ => exact (am_in (i := 185) (by decide +kernel) (by decide +kernel))
  | 1, _ => exact (am_in (i := 187) (by decide +kernel) (by decide +kernel))
  | 2, _ => exact (am_in (i := 189) (by decide +kernel) (by decide +kernel))
  | 3, _ => exact (am_in (i := 191) (by decide +kernel) (by decide +kernel))
  | 4, _ => exact (am_in (i := 193) (by decide +kernel) (by decide +kernel))
  | 5, _ => exact (am_in (i := 195) (by decide +kernel) (by decide +kernel))
  | 6, _ => exact (am_in (i := 197) (by decide +kernel) (by decide +kernel))
  | k + 7, h => exact absurd h (by omega)
theorem cl_X6 : am_Cl 4 RX6 TX6 7 tyX6 := ⟨rfl, in_X6, tyX6_ok, nmX6⟩
theorem in_X7 : ∀ w ∈ u_ws RX7 TX7 15, w ∈ am_W := by
  intro w hw
  obtain ⟨k, hk, rfl⟩ := List.mem_map.mp hw
  have hk := List.mem_range.mp hk
  match k, hk with
  | 0, _ => exact (am_in (i := 802) (by decide +kernel) (by decide +kernel))
  | 1, _ => exact (am_in (i := 804) (by decide +kernel) (by decide +kernel))
  | 2, _ => exact (am_in (i := 806) (by decide +kernel) (by decide +kernel))
  | 3, _ => exact (am_in (i := 808) (by decide +kernel) (by decide +kernel))
  | 4, _ => exact (am_in (i := 810) (by decide +kernel) (by decide +kernel))
  | 5, _ => exact (am_in (i := 812) (by decide +kernel) (by decide +kernel))
  | 6, _ => exact (am_in (i := 814) (by decide +kernel) (by decide +kernel))
  | 7, _ => exact (am_in (i := 816) (by decide +kernel) (by decide +kernel))
  | 8, _ => exact (am_in (i := 818) (by decide +kernel) (by decide +kernel))
  | 9, _ => exact (am_in (i := 820) (by decide +kernel) (by decide +kernel))
  | 10, _ => exact (am_in (i := 822) (by decide +kernel) (by decide +kernel))
  | 11, _ => exact (am_in (i := 824) (by decide +kernel) (by decide +kernel))
  | 12, _ => exact (am_in (i := 826) (by decide +kernel) (by decide +kernel))
  | 13, _ => exact (am_in (i := 828) (by decide +kernel) (by decide +kernel))
  | 14, _ => exact (am_in (i := 830) (by decide +kernel) (by decide +kernel))
  | k + 15, h => exact absurd h (by omega)
theorem cl_X7 : am_Cl 5 RX7 TX7 15 tyX7 := ⟨rfl, in_X7, tyX7_ok, nmX7⟩
abbrev kX1_init : Cond := .code yX1_init cX1_init 2 none
theorem l0_X1_init : am_L0 kX1_init yX1_init 0 := ⟨am_in (i := 136) (by decide +kernel) (by decide +kernel), (am_in (i := 58) (by decide +kernel) (by decide +kernel)), by decide +kernel, by decide +kernel, by decide +kernel⟩
theorem pl_X1_init : plainName yX1_init.cls = true := by decide +kernel
abbrev kX1_push : Cond := .code yX1_push cX1_push 2 none
theorem l0_X1_push : am_L0 kX1_push yX1_push 1 := ⟨am_in (i := 565) (by decide +kernel) (by decide +kernel), (am_in (i := 58) (by decide +kernel) (by decide +kernel)), by decide +kernel, by decide +kernel, by decide +kernel⟩
theorem pl_X1_push : plainName yX1_push.cls = true := by decide +kernel
abbrev kX1_pop : Cond := .code yX1_pop cX1_pop 2 none
theorem l0_X1_pop : am_L0 kX1_pop yX1_pop 1 := ⟨am_in (i := 744) (by decide +kernel) (by decide +kernel), (am_in (i := 58) (by decide +kernel) (by decide +kernel)), by decide +kernel, by decide +kernel, by decide +kernel⟩
theorem pl_X1_pop : plainName yX1_pop.cls = true := by decide +kernel
abbrev kX1_dropOldest : Cond := .code yX1_dropOldest cX1_dropOldest 3 none
theorem l0_X1_dropOldest : am_L0 kX1_dropOldest yX1_dropOldest 0 := ⟨am_in (i := 569) (by decide +kernel) (by decide +kernel), (am_in (i := 58) (by decide +kernel) (by decide +kernel)), by decide +kernel, by decide +kernel, by decide +kernel⟩
theorem pl_X1_dropOldest : plainName yX1_dropOldest.cls = true := by decide +kernel
abbrev kX2_init : Cond := .code yX2_init cX2_init 2 none
theorem l0_X2_init : am_L0 kX2_init yX2_init 0 := ⟨am_in (i := 85) (by decide +kernel) (by decide +kernel), (am_in (i := 57) (by decide +kernel) (by decide +kernel)), by decide +kernel, by decide +kernel, by decide +kernel⟩
theorem pl_X2_init : plainName yX2_init.cls = true := by decide +kernel
abbrev kX2_copy : Cond := .code yX2_copy cX2_copy 2 none
theorem l0_X2_copy : am_L0 kX2_copy yX2_copy 2 := ⟨am_in (i := 572) (by decide +kernel) (by decide +kernel), (am_in (i := 57) (by decide +kernel) (by decide +kernel)), by decide +kernel, by decide +kernel, by decide +kernel⟩
theorem pl_X2_copy : plainName yX2_copy.cls = true := by decide +kernel
abbrev kX2_become : Cond := .code yX2_become cX2_become 2 none
theorem l0_X2_become : am_L0 kX2_become yX2_become 1 := ⟨am_in (i := 576) (by decide +kernel) (by decide +kernel), (am_in (i := 57) (by decide +kernel) (by decide +kernel)), by decide +kernel, by decide +kernel, by decide +kernel⟩
theorem pl_X2_become : plainName yX2_become.cls = true := by decide +kernel
abbrev kX2_isIslander : Cond := .code yX2_isIslander cX2_isIslander 1 (some .boolean)
theorem l0_X2_isIslander : am_L0 kX2_isIslander yX2_isIslander 1 := ⟨am_in (i := 275) (by decide +kernel) (by decide +kernel), (am_in (i := 57) (by decide +kernel) (by decide +kernel)), by decide +kernel, by decide +kernel, by decide +kernel⟩
theorem pl_X2_isIslander : plainName yX2_isIslander.cls = true := by decide +kernel
abbrev kX2_isColour : Cond := .code yX2_isColour cX2_isColour 1 (some .boolean)
theorem l0_X2_isColour : am_L0 kX2_isColour yX2_isColour 1 := ⟨am_in (i := 278) (by decide +kernel) (by decide +kernel), (am_in (i := 57) (by decide +kernel) (by decide +kernel)), by decide +kernel, by decide +kernel, by decide +kernel⟩
theorem pl_X2_isColour : plainName yX2_isColour.cls = true := by decide +kernel
abbrev kX2_isPromise : Cond := .code yX2_isPromise cX2_isPromise 2 (some .boolean)
theorem l0_X2_isPromise : am_L0 kX2_isPromise yX2_isPromise 1 := ⟨am_in (i := 437) (by decide +kernel) (by decide +kernel), (am_in (i := 57) (by decide +kernel) (by decide +kernel)), by decide +kernel, by decide +kernel, by decide +kernel⟩
theorem pl_X2_isPromise : plainName yX2_isPromise.cls = true := by decide +kernel
abbrev kX2_capsOf : Cond := .code yX2_capsOf cX2_capsOf 3 (some .int)
theorem l0_X2_capsOf : am_L0 kX2_capsOf yX2_capsOf 2 := ⟨am_in (i := 272) (by decide +kernel) (by decide +kernel), (am_in (i := 57) (by decide +kernel) (by decide +kernel)), by decide +kernel, by decide +kernel, by decide +kernel⟩
theorem pl_X2_capsOf : plainName yX2_capsOf.cls = true := by decide +kernel
abbrev kX2_hand : Cond := .code yX2_hand cX2_hand 5 none
theorem l0_X2_hand : am_L0 kX2_hand yX2_hand 4 := ⟨am_in (i := 626) (by decide +kernel) (by decide +kernel), (am_in (i := 57) (by decide +kernel) (by decide +kernel)), by decide +kernel, by decide +kernel, by decide +kernel⟩
theorem pl_X2_hand : plainName yX2_hand.cls = true := by decide +kernel
abbrev kX2_worthOf : Cond := .code yX2_worthOf cX2_worthOf 2 (some .int)
theorem l0_X2_worthOf : am_L0 kX2_worthOf yX2_worthOf 1 := ⟨am_in (i := 282) (by decide +kernel) (by decide +kernel), (am_in (i := 57) (by decide +kernel) (by decide +kernel)), by decide +kernel, by decide +kernel, by decide +kernel⟩
theorem pl_X2_worthOf : plainName yX2_worthOf.cls = true := by decide +kernel
abbrev kX2_makeWorth : Cond := .code yX2_makeWorth cX2_makeWorth 3 none
theorem l0_X2_makeWorth : am_L0 kX2_makeWorth yX2_makeWorth 2 := ⟨am_in (i := 637) (by decide +kernel) (by decide +kernel), (am_in (i := 57) (by decide +kernel) (by decide +kernel)), by decide +kernel, by decide +kernel, by decide +kernel⟩
theorem pl_X2_makeWorth : plainName yX2_makeWorth.cls = true := by decide +kernel
abbrev kX2_purseWorth : Cond := .code yX2_purseWorth cX2_purseWorth 4 (some .int)
theorem l0_X2_purseWorth : am_L0 kX2_purseWorth yX2_purseWorth 1 := ⟨am_in (i := 268) (by decide +kernel) (by decide +kernel), (am_in (i := 57) (by decide +kernel) (by decide +kernel)), by decide +kernel, by decide +kernel, by decide +kernel⟩
theorem pl_X2_purseWorth : plainName yX2_purseWorth.cls = true := by decide +kernel
abbrev kX2_allCaps : Cond := .code yX2_allCaps cX2_allCaps 3 (some .int)
theorem l0_X2_allCaps : am_L0 kX2_allCaps yX2_allCaps 0 := ⟨am_in (i := 305) (by decide +kernel) (by decide +kernel), (am_in (i := 57) (by decide +kernel) (by decide +kernel)), by decide +kernel, by decide +kernel, by decide +kernel⟩
theorem pl_X2_allCaps : plainName yX2_allCaps.cls = true := by decide +kernel
abbrev kX2_allWorth : Cond := .code yX2_allWorth cX2_allWorth 3 (some .int)
theorem l0_X2_allWorth : am_L0 kX2_allWorth yX2_allWorth 0 := ⟨am_in (i := 290) (by decide +kernel) (by decide +kernel), (am_in (i := 57) (by decide +kernel) (by decide +kernel)), by decide +kernel, by decide +kernel, by decide +kernel⟩
theorem pl_X2_allWorth : plainName yX2_allWorth.cls = true := by decide +kernel
abbrev kX2_canStorm : Cond := .code yX2_canStorm cX2_canStorm 1 (some .boolean)
theorem l0_X2_canStorm : am_L0 kX2_canStorm yX2_canStorm 0 := ⟨am_in (i := 545) (by decide +kernel) (by decide +kernel), (am_in (i := 57) (by decide +kernel) (by decide +kernel)), by decide +kernel, by decide +kernel, by decide +kernel⟩
theorem pl_X2_canStorm : plainName yX2_canStorm.cls = true := by decide +kernel
abbrev kX2_blow : Cond := .code yX2_blow cX2_blow 3 (some .int)
theorem l0_X2_blow : am_L0 kX2_blow yX2_blow 0 := ⟨am_in (i := 583) (by decide +kernel) (by decide +kernel), (am_in (i := 57) (by decide +kernel) (by decide +kernel)), by decide +kernel, by decide +kernel, by decide +kernel⟩
theorem pl_X2_blow : plainName yX2_blow.cls = true := by decide +kernel
abbrev kX2_breakPromises : Cond := .code yX2_breakPromises cX2_breakPromises 3 (some .int)
theorem l0_X2_breakPromises : am_L0 kX2_breakPromises yX2_breakPromises 0 := ⟨am_in (i := 587) (by decide +kernel) (by decide +kernel), (am_in (i := 57) (by decide +kernel) (by decide +kernel)), by decide +kernel, by decide +kernel, by decide +kernel⟩
theorem pl_X2_breakPromises : plainName yX2_breakPromises.cls = true := by decide +kernel
abbrev kX2_leadsTo : Cond := .code yX2_leadsTo cX2_leadsTo 2 (some .int)
theorem l0_X2_leadsTo : am_L0 kX2_leadsTo yX2_leadsTo 1 := ⟨am_in (i := 420) (by decide +kernel) (by decide +kernel), (am_in (i := 57) (by decide +kernel) (by decide +kernel)), by decide +kernel, by decide +kernel, by decide +kernel⟩
theorem pl_X2_leadsTo : plainName yX2_leadsTo.cls = true := by decide +kernel
abbrev kX2_swapPaths : Cond := .code yX2_swapPaths cX2_swapPaths 4 none
theorem l0_X2_swapPaths : am_L0 kX2_swapPaths yX2_swapPaths 2 := ⟨am_in (i := 603) (by decide +kernel) (by decide +kernel), (am_in (i := 57) (by decide +kernel) (by decide +kernel)), by decide +kernel, by decide +kernel, by decide +kernel⟩
theorem pl_X2_swapPaths : plainName yX2_swapPaths.cls = true := by decide +kernel
abbrev kX2_along : Cond := .code yX2_along cX2_along 5 (some .int)
theorem l0_X2_along : am_L0 kX2_along yX2_along 2 := ⟨am_in (i := 450) (by decide +kernel) (by decide +kernel), (am_in (i := 57) (by decide +kernel) (by decide +kernel)), by decide +kernel, by decide +kernel, by decide +kernel⟩
theorem pl_X2_along : plainName yX2_along.cls = true := by decide +kernel
abbrev kX2_senderTo : Cond := .code yX2_senderTo cX2_senderTo 3 (some .int)
theorem l0_X2_senderTo : am_L0 kX2_senderTo yX2_senderTo 1 := ⟨am_in (i := 507) (by decide +kernel) (by decide +kernel), (am_in (i := 57) (by decide +kernel) (by decide +kernel)), by decide +kernel, by decide +kernel, by decide +kernel⟩
theorem pl_X2_senderTo : plainName yX2_senderTo.cls = true := by decide +kernel
abbrev kX2_circle : Cond := .code yX2_circle cX2_circle 4 (some .int)
theorem l0_X2_circle : am_L0 kX2_circle yX2_circle 1 := ⟨am_in (i := 424) (by decide +kernel) (by decide +kernel), (am_in (i := 57) (by decide +kernel) (by decide +kernel)), by decide +kernel, by decide +kernel, by decide +kernel⟩
theorem pl_X2_circle : plainName yX2_circle.cls = true := by decide +kernel
abbrev kX2_partOf : Cond := .code yX2_partOf cX2_partOf 3 (some .int)
theorem l0_X2_partOf : am_L0 kX2_partOf yX2_partOf 2 := ⟨am_in (i := 433) (by decide +kernel) (by decide +kernel), (am_in (i := 57) (by decide +kernel) (by decide +kernel)), by decide +kernel, by decide +kernel, by decide +kernel⟩
theorem pl_X2_partOf : plainName yX2_partOf.cls = true := by decide +kernel
abbrev kX2_makePromise : Cond := .code yX2_makePromise cX2_makePromise 6 (some .int)
theorem l0_X2_makePromise : am_L0 kX2_makePromise yX2_makePromise 4 := ⟨am_in (i := 655) (by decide +kernel) (by decide +kernel), (am_in (i := 57) (by decide +kernel) (by decide +kernel)), by decide +kernel, by decide +kernel, by decide +kernel⟩
theorem pl_X2_makePromise : plainName yX2_makePromise.cls = true := by decide +kernel
abbrev kX2_dropPromise : Cond := .code yX2_dropPromise cX2_dropPromise 3 none
theorem l0_X2_dropPromise : am_L0 kX2_dropPromise yX2_dropPromise 1 := ⟨am_in (i := 591) (by decide +kernel) (by decide +kernel), (am_in (i := 57) (by decide +kernel) (by decide +kernel)), by decide +kernel, by decide +kernel, by decide +kernel⟩
theorem pl_X2_dropPromise : plainName yX2_dropPromise.cls = true := by decide +kernel
abbrev kX2_sumOf : Cond := .code yX2_sumOf cX2_sumOf 5 (some .int)
theorem l0_X2_sumOf : am_L0 kX2_sumOf yX2_sumOf 2 := ⟨am_in (i := 429) (by decide +kernel) (by decide +kernel), (am_in (i := 57) (by decide +kernel) (by decide +kernel)), by decide +kernel, by decide +kernel, by decide +kernel⟩
theorem pl_X2_sumOf : plainName yX2_sumOf.cls = true := by decide +kernel
abbrev kX4_init : Cond := .code yX4_init cX4_init 1 none
theorem l0_X4_init : am_L0 kX4_init yX4_init 0 := ⟨am_in (i := 167) (by decide +kernel) (by decide +kernel), (am_in (i := 60) (by decide +kernel) (by decide +kernel)), by decide +kernel, by decide +kernel, by decide +kernel⟩
theorem pl_X4_init : plainName yX4_init.cls = true := by decide +kernel
abbrev kX4_put : Cond := .code yX4_put cX4_put 2 none
theorem l0_X4_put : am_L0 kX4_put yX4_put 1 := ⟨am_in (i := 679) (by decide +kernel) (by decide +kernel), (am_in (i := 60) (by decide +kernel) (by decide +kernel)), by decide +kernel, by decide +kernel, by decide +kernel⟩
theorem pl_X4_put : plainName yX4_put.cls = true := by decide +kernel
abbrev kX4_signAt : Cond := .code yX4_signAt cX4_signAt 2 (some .char)
theorem l0_X4_signAt : am_L0 kX4_signAt yX4_signAt 1 := ⟨am_in (i := 222) (by decide +kernel) (by decide +kernel), (am_in (i := 60) (by decide +kernel) (by decide +kernel)), by decide +kernel, by decide +kernel, by decide +kernel⟩
theorem pl_X4_signAt : plainName yX4_signAt.cls = true := by decide +kernel
abbrev kX4_errorAt : Cond := .code yX4_errorAt cX4_errorAt 3 (some .int)
theorem l0_X4_errorAt : am_L0 kX4_errorAt yX4_errorAt 0 := ⟨am_in (i := 212) (by decide +kernel) (by decide +kernel), (am_in (i := 60) (by decide +kernel) (by decide +kernel)), by decide +kernel, by decide +kernel, by decide +kernel⟩
theorem pl_X4_errorAt : plainName yX4_errorAt.cls = true := by decide +kernel
abbrev kX4_tellsOrders : Cond := .code yX4_tellsOrders cX4_tellsOrders 3 (some .boolean)
theorem l0_X4_tellsOrders : am_L0 kX4_tellsOrders yX4_tellsOrders 0 := ⟨am_in (i := 690) (by decide +kernel) (by decide +kernel), (am_in (i := 60) (by decide +kernel) (by decide +kernel)), by decide +kernel, by decide +kernel, by decide +kernel⟩
theorem pl_X4_tellsOrders : plainName yX4_tellsOrders.cls = true := by decide +kernel
abbrev kX4_stepBehind : Cond := .code yX4_stepBehind cX4_stepBehind 4 (some (.object "StormPurses$Step"))
theorem l0_X4_stepBehind : am_L0 kX4_stepBehind yX4_stepBehind 2 := ⟨am_in (i := 218) (by decide +kernel) (by decide +kernel), (am_in (i := 60) (by decide +kernel) (by decide +kernel)), by decide +kernel, by decide +kernel, by decide +kernel⟩
theorem pl_X4_stepBehind : plainName yX4_stepBehind.cls = true := by decide +kernel
abbrev kX4_stepInto : Cond := .code yX4_stepInto cX4_stepInto 1 (some (.object "StormPurses$Step"))
theorem l0_X4_stepInto : am_L0 kX4_stepInto yX4_stepInto 1 := ⟨am_in (i := 233) (by decide +kernel) (by decide +kernel), (am_in (i := 60) (by decide +kernel) (by decide +kernel)), by decide +kernel, by decide +kernel, by decide +kernel⟩
theorem pl_X4_stepInto : plainName yX4_stepInto.cls = true := by decide +kernel
abbrev kX4_ifIn : Cond := .code yX4_ifIn cX4_ifIn 4 (some (.object "StormPurses$Step"))
theorem l0_X4_ifIn : am_L0 kX4_ifIn yX4_ifIn 4 := ⟨am_in (i := 248) (by decide +kernel) (by decide +kernel), (am_in (i := 60) (by decide +kernel) (by decide +kernel)), by decide +kernel, by decide +kernel, by decide +kernel⟩
theorem pl_X4_ifIn : plainName yX4_ifIn.cls = true := by decide +kernel
abbrev kX4_nextOrder : Cond := .code yX4_nextOrder cX4_nextOrder 3 (some .int)
theorem l0_X4_nextOrder : am_L0 kX4_nextOrder yX4_nextOrder 1 := ⟨am_in (i := 716) (by decide +kernel) (by decide +kernel), (am_in (i := 60) (by decide +kernel) (by decide +kernel)), by decide +kernel, by decide +kernel, by decide +kernel⟩
theorem pl_X4_nextOrder : plainName yX4_nextOrder.cls = true := by decide +kernel
abbrev kX4_digitAt : Cond := .code yX4_digitAt cX4_digitAt 3 (some .int)
theorem l0_X4_digitAt : am_L0 kX4_digitAt yX4_digitAt 1 := ⟨am_in (i := 699) (by decide +kernel) (by decide +kernel), (am_in (i := 60) (by decide +kernel) (by decide +kernel)), by decide +kernel, by decide +kernel, by decide +kernel⟩
theorem pl_X4_digitAt : plainName yX4_digitAt.cls = true := by decide +kernel
abbrev kX4_sumOfOrder : Cond := .code yX4_sumOfOrder cX4_sumOfOrder 4 (some .int)
theorem l0_X4_sumOfOrder : am_L0 kX4_sumOfOrder yX4_sumOfOrder 1 := ⟨am_in (i := 707) (by decide +kernel) (by decide +kernel), (am_in (i := 60) (by decide +kernel) (by decide +kernel)), by decide +kernel, by decide +kernel, by decide +kernel⟩
theorem pl_X4_sumOfOrder : plainName yX4_sumOfOrder.cls = true := by decide +kernel
abbrev kX4_daysOfOrder : Cond := .code yX4_daysOfOrder cX4_daysOfOrder 2 (some .int)
theorem l0_X4_daysOfOrder : am_L0 kX4_daysOfOrder yX4_daysOfOrder 1 := ⟨am_in (i := 712) (by decide +kernel) (by decide +kernel), (am_in (i := 60) (by decide +kernel) (by decide +kernel)), by decide +kernel, by decide +kernel, by decide +kernel⟩
theorem pl_X4_daysOfOrder : plainName yX4_daysOfOrder.cls = true := by decide +kernel
abbrev kX5_init : Cond := .code yX5_init cX5_init 1 none
theorem l0_X5_init : am_L0 kX5_init yX5_init 0 := ⟨am_in (i := 153) (by decide +kernel) (by decide +kernel), (am_in (i := 59) (by decide +kernel) (by decide +kernel)), by decide +kernel, by decide +kernel, by decide +kernel⟩
theorem pl_X5_init : plainName yX5_init.cls = true := by decide +kernel
abbrev kX5_leastByColours : Cond := .code yX5_leastByColours cX5_leastByColours 5 (some .int)
theorem l0_X5_leastByColours : am_L0 kX5_leastByColours yX5_leastByColours 3 := ⟨am_in (i := 458) (by decide +kernel) (by decide +kernel), (am_in (i := 59) (by decide +kernel) (by decide +kernel)), by decide +kernel, by decide +kernel, by decide +kernel⟩
theorem pl_X5_leastByColours : plainName yX5_leastByColours.cls = true := by decide +kernel
abbrev kX5_addColour : Cond := .code yX5_addColour cX5_addColour 6 none
theorem l0_X5_addColour : am_L0 kX5_addColour yX5_addColour 3 := ⟨am_in (i := 465) (by decide +kernel) (by decide +kernel), (am_in (i := 59) (by decide +kernel) (by decide +kernel)), by decide +kernel, by decide +kernel, by decide +kernel⟩
theorem pl_X5_addColour : plainName yX5_addColour.cls = true := by decide +kernel
abbrev kX5_leastByTrying : Cond := .code yX5_leastByTrying cX5_leastByTrying 11 (some .int)
theorem l0_X5_leastByTrying : am_L0 kX5_leastByTrying yX5_leastByTrying 3 := ⟨am_in (i := 472) (by decide +kernel) (by decide +kernel), (am_in (i := 59) (by decide +kernel) (by decide +kernel)), by decide +kernel, by decide +kernel, by decide +kernel⟩
theorem pl_X5_leastByTrying : plainName yX5_leastByTrying.cls = true := by decide +kernel
abbrev kX5_wholeCaps : Cond := .code yX5_wholeCaps cX5_wholeCaps 2 (some .int)
theorem l0_X5_wholeCaps : am_L0 kX5_wholeCaps yX5_wholeCaps 2 := ⟨am_in (i := 475) (by decide +kernel) (by decide +kernel), (am_in (i := 59) (by decide +kernel) (by decide +kernel)), by decide +kernel, by decide +kernel, by decide +kernel⟩
theorem pl_X5_wholeCaps : plainName yX5_wholeCaps.cls = true := by decide +kernel
abbrev kX5_note : Cond := .code yX5_note cX5_note 5 none
theorem l0_X5_note : am_L0 kX5_note yX5_note 4 := ⟨am_in (i := 479) (by decide +kernel) (by decide +kernel), (am_in (i := 59) (by decide +kernel) (by decide +kernel)), by decide +kernel, by decide +kernel, by decide +kernel⟩
theorem pl_X5_note : plainName yX5_note.cls = true := by decide +kernel
abbrev kX6_init : Cond := .code yX6_init cX6_init 2 none
theorem l0_X6_init : am_L0 kX6_init yX6_init 0 := ⟨am_in (i := 77) (by decide +kernel) (by decide +kernel), (am_in (i := 56) (by decide +kernel) (by decide +kernel)), by decide +kernel, by decide +kernel, by decide +kernel⟩
theorem pl_X6_init : plainName yX6_init.cls = true := by decide +kernel
abbrev kX6_storm : Cond := .code yX6_storm cX6_storm 1 (some .int)
theorem l0_X6_storm : am_L0 kX6_storm yX6_storm 0 := ⟨am_in (i := 541) (by decide +kernel) (by decide +kernel), (am_in (i := 56) (by decide +kernel) (by decide +kernel)), by decide +kernel, by decide +kernel, by decide +kernel⟩
theorem pl_X6_storm : plainName yX6_storm.cls = true := by decide +kernel
abbrev kX6_cross : Cond := .code yX6_cross cX6_cross 3 (some .int)
theorem l0_X6_cross : am_L0 kX6_cross yX6_cross 2 := ⟨am_in (i := 599) (by decide +kernel) (by decide +kernel), (am_in (i := 56) (by decide +kernel) (by decide +kernel)), by decide +kernel, by decide +kernel, by decide +kernel⟩
theorem pl_X6_cross : plainName yX6_cross.cls = true := by decide +kernel
abbrev kX6_trade : Cond := .code yX6_trade cX6_trade 8 (some .int)
theorem l0_X6_trade : am_L0 kX6_trade yX6_trade 6 := ⟨am_in (i := 611) (by decide +kernel) (by decide +kernel), (am_in (i := 56) (by decide +kernel) (by decide +kernel)), by decide +kernel, by decide +kernel, by decide +kernel⟩
theorem pl_X6_trade : plainName yX6_trade.cls = true := by decide +kernel
abbrev kX6_worth : Cond := .code yX6_worth cX6_worth 4 (some .int)
theorem l0_X6_worth : am_L0 kX6_worth yX6_worth 2 := ⟨am_in (i := 633) (by decide +kernel) (by decide +kernel), (am_in (i := 56) (by decide +kernel) (by decide +kernel)), by decide +kernel, by decide +kernel, by decide +kernel⟩
theorem pl_X6_worth : plainName yX6_worth.cls = true := by decide +kernel
abbrev kX6_set : Cond := .code yX6_set cX6_set 3 (some .int)
theorem l0_X6_set : am_L0 kX6_set yX6_set 1 := ⟨am_in (i := 644) (by decide +kernel) (by decide +kernel), (am_in (i := 56) (by decide +kernel) (by decide +kernel)), by decide +kernel, by decide +kernel, by decide +kernel⟩
theorem pl_X6_set : plainName yX6_set.cls = true := by decide +kernel
abbrev kX6_promise : Cond := .code yX6_promise cX6_promise 5 (some .int)
theorem l0_X6_promise : am_L0 kX6_promise yX6_promise 4 := ⟨am_in (i := 651) (by decide +kernel) (by decide +kernel), (am_in (i := 56) (by decide +kernel) (by decide +kernel)), by decide +kernel, by decide +kernel, by decide +kernel⟩
theorem pl_X6_promise : plainName yX6_promise.cls = true := by decide +kernel
abbrev kX6_fulfil : Cond := .code yX6_fulfil cX6_fulfil 2 (some .int)
theorem l0_X6_fulfil : am_L0 kX6_fulfil yX6_fulfil 1 := ⟨am_in (i := 662) (by decide +kernel) (by decide +kernel), (am_in (i := 56) (by decide +kernel) (by decide +kernel)), by decide +kernel, by decide +kernel, by decide +kernel⟩
theorem pl_X6_fulfil : plainName yX6_fulfil.cls = true := by decide +kernel
abbrev kX6_append : Cond := .code yX6_append cX6_append 2 (some .int)
theorem l0_X6_append : am_L0 kX6_append yX6_append 1 := ⟨am_in (i := 674) (by decide +kernel) (by decide +kernel), (am_in (i := 56) (by decide +kernel) (by decide +kernel)), by decide +kernel, by decide +kernel, by decide +kernel⟩
theorem pl_X6_append : plainName yX6_append.cls = true := by decide +kernel
abbrev kX6_clearBuffer : Cond := .code yX6_clearBuffer cX6_clearBuffer 2 (some .int)
theorem l0_X6_clearBuffer : am_L0 kX6_clearBuffer yX6_clearBuffer 0 := ⟨am_in (i := 204) (by decide +kernel) (by decide +kernel), (am_in (i := 56) (by decide +kernel) (by decide +kernel)), by decide +kernel, by decide +kernel, by decide +kernel⟩
theorem pl_X6_clearBuffer : plainName yX6_clearBuffer.cls = true := by decide +kernel
abbrev kX6_firstError : Cond := .code yX6_firstError cX6_firstError 1 (some .int)
theorem l0_X6_firstError : am_L0 kX6_firstError yX6_firstError 0 := ⟨am_in (i := 208) (by decide +kernel) (by decide +kernel), (am_in (i := 56) (by decide +kernel) (by decide +kernel)), by decide +kernel, by decide +kernel, by decide +kernel⟩
theorem pl_X6_firstError : plainName yX6_firstError.cls = true := by decide +kernel
abbrev kX6_run : Cond := .code yX6_run cX6_run 3 (some .int)
theorem l0_X6_run : am_L0 kX6_run yX6_run 0 := ⟨am_in (i := 686) (by decide +kernel) (by decide +kernel), (am_in (i := 56) (by decide +kernel) (by decide +kernel)), by decide +kernel, by decide +kernel, by decide +kernel⟩
theorem pl_X6_run : plainName yX6_run.cls = true := by decide +kernel
abbrev kX6_keep : Cond := .code yX6_keep cX6_keep 2 (some .int)
theorem l0_X6_keep : am_L0 kX6_keep yX6_keep 1 := ⟨am_in (i := 723) (by decide +kernel) (by decide +kernel), (am_in (i := 56) (by decide +kernel) (by decide +kernel)), by decide +kernel, by decide +kernel, by decide +kernel⟩
theorem pl_X6_keep : plainName yX6_keep.cls = true := by decide +kernel
abbrev kX6_goBack : Cond := .code yX6_goBack cX6_goBack 2 (some .int)
theorem l0_X6_goBack : am_L0 kX6_goBack yX6_goBack 1 := ⟨am_in (i := 731) (by decide +kernel) (by decide +kernel), (am_in (i := 56) (by decide +kernel) (by decide +kernel)), by decide +kernel, by decide +kernel, by decide +kernel⟩
theorem pl_X6_goBack : plainName yX6_goBack.cls = true := by decide +kernel
abbrev kX6_undo : Cond := .code yX6_undo cX6_undo 1 (some .int)
theorem l0_X6_undo : am_L0 kX6_undo yX6_undo 0 := ⟨am_in (i := 739) (by decide +kernel) (by decide +kernel), (am_in (i := 56) (by decide +kernel) (by decide +kernel)), by decide +kernel, by decide +kernel, by decide +kernel⟩
theorem pl_X6_undo : plainName yX6_undo.cls = true := by decide +kernel
abbrev kX6_caps : Cond := .code yX6_caps cX6_caps 3 (some .int)
theorem l0_X6_caps : am_L0 kX6_caps yX6_caps 2 := ⟨am_in (i := 386) (by decide +kernel) (by decide +kernel), (am_in (i := 56) (by decide +kernel) (by decide +kernel)), by decide +kernel, by decide +kernel, by decide +kernel⟩
theorem pl_X6_caps : plainName yX6_caps.cls = true := by decide +kernel
abbrev kX6_islanderOf : Cond := .code yX6_islanderOf cX6_islanderOf 3 (some .int)
theorem l0_X6_islanderOf : am_L0 kX6_islanderOf yX6_islanderOf 2 := ⟨am_in (i := 416) (by decide +kernel) (by decide +kernel), (am_in (i := 56) (by decide +kernel) (by decide +kernel)), by decide +kernel, by decide +kernel, by decide +kernel⟩
theorem pl_X6_islanderOf : plainName yX6_islanderOf.cls = true := by decide +kernel
abbrev kX6_promiseOf : Cond := .code yX6_promiseOf cX6_promiseOf 3 (some .int)
theorem l0_X6_promiseOf : am_L0 kX6_promiseOf yX6_promiseOf 2 := ⟨am_in (i := 492) (by decide +kernel) (by decide +kernel), (am_in (i := 56) (by decide +kernel) (by decide +kernel)), by decide +kernel, by decide +kernel, by decide +kernel⟩
theorem pl_X6_promiseOf : plainName yX6_promiseOf.cls = true := by decide +kernel
abbrev kX6_owed : Cond := .code yX6_owed cX6_owed 5 (some .int)
theorem l0_X6_owed : am_L0 kX6_owed yX6_owed 2 := ⟨am_in (i := 483) (by decide +kernel) (by decide +kernel), (am_in (i := 56) (by decide +kernel) (by decide +kernel)), by decide +kernel, by decide +kernel, by decide +kernel⟩
theorem pl_X6_owed : plainName yX6_owed.cls = true := by decide +kernel
abbrev kX6_count : Cond := .code yX6_count cX6_count 2 (some .int)
theorem l0_X6_count : am_L0 kX6_count yX6_count 1 := ⟨am_in (i := 301) (by decide +kernel) (by decide +kernel), (am_in (i := 56) (by decide +kernel) (by decide +kernel)), by decide +kernel, by decide +kernel, by decide +kernel⟩
theorem pl_X6_count : plainName yX6_count.cls = true := by decide +kernel
abbrev kX6_where : Cond := .code yX6_where cX6_where 5 (some .int)
theorem l0_X6_where : am_L0 kX6_where yX6_where 3 := ⟨am_in (i := 442) (by decide +kernel) (by decide +kernel), (am_in (i := 56) (by decide +kernel) (by decide +kernel)), by decide +kernel, by decide +kernel, by decide +kernel⟩
theorem pl_X6_where : plainName yX6_where.cls = true := by decide +kernel
abbrev kX6_homeIn : Cond := .code yX6_homeIn cX6_homeIn 2 (some .int)
theorem l0_X6_homeIn : am_L0 kX6_homeIn yX6_homeIn 1 := ⟨am_in (i := 511) (by decide +kernel) (by decide +kernel), (am_in (i := 56) (by decide +kernel) (by decide +kernel)), by decide +kernel, by decide +kernel, by decide +kernel⟩
theorem pl_X6_homeIn : plainName yX6_homeIn.cls = true := by decide +kernel
abbrev kX6_fewest : Cond := .code yX6_fewest cX6_fewest 4 (some .int)
theorem l0_X6_fewest : am_L0 kX6_fewest yX6_fewest 3 := ⟨am_in (i := 454) (by decide +kernel) (by decide +kernel), (am_in (i := 56) (by decide +kernel) (by decide +kernel)), by decide +kernel, by decide +kernel, by decide +kernel⟩
theorem pl_X6_fewest : plainName yX6_fewest.cls = true := by decide +kernel
abbrev kX6_richest : Cond := .code yX6_richest cX6_richest 3 (some .int)
theorem l0_X6_richest : am_L0 kX6_richest yX6_richest 0 := ⟨am_in (i := 264) (by decide +kernel) (by decide +kernel), (am_in (i := 56) (by decide +kernel) (by decide +kernel)), by decide +kernel, by decide +kernel, by decide +kernel⟩
theorem pl_X6_richest : plainName yX6_richest.cls = true := by decide +kernel
abbrev kX6_canKeepIn : Cond := .code yX6_canKeepIn cX6_canKeepIn 6 (some .int)
theorem l0_X6_canKeepIn : am_L0 kX6_canKeepIn yX6_canKeepIn 1 := ⟨am_in (i := 502) (by decide +kernel) (by decide +kernel), (am_in (i := 56) (by decide +kernel) (by decide +kernel)), by decide +kernel, by decide +kernel, by decide +kernel⟩
theorem pl_X6_canKeepIn : plainName yX6_canKeepIn.cls = true := by decide +kernel
abbrev kX6_richShare : Cond := .code yX6_richShare cX6_richShare 2 (some .double)
theorem l0_X6_richShare : am_L0 kX6_richShare yX6_richShare 0 := ⟨am_in (i := 286) (by decide +kernel) (by decide +kernel), (am_in (i := 56) (by decide +kernel) (by decide +kernel)), by decide +kernel, by decide +kernel, by decide +kernel⟩
theorem pl_X6_richShare : plainName yX6_richShare.cls = true := by decide +kernel
abbrev kX6_digest : Cond := .code yX6_digest cX6_digest 4 (some .long)
theorem l0_X6_digest : am_L0 kX6_digest yX6_digest 0 := ⟨am_in (i := 296) (by decide +kernel) (by decide +kernel), (am_in (i := 56) (by decide +kernel) (by decide +kernel)), by decide +kernel, by decide +kernel, by decide +kernel⟩
theorem pl_X6_digest : plainName yX6_digest.cls = true := by decide +kernel
abbrev kX6_mixed : Cond := .code yX6_mixed cX6_mixed 4 (some .long)
theorem l0_X6_mixed : am_L0 kX6_mixed yX6_mixed 2 := ⟨am_in (i := 376) (by decide +kernel) (by decide +kernel), (am_in (i := 56) (by decide +kernel) (by decide +kernel)), by decide +kernel, by decide +kernel, by decide +kernel⟩
theorem pl_X6_mixed : plainName yX6_mixed.cls = true := by decide +kernel
abbrev kX6_withIslander : Cond := .code yX6_withIslander cX6_withIslander 7 (some .long)
theorem l0_X6_withIslander : am_L0 kX6_withIslander yX6_withIslander 2 := ⟨am_in (i := 382) (by decide +kernel) (by decide +kernel), (am_in (i := 56) (by decide +kernel) (by decide +kernel)), by decide +kernel, by decide +kernel, by decide +kernel⟩
theorem pl_X6_withIslander : plainName yX6_withIslander.cls = true := by decide +kernel
abbrev kX6_withPromise : Cond := .code yX6_withPromise cX6_withPromise 7 (some .long)
theorem l0_X6_withPromise : am_L0 kX6_withPromise yX6_withPromise 2 := ⟨am_in (i := 488) (by decide +kernel) (by decide +kernel), (am_in (i := 56) (by decide +kernel) (by decide +kernel)), by decide +kernel, by decide +kernel, by decide +kernel⟩
theorem pl_X6_withPromise : plainName yX6_withPromise.cls = true := by decide +kernel
abbrev kX6_bitsOfShare : Cond := .code yX6_bitsOfShare cX6_bitsOfShare 7 (some .long)
theorem l0_X6_bitsOfShare : am_L0 kX6_bitsOfShare yX6_bitsOfShare 1 := ⟨am_in (i := 530) (by decide +kernel) (by decide +kernel), (am_in (i := 56) (by decide +kernel) (by decide +kernel)), by decide +kernel, by decide +kernel, by decide +kernel⟩
theorem pl_X6_bitsOfShare : plainName yX6_bitsOfShare.cls = true := by decide +kernel
abbrev kX6_reasonAgainst : Cond := .code yX6_reasonAgainst cX6_reasonAgainst 8 (some .int)
theorem l0_X6_reasonAgainst : am_L0 kX6_reasonAgainst yX6_reasonAgainst 6 := ⟨am_in (i := 619) (by decide +kernel) (by decide +kernel), (am_in (i := 56) (by decide +kernel) (by decide +kernel)), by decide +kernel, by decide +kernel, by decide +kernel⟩
theorem pl_X6_reasonAgainst : plainName yX6_reasonAgainst.cls = true := by decide +kernel
abbrev kX6_keepPromise : Cond := .code yX6_keepPromise cX6_keepPromise 6 (some .int)
theorem l0_X6_keepPromise : am_L0 kX6_keepPromise yX6_keepPromise 1 := ⟨am_in (i := 666) (by decide +kernel) (by decide +kernel), (am_in (i := 56) (by decide +kernel) (by decide +kernel)), by decide +kernel, by decide +kernel, by decide +kernel⟩
theorem pl_X6_keepPromise : plainName yX6_keepPromise.cls = true := by decide +kernel
abbrev kX6_isDone : Cond := .code yX6_isDone cX6_isDone 4 (some .boolean)
theorem l0_X6_isDone : am_L0 kX6_isDone yX6_isDone 1 := ⟨am_in (i := 695) (by decide +kernel) (by decide +kernel), (am_in (i := 56) (by decide +kernel) (by decide +kernel)), by decide +kernel, by decide +kernel, by decide +kernel⟩
theorem pl_X6_isDone : plainName yX6_isDone.cls = true := by decide +kernel
abbrev kX6_isStormDone : Cond := .code yX6_isStormDone cX6_isStormDone 1 (some .boolean)
theorem l0_X6_isStormDone : am_L0 kX6_isStormDone yX6_isStormDone 0 := ⟨am_in (i := 703) (by decide +kernel) (by decide +kernel), (am_in (i := 56) (by decide +kernel) (by decide +kernel)), by decide +kernel, by decide +kernel, by decide +kernel⟩
theorem pl_X6_isStormDone : plainName yX6_isStormDone.cls = true := by decide +kernel
abbrev kX6_homeByCircles : Cond := .code yX6_homeByCircles cX6_homeByCircles 3 (some .int)
theorem l0_X6_homeByCircles : am_L0 kX6_homeByCircles yX6_homeByCircles 0 := ⟨am_in (i := 515) (by decide +kernel) (by decide +kernel), (am_in (i := 56) (by decide +kernel) (by decide +kernel)), by decide +kernel, by decide +kernel, by decide +kernel⟩
theorem pl_X6_homeByCircles : plainName yX6_homeByCircles.cls = true := by decide +kernel
abbrev kX6_homeByTrying : Cond := .code yX6_homeByTrying cX6_homeByTrying 3 (some .int)
theorem l0_X6_homeByTrying : am_L0 kX6_homeByTrying yX6_homeByTrying 0 := ⟨am_in (i := 522) (by decide +kernel) (by decide +kernel), (am_in (i := 56) (by decide +kernel) (by decide +kernel)), by decide +kernel, by decide +kernel, by decide +kernel⟩
theorem pl_X6_homeByTrying : plainName yX6_homeByTrying.cls = true := by decide +kernel
abbrev kX6_areHome : Cond := .code yX6_areHome cX6_areHome 2 (some .boolean)
theorem l0_X6_areHome : am_L0 kX6_areHome yX6_areHome 0 := ⟨am_in (i := 526) (by decide +kernel) (by decide +kernel), (am_in (i := 56) (by decide +kernel) (by decide +kernel)), by decide +kernel, by decide +kernel, by decide +kernel⟩
theorem pl_X6_areHome : plainName yX6_areHome.cls = true := by decide +kernel
abbrev kX6_leastCommonMultiple : Cond := .code yX6_leastCommonMultiple cX6_leastCommonMultiple 4 (some .int)
theorem l0_X6_leastCommonMultiple : am_L0 kX6_leastCommonMultiple yX6_leastCommonMultiple 2 := ⟨am_in (i := 518) (by decide +kernel) (by decide +kernel), (am_in (i := 56) (by decide +kernel) (by decide +kernel)), by decide +kernel, by decide +kernel, by decide +kernel⟩
theorem pl_X6_leastCommonMultiple : plainName yX6_leastCommonMultiple.cls = true := by decide +kernel
abbrev kX6_needIslander : Cond := .code yX6_needIslander cX6_needIslander 1 none
theorem l0_X6_needIslander : am_L0 kX6_needIslander yX6_needIslander 1 := ⟨am_in (i := 389) (by decide +kernel) (by decide +kernel), (am_in (i := 56) (by decide +kernel) (by decide +kernel)), by decide +kernel, by decide +kernel, by decide +kernel⟩
theorem pl_X6_needIslander : plainName yX6_needIslander.cls = true := by decide +kernel
abbrev kX6_needColour : Cond := .code yX6_needColour cX6_needColour 1 none
theorem l0_X6_needColour : am_L0 kX6_needColour yX6_needColour 1 := ⟨am_in (i := 409) (by decide +kernel) (by decide +kernel), (am_in (i := 56) (by decide +kernel) (by decide +kernel)), by decide +kernel, by decide +kernel, by decide +kernel⟩
theorem pl_X6_needColour : plainName yX6_needColour.cls = true := by decide +kernel
abbrev kX6_needPromise : Cond := .code yX6_needPromise cX6_needPromise 2 none
theorem l0_X6_needPromise : am_L0 kX6_needPromise yX6_needPromise 1 := ⟨am_in (i := 496) (by decide +kernel) (by decide +kernel), (am_in (i := 56) (by decide +kernel) (by decide +kernel)), by decide +kernel, by decide +kernel, by decide +kernel⟩
theorem pl_X6_needPromise : plainName yX6_needPromise.cls = true := by decide +kernel
abbrev kX6_needOthers : Cond := .code yX6_needOthers cX6_needOthers 2 none
theorem l0_X6_needOthers : am_L0 kX6_needOthers yX6_needOthers 2 := ⟨am_in (i := 614) (by decide +kernel) (by decide +kernel), (am_in (i := 56) (by decide +kernel) (by decide +kernel)), by decide +kernel, by decide +kernel, by decide +kernel⟩
theorem pl_X6_needOthers : plainName yX6_needOthers.cls = true := by decide +kernel
abbrev kX6_needRange : Cond := .code yX6_needRange cX6_needRange 3 none
theorem l0_X6_needRange : am_L0 kX6_needRange yX6_needRange 3 := ⟨am_in (i := 445) (by decide +kernel) (by decide +kernel), (am_in (i := 56) (by decide +kernel) (by decide +kernel)), by decide +kernel, by decide +kernel, by decide +kernel⟩
theorem pl_X6_needRange : plainName yX6_needRange.cls = true := by decide +kernel
abbrev kX7_init : Cond := .code yX7_init cX7_init 2 none
theorem l0_X7_init : am_L0 kX7_init yX7_init 0 := ⟨am_in (i := 785) (by decide +kernel) (by decide +kernel), (am_in (i := 61) (by decide +kernel) (by decide +kernel)), by decide +kernel, by decide +kernel, by decide +kernel⟩
theorem pl_X7_init : plainName yX7_init.cls = true := by decide +kernel
abbrev kX7_thrown : Cond := .code yX7_thrown cX7_thrown 1 (some .int)
theorem l0_X7_thrown : am_L0 kX7_thrown yX7_thrown 0 := ⟨am_in (i := 836) (by decide +kernel) (by decide +kernel), (am_in (i := 61) (by decide +kernel) (by decide +kernel)), by decide +kernel, by decide +kernel, by decide +kernel⟩
theorem pl_X7_thrown : plainName yX7_thrown.cls = true := by decide +kernel
abbrev kX7_holds : Cond := .code yX7_holds cX7_holds 2 (some .boolean)
theorem l0_X7_holds : am_L0 kX7_holds yX7_holds 1 := ⟨am_in (i := 844) (by decide +kernel) (by decide +kernel), (am_in (i := 61) (by decide +kernel) (by decide +kernel)), by decide +kernel, by decide +kernel, by decide +kernel⟩
theorem pl_X7_holds : plainName yX7_holds.cls = true := by decide +kernel
abbrev kX7_in : Cond := .code yX7_in cX7_in 3 (some .boolean)
theorem l0_X7_in : am_L0 kX7_in yX7_in 3 := ⟨am_in (i := 873) (by decide +kernel) (by decide +kernel), (am_in (i := 61) (by decide +kernel) (by decide +kernel)), by decide +kernel, by decide +kernel, by decide +kernel⟩
theorem pl_X7_in : plainName yX7_in.cls = true := by decide +kernel
abbrev kX7_isIslander : Cond := .code yX7_isIslander cX7_isIslander 1 (some .boolean)
theorem l0_X7_isIslander : am_L0 kX7_isIslander yX7_isIslander 1 := ⟨am_in (i := 870) (by decide +kernel) (by decide +kernel), (am_in (i := 61) (by decide +kernel) (by decide +kernel)), by decide +kernel, by decide +kernel, by decide +kernel⟩
theorem pl_X7_isIslander : plainName yX7_isIslander.cls = true := by decide +kernel
abbrev kX7_isColour : Cond := .code yX7_isColour cX7_isColour 1 (some .boolean)
theorem l0_X7_isColour : am_L0 kX7_isColour yX7_isColour 1 := ⟨am_in (i := 884) (by decide +kernel) (by decide +kernel), (am_in (i := 61) (by decide +kernel) (by decide +kernel)), by decide +kernel, by decide +kernel, by decide +kernel⟩
theorem pl_X7_isColour : plainName yX7_isColour.cls = true := by decide +kernel
abbrev kX7_isSlot : Cond := .code yX7_isSlot cX7_isSlot 1 (some .boolean)
theorem l0_X7_isSlot : am_L0 kX7_isSlot yX7_isSlot 1 := ⟨am_in (i := 1001) (by decide +kernel) (by decide +kernel), (am_in (i := 61) (by decide +kernel) (by decide +kernel)), by decide +kernel, by decide +kernel, by decide +kernel⟩
theorem pl_X7_isSlot : plainName yX7_isSlot.cls = true := by decide +kernel
abbrev kX7_isPromise : Cond := .code yX7_isPromise cX7_isPromise 2 (some .boolean)
theorem l0_X7_isPromise : am_L0 kX7_isPromise yX7_isPromise 1 := ⟨am_in (i := 927) (by decide +kernel) (by decide +kernel), (am_in (i := 61) (by decide +kernel) (by decide +kernel)), by decide +kernel, by decide +kernel, by decide +kernel⟩
theorem pl_X7_isPromise : plainName yX7_isPromise.cls = true := by decide +kernel
abbrev kX7_of : Cond := .code yX7_of cX7_of 3 (some .int)
theorem l0_X7_of : am_L0 kX7_of yX7_of 2 := ⟨am_in (i := 859) (by decide +kernel) (by decide +kernel), (am_in (i := 61) (by decide +kernel) (by decide +kernel)), by decide +kernel, by decide +kernel, by decide +kernel⟩
theorem pl_X7_of : plainName yX7_of.cls = true := by decide +kernel
abbrev kX7_copy : Cond := .code yX7_copy cX7_copy 5 none
theorem l0_X7_copy : am_L0 kX7_copy yX7_copy 4 := ⟨am_in (i := 851) (by decide +kernel) (by decide +kernel), (am_in (i := 61) (by decide +kernel) (by decide +kernel)), by decide +kernel, by decide +kernel, by decide +kernel⟩
theorem pl_X7_copy : plainName yX7_copy.cls = true := by decide +kernel
abbrev kX7_save : Cond := .code yX7_save cX7_save 2 none
theorem l0_X7_save : am_L0 kX7_save yX7_save 0 := ⟨am_in (i := 848) (by decide +kernel) (by decide +kernel), (am_in (i := 61) (by decide +kernel) (by decide +kernel)), by decide +kernel, by decide +kernel, by decide +kernel⟩
theorem pl_X7_save : plainName yX7_save.cls = true := by decide +kernel
abbrev kX7_capsOf : Cond := .code yX7_capsOf cX7_capsOf 3 (some .int)
theorem l0_X7_capsOf : am_L0 kX7_capsOf yX7_capsOf 2 := ⟨am_in (i := 892) (by decide +kernel) (by decide +kernel), (am_in (i := 61) (by decide +kernel) (by decide +kernel)), by decide +kernel, by decide +kernel, by decide +kernel⟩
theorem pl_X7_capsOf : plainName yX7_capsOf.cls = true := by decide +kernel
abbrev kX7_worthOf : Cond := .code yX7_worthOf cX7_worthOf 4 (some .int)
theorem l0_X7_worthOf : am_L0 kX7_worthOf yX7_worthOf 1 := ⟨am_in (i := 1025) (by decide +kernel) (by decide +kernel), (am_in (i := 61) (by decide +kernel) (by decide +kernel)), by decide +kernel, by decide +kernel, by decide +kernel⟩
theorem pl_X7_worthOf : plainName yX7_worthOf.cls = true := by decide +kernel
abbrev kX7_less : Cond := .code yX7_less cX7_less 2 (some .int)
theorem l0_X7_less : am_L0 kX7_less yX7_less 2 := ⟨am_in (i := 946) (by decide +kernel) (by decide +kernel), (am_in (i := 61) (by decide +kernel) (by decide +kernel)), by decide +kernel, by decide +kernel, by decide +kernel⟩
theorem pl_X7_less : plainName yX7_less.cls = true := by decide +kernel
abbrev kX7_most : Cond := .code yX7_most cX7_most 4 (some .int)
theorem l0_X7_most : am_L0 kX7_most yX7_most 3 := ⟨am_in (i := 943) (by decide +kernel) (by decide +kernel), (am_in (i := 61) (by decide +kernel) (by decide +kernel)), by decide +kernel, by decide +kernel, by decide +kernel⟩
theorem pl_X7_most : plainName yX7_most.cls = true := by decide +kernel
abbrev kX7_payFrom : Cond := .code yX7_payFrom cX7_payFrom 12 (some .int)
theorem l0_X7_payFrom : am_L0 kX7_payFrom yX7_payFrom 2 := ⟨am_in (i := 939) (by decide +kernel) (by decide +kernel), (am_in (i := 61) (by decide +kernel) (by decide +kernel)), by decide +kernel, by decide +kernel, by decide +kernel⟩
theorem pl_X7_payFrom : plainName yX7_payFrom.cls = true := by decide +kernel
abbrev kX7_payOf : Cond := .code yX7_payOf cX7_payOf 2 (some .int)
theorem l0_X7_payOf : am_L0 kX7_payOf yX7_payOf 1 := ⟨am_in (i := 935) (by decide +kernel) (by decide +kernel), (am_in (i := 61) (by decide +kernel) (by decide +kernel)), by decide +kernel, by decide +kernel, by decide +kernel⟩
theorem pl_X7_payOf : plainName yX7_payOf.cls = true := by decide +kernel
abbrev kX7_whereIs : Cond := .code yX7_whereIs cX7_whereIs 5 (some .int)
theorem l0_X7_whereIs : am_L0 kX7_whereIs yX7_whereIs 2 := ⟨am_in (i := 1033) (by decide +kernel) (by decide +kernel), (am_in (i := 61) (by decide +kernel) (by decide +kernel)), by decide +kernel, by decide +kernel, by decide +kernel⟩
theorem pl_X7_whereIs : plainName yX7_whereIs.cls = true := by decide +kernel
abbrev kX7_whoseComes : Cond := .code yX7_whoseComes cX7_whoseComes 5 (some .int)
theorem l0_X7_whoseComes : am_L0 kX7_whoseComes yX7_whoseComes 2 := ⟨am_in (i := 1093) (by decide +kernel) (by decide +kernel), (am_in (i := 61) (by decide +kernel) (by decide +kernel)), by decide +kernel, by decide +kernel, by decide +kernel⟩
theorem pl_X7_whoseComes : plainName yX7_whoseComes.cls = true := by decide +kernel
abbrev kX7_circle : Cond := .code yX7_circle cX7_circle 3 (some .int)
theorem l0_X7_circle : am_L0 kX7_circle yX7_circle 1 := ⟨am_in (i := 1029) (by decide +kernel) (by decide +kernel), (am_in (i := 61) (by decide +kernel) (by decide +kernel)), by decide +kernel, by decide +kernel, by decide +kernel⟩
theorem pl_X7_circle : plainName yX7_circle.cls = true := by decide +kernel
abbrev kX7_home : Cond := .code yX7_home cX7_home 4 (some .int)
theorem l0_X7_home : am_L0 kX7_home yX7_home 0 := ⟨am_in (i := 1069) (by decide +kernel) (by decide +kernel), (am_in (i := 61) (by decide +kernel) (by decide +kernel)), by decide +kernel, by decide +kernel, by decide +kernel⟩
theorem pl_X7_home : plainName yX7_home.cls = true := by decide +kernel
abbrev kX7_drop : Cond := .code yX7_drop cX7_drop 3 none
theorem l0_X7_drop : am_L0 kX7_drop yX7_drop 1 := ⟨am_in (i := 863) (by decide +kernel) (by decide +kernel), (am_in (i := 61) (by decide +kernel) (by decide +kernel)), by decide +kernel, by decide +kernel, by decide +kernel⟩
theorem pl_X7_drop : plainName yX7_drop.cls = true := by decide +kernel
abbrev kX7_doStorm : Cond := .code yX7_doStorm cX7_doStorm 3 (some .int)
theorem l0_X7_doStorm : am_L0 kX7_doStorm yX7_doStorm 0 := ⟨am_in (i := 855) (by decide +kernel) (by decide +kernel), (am_in (i := 61) (by decide +kernel) (by decide +kernel)), by decide +kernel, by decide +kernel, by decide +kernel⟩
theorem pl_X7_doStorm : plainName yX7_doStorm.cls = true := by decide +kernel
abbrev kX7_doCross : Cond := .code yX7_doCross cX7_doCross 4 (some .int)
theorem l0_X7_doCross : am_L0 kX7_doCross yX7_doCross 2 := ⟨am_in (i := 877) (by decide +kernel) (by decide +kernel), (am_in (i := 61) (by decide +kernel) (by decide +kernel)), by decide +kernel, by decide +kernel, by decide +kernel⟩
theorem pl_X7_doCross : plainName yX7_doCross.cls = true := by decide +kernel
abbrev kX7_give : Cond := .code yX7_give cX7_give 5 none
theorem l0_X7_give : am_L0 kX7_give yX7_give 4 := ⟨am_in (i := 900) (by decide +kernel) (by decide +kernel), (am_in (i := 61) (by decide +kernel) (by decide +kernel)), by decide +kernel, by decide +kernel, by decide +kernel⟩
theorem pl_X7_give : plainName yX7_give.cls = true := by decide +kernel
abbrev kX7_refuse : Cond := .code yX7_refuse cX7_refuse 2 (some .int)
theorem l0_X7_refuse : am_L0 kX7_refuse yX7_refuse 1 := ⟨am_in (i := 896) (by decide +kernel) (by decide +kernel), (am_in (i := 61) (by decide +kernel) (by decide +kernel)), by decide +kernel, by decide +kernel, by decide +kernel⟩
theorem pl_X7_refuse : plainName yX7_refuse.cls = true := by decide +kernel
abbrev kX7_doPromise : Cond := .code yX7_doPromise cX7_doPromise 6 (some .int)
theorem l0_X7_doPromise : am_L0 kX7_doPromise yX7_doPromise 4 := ⟨am_in (i := 919) (by decide +kernel) (by decide +kernel), (am_in (i := 61) (by decide +kernel) (by decide +kernel)), by decide +kernel, by decide +kernel, by decide +kernel⟩
theorem pl_X7_doPromise : plainName yX7_doPromise.cls = true := by decide +kernel
abbrev kX7_doFulfil : Cond := .code yX7_doFulfil cX7_doFulfil 4 (some .int)
theorem l0_X7_doFulfil : am_L0 kX7_doFulfil yX7_doFulfil 1 := ⟨am_in (i := 931) (by decide +kernel) (by decide +kernel), (am_in (i := 61) (by decide +kernel) (by decide +kernel)), by decide +kernel, by decide +kernel, by decide +kernel⟩
theorem pl_X7_doFulfil : plainName yX7_doFulfil.cls = true := by decide +kernel
abbrev kX7_promiseError : Cond := .code yX7_promiseError cX7_promiseError 4 (some .int)
theorem l0_X7_promiseError : am_L0 kX7_promiseError yX7_promiseError 4 := ⟨am_in (i := 915) (by decide +kernel) (by decide +kernel), (am_in (i := 61) (by decide +kernel) (by decide +kernel)), by decide +kernel, by decide +kernel, by decide +kernel⟩
theorem pl_X7_promiseError : plainName yX7_promiseError.cls = true := by decide +kernel
abbrev kX7_storm : Cond := .code yX7_storm cX7_storm 1 (some .int)
theorem l0_X7_storm : am_L0 kX7_storm yX7_storm 0 := ⟨am_in (i := 840) (by decide +kernel) (by decide +kernel), (am_in (i := 61) (by decide +kernel) (by decide +kernel)), by decide +kernel, by decide +kernel, by decide +kernel⟩
theorem pl_X7_storm : plainName yX7_storm.cls = true := by decide +kernel
abbrev kX7_cross : Cond := .code yX7_cross cX7_cross 3 (some .int)
theorem l0_X7_cross : am_L0 kX7_cross yX7_cross 2 := ⟨am_in (i := 867) (by decide +kernel) (by decide +kernel), (am_in (i := 61) (by decide +kernel) (by decide +kernel)), by decide +kernel, by decide +kernel, by decide +kernel⟩
theorem pl_X7_cross : plainName yX7_cross.cls = true := by decide +kernel
abbrev kX7_reasonOf : Cond := .code yX7_reasonOf cX7_reasonOf 8 (some .int)
theorem l0_X7_reasonOf : am_L0 kX7_reasonOf yX7_reasonOf 6 := ⟨am_in (i := 888) (by decide +kernel) (by decide +kernel), (am_in (i := 61) (by decide +kernel) (by decide +kernel)), by decide +kernel, by decide +kernel, by decide +kernel⟩
theorem pl_X7_reasonOf : plainName yX7_reasonOf.cls = true := by decide +kernel
abbrev kX7_trade : Cond := .code yX7_trade cX7_trade 9 (some .int)
theorem l0_X7_trade : am_L0 kX7_trade yX7_trade 6 := ⟨am_in (i := 881) (by decide +kernel) (by decide +kernel), (am_in (i := 61) (by decide +kernel) (by decide +kernel)), by decide +kernel, by decide +kernel, by decide +kernel⟩
theorem pl_X7_trade : plainName yX7_trade.cls = true := by decide +kernel
abbrev kX7_worth : Cond := .code yX7_worth cX7_worth 4 (some .int)
theorem l0_X7_worth : am_L0 kX7_worth yX7_worth 2 := ⟨am_in (i := 904) (by decide +kernel) (by decide +kernel), (am_in (i := 61) (by decide +kernel) (by decide +kernel)), by decide +kernel, by decide +kernel, by decide +kernel⟩
theorem pl_X7_worth : plainName yX7_worth.cls = true := by decide +kernel
abbrev kX7_set : Cond := .code yX7_set cX7_set 3 (some .int)
theorem l0_X7_set : am_L0 kX7_set yX7_set 1 := ⟨am_in (i := 908) (by decide +kernel) (by decide +kernel), (am_in (i := 61) (by decide +kernel) (by decide +kernel)), by decide +kernel, by decide +kernel, by decide +kernel⟩
theorem pl_X7_set : plainName yX7_set.cls = true := by decide +kernel
abbrev kX7_promise : Cond := .code yX7_promise cX7_promise 5 (some .int)
theorem l0_X7_promise : am_L0 kX7_promise yX7_promise 4 := ⟨am_in (i := 912) (by decide +kernel) (by decide +kernel), (am_in (i := 61) (by decide +kernel) (by decide +kernel)), by decide +kernel, by decide +kernel, by decide +kernel⟩
theorem pl_X7_promise : plainName yX7_promise.cls = true := by decide +kernel
abbrev kX7_fulfil : Cond := .code yX7_fulfil cX7_fulfil 2 (some .int)
theorem l0_X7_fulfil : am_L0 kX7_fulfil yX7_fulfil 1 := ⟨am_in (i := 923) (by decide +kernel) (by decide +kernel), (am_in (i := 61) (by decide +kernel) (by decide +kernel)), by decide +kernel, by decide +kernel, by decide +kernel⟩
theorem pl_X7_fulfil : plainName yX7_fulfil.cls = true := by decide +kernel
abbrev kX7_append : Cond := .code yX7_append cX7_append 2 (some .int)
theorem l0_X7_append : am_L0 kX7_append yX7_append 1 := ⟨am_in (i := 950) (by decide +kernel) (by decide +kernel), (am_in (i := 61) (by decide +kernel) (by decide +kernel)), by decide +kernel, by decide +kernel, by decide +kernel⟩
theorem pl_X7_append : plainName yX7_append.cls = true := by decide +kernel
abbrev kX7_clearBuffer : Cond := .code yX7_clearBuffer cX7_clearBuffer 2 (some .int)
theorem l0_X7_clearBuffer : am_L0 kX7_clearBuffer yX7_clearBuffer 0 := ⟨am_in (i := 954) (by decide +kernel) (by decide +kernel), (am_in (i := 61) (by decide +kernel) (by decide +kernel)), by decide +kernel, by decide +kernel, by decide +kernel⟩
theorem pl_X7_clearBuffer : plainName yX7_clearBuffer.cls = true := by decide +kernel
abbrev kX7_isNext : Cond := .code yX7_isNext cX7_isNext 3 (some .boolean)
theorem l0_X7_isNext : am_L0 kX7_isNext yX7_isNext 2 := ⟨am_in (i := 974) (by decide +kernel) (by decide +kernel), (am_in (i := 61) (by decide +kernel) (by decide +kernel)), by decide +kernel, by decide +kernel, by decide +kernel⟩
theorem pl_X7_isNext : plainName yX7_isNext.cls = true := by decide +kernel
abbrev kX7_takes : Cond := .code yX7_takes cX7_takes 3 (some .boolean)
theorem l0_X7_takes : am_L0 kX7_takes yX7_takes 1 := ⟨am_in (i := 982) (by decide +kernel) (by decide +kernel), (am_in (i := 61) (by decide +kernel) (by decide +kernel)), by decide +kernel, by decide +kernel, by decide +kernel⟩
theorem pl_X7_takes : plainName yX7_takes.cls = true := by decide +kernel
abbrev kX7_readDigit : Cond := .code yX7_readDigit cX7_readDigit 4 (some .boolean)
theorem l0_X7_readDigit : am_L0 kX7_readDigit yX7_readDigit 2 := ⟨am_in (i := 970) (by decide +kernel) (by decide +kernel), (am_in (i := 61) (by decide +kernel) (by decide +kernel)), by decide +kernel, by decide +kernel, by decide +kernel⟩
theorem pl_X7_readDigit : plainName yX7_readDigit.cls = true := by decide +kernel
abbrev kX7_readOther : Cond := .code yX7_readOther cX7_readOther 1 (some .boolean)
theorem l0_X7_readOther : am_L0 kX7_readOther yX7_readOther 0 := ⟨am_in (i := 978) (by decide +kernel) (by decide +kernel), (am_in (i := 61) (by decide +kernel) (by decide +kernel)), by decide +kernel, by decide +kernel, by decide +kernel⟩
theorem pl_X7_readOther : plainName yX7_readOther.cls = true := by decide +kernel
abbrev kX7_readSum : Cond := .code yX7_readSum cX7_readSum 1 (some .boolean)
theorem l0_X7_readSum : am_L0 kX7_readSum yX7_readSum 0 := ⟨am_in (i := 986) (by decide +kernel) (by decide +kernel), (am_in (i := 61) (by decide +kernel) (by decide +kernel)), by decide +kernel, by decide +kernel, by decide +kernel⟩
theorem pl_X7_readSum : plainName yX7_readSum.cls = true := by decide +kernel
abbrev kX7_readOrder : Cond := .code yX7_readOrder cX7_readOrder 1 (some .boolean)
theorem l0_X7_readOrder : am_L0 kX7_readOrder yX7_readOrder 0 := ⟨am_in (i := 966) (by decide +kernel) (by decide +kernel), (am_in (i := 61) (by decide +kernel) (by decide +kernel)), by decide +kernel, by decide +kernel, by decide +kernel⟩
theorem pl_X7_readOrder : plainName yX7_readOrder.cls = true := by decide +kernel
abbrev kX7_does : Cond := .code yX7_does cX7_does 1 (some .boolean)
theorem l0_X7_does : am_L0 kX7_does yX7_does 0 := ⟨am_in (i := 990) (by decide +kernel) (by decide +kernel), (am_in (i := 61) (by decide +kernel) (by decide +kernel)), by decide +kernel, by decide +kernel, by decide +kernel⟩
theorem pl_X7_does : plainName yX7_does.cls = true := by decide +kernel
abbrev kX7_readText : Cond := .code yX7_readText cX7_readText 3 (some .boolean)
theorem l0_X7_readText : am_L0 kX7_readText yX7_readText 1 := ⟨am_in (i := 962) (by decide +kernel) (by decide +kernel), (am_in (i := 61) (by decide +kernel) (by decide +kernel)), by decide +kernel, by decide +kernel, by decide +kernel⟩
theorem pl_X7_readText : plainName yX7_readText.cls = true := by decide +kernel
abbrev kX7_firstError : Cond := .code yX7_firstError cX7_firstError 1 (some .int)
theorem l0_X7_firstError : am_L0 kX7_firstError yX7_firstError 0 := ⟨am_in (i := 958) (by decide +kernel) (by decide +kernel), (am_in (i := 61) (by decide +kernel) (by decide +kernel)), by decide +kernel, by decide +kernel, by decide +kernel⟩
theorem pl_X7_firstError : plainName yX7_firstError.cls = true := by decide +kernel
abbrev kX7_run : Cond := .code yX7_run cX7_run 2 (some .int)
theorem l0_X7_run : am_L0 kX7_run yX7_run 0 := ⟨am_in (i := 994) (by decide +kernel) (by decide +kernel), (am_in (i := 61) (by decide +kernel) (by decide +kernel)), by decide +kernel, by decide +kernel, by decide +kernel⟩
theorem pl_X7_run : plainName yX7_run.cls = true := by decide +kernel
abbrev kX7_keep : Cond := .code yX7_keep cX7_keep 2 (some .int)
theorem l0_X7_keep : am_L0 kX7_keep yX7_keep 1 := ⟨am_in (i := 998) (by decide +kernel) (by decide +kernel), (am_in (i := 61) (by decide +kernel) (by decide +kernel)), by decide +kernel, by decide +kernel, by decide +kernel⟩
theorem pl_X7_keep : plainName yX7_keep.cls = true := by decide +kernel
abbrev kX7_goBack : Cond := .code yX7_goBack cX7_goBack 2 (some .int)
theorem l0_X7_goBack : am_L0 kX7_goBack yX7_goBack 1 := ⟨am_in (i := 1005) (by decide +kernel) (by decide +kernel), (am_in (i := 61) (by decide +kernel) (by decide +kernel)), by decide +kernel, by decide +kernel, by decide +kernel⟩
theorem pl_X7_goBack : plainName yX7_goBack.cls = true := by decide +kernel
abbrev kX7_undo : Cond := .code yX7_undo cX7_undo 1 (some .int)
theorem l0_X7_undo : am_L0 kX7_undo yX7_undo 0 := ⟨am_in (i := 1009) (by decide +kernel) (by decide +kernel), (am_in (i := 61) (by decide +kernel) (by decide +kernel)), by decide +kernel, by decide +kernel, by decide +kernel⟩
theorem pl_X7_undo : plainName yX7_undo.cls = true := by decide +kernel
abbrev kX7_caps : Cond := .code yX7_caps cX7_caps 3 (some .int)
theorem l0_X7_caps : am_L0 kX7_caps yX7_caps 2 := ⟨am_in (i := 1013) (by decide +kernel) (by decide +kernel), (am_in (i := 61) (by decide +kernel) (by decide +kernel)), by decide +kernel, by decide +kernel, by decide +kernel⟩
theorem pl_X7_caps : plainName yX7_caps.cls = true := by decide +kernel
abbrev kX7_sums : Cond := .code yX7_sums cX7_sums 5 (some .int)
theorem l0_X7_sums : am_L0 kX7_sums yX7_sums 2 := ⟨am_in (i := 1037) (by decide +kernel) (by decide +kernel), (am_in (i := 61) (by decide +kernel) (by decide +kernel)), by decide +kernel, by decide +kernel, by decide +kernel⟩
theorem pl_X7_sums : plainName yX7_sums.cls = true := by decide +kernel
abbrev kX7_islanderTold : Cond := .code yX7_islanderTold cX7_islanderTold 3 (some .int)
theorem l0_X7_islanderTold : am_L0 kX7_islanderTold yX7_islanderTold 2 := ⟨am_in (i := 1021) (by decide +kernel) (by decide +kernel), (am_in (i := 61) (by decide +kernel) (by decide +kernel)), by decide +kernel, by decide +kernel, by decide +kernel⟩
theorem pl_X7_islanderTold : plainName yX7_islanderTold.cls = true := by decide +kernel
abbrev kX7_islanderOf : Cond := .code yX7_islanderOf cX7_islanderOf 3 (some .int)
theorem l0_X7_islanderOf : am_L0 kX7_islanderOf yX7_islanderOf 2 := ⟨am_in (i := 1017) (by decide +kernel) (by decide +kernel), (am_in (i := 61) (by decide +kernel) (by decide +kernel)), by decide +kernel, by decide +kernel, by decide +kernel⟩
theorem pl_X7_islanderOf : plainName yX7_islanderOf.cls = true := by decide +kernel
abbrev kX7_promiseOf : Cond := .code yX7_promiseOf cX7_promiseOf 3 (some .int)
theorem l0_X7_promiseOf : am_L0 kX7_promiseOf yX7_promiseOf 2 := ⟨am_in (i := 1041) (by decide +kernel) (by decide +kernel), (am_in (i := 61) (by decide +kernel) (by decide +kernel)), by decide +kernel, by decide +kernel, by decide +kernel⟩
theorem pl_X7_promiseOf : plainName yX7_promiseOf.cls = true := by decide +kernel
abbrev kX7_owed : Cond := .code yX7_owed cX7_owed 3 (some .int)
theorem l0_X7_owed : am_L0 kX7_owed yX7_owed 2 := ⟨am_in (i := 1045) (by decide +kernel) (by decide +kernel), (am_in (i := 61) (by decide +kernel) (by decide +kernel)), by decide +kernel, by decide +kernel, by decide +kernel⟩
theorem pl_X7_owed : plainName yX7_owed.cls = true := by decide +kernel
abbrev kX7_allCaps : Cond := .code yX7_allCaps cX7_allCaps 4 (some .int)
theorem l0_X7_allCaps : am_L0 kX7_allCaps yX7_allCaps 1 := ⟨am_in (i := 1057) (by decide +kernel) (by decide +kernel), (am_in (i := 61) (by decide +kernel) (by decide +kernel)), by decide +kernel, by decide +kernel, by decide +kernel⟩
theorem pl_X7_allCaps : plainName yX7_allCaps.cls = true := by decide +kernel
abbrev kX7_countTold : Cond := .code yX7_countTold cX7_countTold 2 (some .int)
theorem l0_X7_countTold : am_L0 kX7_countTold yX7_countTold 1 := ⟨am_in (i := 1053) (by decide +kernel) (by decide +kernel), (am_in (i := 61) (by decide +kernel) (by decide +kernel)), by decide +kernel, by decide +kernel, by decide +kernel⟩
theorem pl_X7_countTold : plainName yX7_countTold.cls = true := by decide +kernel
abbrev kX7_count : Cond := .code yX7_count cX7_count 2 (some .int)
theorem l0_X7_count : am_L0 kX7_count yX7_count 1 := ⟨am_in (i := 1049) (by decide +kernel) (by decide +kernel), (am_in (i := 61) (by decide +kernel) (by decide +kernel)), by decide +kernel, by decide +kernel, by decide +kernel⟩
theorem pl_X7_count : plainName yX7_count.cls = true := by decide +kernel
abbrev kX7_where : Cond := .code yX7_where cX7_where 4 (some .int)
theorem l0_X7_where : am_L0 kX7_where yX7_where 3 := ⟨am_in (i := 1061) (by decide +kernel) (by decide +kernel), (am_in (i := 61) (by decide +kernel) (by decide +kernel)), by decide +kernel, by decide +kernel, by decide +kernel⟩
theorem pl_X7_where : plainName yX7_where.cls = true := by decide +kernel
abbrev kX7_homeIn : Cond := .code yX7_homeIn cX7_homeIn 2 (some .int)
theorem l0_X7_homeIn : am_L0 kX7_homeIn yX7_homeIn 1 := ⟨am_in (i := 1065) (by decide +kernel) (by decide +kernel), (am_in (i := 61) (by decide +kernel) (by decide +kernel)), by decide +kernel, by decide +kernel, by decide +kernel⟩
theorem pl_X7_homeIn : plainName yX7_homeIn.cls = true := by decide +kernel
abbrev kX7_fewest : Cond := .code yX7_fewest cX7_fewest 4 (some .int)
theorem l0_X7_fewest : am_L0 kX7_fewest yX7_fewest 3 := ⟨am_in (i := 1073) (by decide +kernel) (by decide +kernel), (am_in (i := 61) (by decide +kernel) (by decide +kernel)), by decide +kernel, by decide +kernel, by decide +kernel⟩
theorem pl_X7_fewest : plainName yX7_fewest.cls = true := by decide +kernel
abbrev kX7_richestTold : Cond := .code yX7_richestTold cX7_richestTold 3 (some .int)
theorem l0_X7_richestTold : am_L0 kX7_richestTold yX7_richestTold 0 := ⟨am_in (i := 1081) (by decide +kernel) (by decide +kernel), (am_in (i := 61) (by decide +kernel) (by decide +kernel)), by decide +kernel, by decide +kernel, by decide +kernel⟩
theorem pl_X7_richestTold : plainName yX7_richestTold.cls = true := by decide +kernel
abbrev kX7_richest : Cond := .code yX7_richest cX7_richest 1 (some .int)
theorem l0_X7_richest : am_L0 kX7_richest yX7_richest 0 := ⟨am_in (i := 1077) (by decide +kernel) (by decide +kernel), (am_in (i := 61) (by decide +kernel) (by decide +kernel)), by decide +kernel, by decide +kernel, by decide +kernel⟩
theorem pl_X7_richest : plainName yX7_richest.cls = true := by decide +kernel
abbrev kX7_keepIn : Cond := .code yX7_keepIn cX7_keepIn 3 (some .int)
theorem l0_X7_keepIn : am_L0 kX7_keepIn yX7_keepIn 1 := ⟨am_in (i := 1089) (by decide +kernel) (by decide +kernel), (am_in (i := 61) (by decide +kernel) (by decide +kernel)), by decide +kernel, by decide +kernel, by decide +kernel⟩
theorem pl_X7_keepIn : plainName yX7_keepIn.cls = true := by decide +kernel
abbrev kX7_canKeepIn : Cond := .code yX7_canKeepIn cX7_canKeepIn 2 (some .int)
theorem l0_X7_canKeepIn : am_L0 kX7_canKeepIn yX7_canKeepIn 1 := ⟨am_in (i := 1085) (by decide +kernel) (by decide +kernel), (am_in (i := 61) (by decide +kernel) (by decide +kernel)), by decide +kernel, by decide +kernel, by decide +kernel⟩
theorem pl_X7_canKeepIn : plainName yX7_canKeepIn.cls = true := by decide +kernel
abbrev kX7_shareTold : Cond := .code yX7_shareTold cX7_shareTold 1 (some .double)
theorem l0_X7_shareTold : am_L0 kX7_shareTold yX7_shareTold 0 := ⟨am_in (i := 1101) (by decide +kernel) (by decide +kernel), (am_in (i := 61) (by decide +kernel) (by decide +kernel)), by decide +kernel, by decide +kernel, by decide +kernel⟩
theorem pl_X7_shareTold : plainName yX7_shareTold.cls = true := by decide +kernel
abbrev kX7_richShare : Cond := .code yX7_richShare cX7_richShare 1 (some .double)
theorem l0_X7_richShare : am_L0 kX7_richShare yX7_richShare 0 := ⟨am_in (i := 1097) (by decide +kernel) (by decide +kernel), (am_in (i := 61) (by decide +kernel) (by decide +kernel)), by decide +kernel, by decide +kernel, by decide +kernel⟩
theorem pl_X7_richShare : plainName yX7_richShare.cls = true := by decide +kernel
abbrev kX7_bitsOf : Cond := .code yX7_bitsOf cX7_bitsOf 6 (some .long)
theorem l0_X7_bitsOf : am_L0 kX7_bitsOf yX7_bitsOf 1 := ⟨am_in (i := 1118) (by decide +kernel) (by decide +kernel), (am_in (i := 61) (by decide +kernel) (by decide +kernel)), by decide +kernel, by decide +kernel, by decide +kernel⟩
theorem pl_X7_bitsOf : plainName yX7_bitsOf.cls = true := by decide +kernel
abbrev kX7_mix : Cond := .code yX7_mix cX7_mix 3 none
theorem l0_X7_mix : am_L0 kX7_mix yX7_mix 1 := ⟨am_in (i := 1110) (by decide +kernel) (by decide +kernel), (am_in (i := 61) (by decide +kernel) (by decide +kernel)), by decide +kernel, by decide +kernel, by decide +kernel⟩
theorem pl_X7_mix : plainName yX7_mix.cls = true := by decide +kernel
abbrev kX7_mixIslander : Cond := .code yX7_mixIslander cX7_mixIslander 3 none
theorem l0_X7_mixIslander : am_L0 kX7_mixIslander yX7_mixIslander 1 := ⟨am_in (i := 1115) (by decide +kernel) (by decide +kernel), (am_in (i := 61) (by decide +kernel) (by decide +kernel)), by decide +kernel, by decide +kernel, by decide +kernel⟩
theorem pl_X7_mixIslander : plainName yX7_mixIslander.cls = true := by decide +kernel
abbrev kX7_digest : Cond := .code yX7_digest cX7_digest 3 (some .long)
theorem l0_X7_digest : am_L0 kX7_digest yX7_digest 0 := ⟨am_in (i := 1105) (by decide +kernel) (by decide +kernel), (am_in (i := 61) (by decide +kernel) (by decide +kernel)), by decide +kernel, by decide +kernel, by decide +kernel⟩
theorem pl_X7_digest : plainName yX7_digest.cls = true := by decide +kernel
abbrev kL_storm : Cond := .codeWith yL_storm cL_storm 3 (some .int) [(0, 8, 11, 13)]
theorem l0_L_storm : am_L0 kL_storm yL_storm 2 := ⟨am_in (i := 536) (by decide +kernel) (by decide +kernel), (am_in (i := 55) (by decide +kernel) (by decide +kernel)), by decide +kernel, by decide +kernel, by decide +kernel⟩
theorem pl_L_storm : plainName yL_storm.cls = true := by decide +kernel
abbrev kL_cross : Cond := .codeWith yL_cross cL_cross 5 (some .int) [(0, 10, 13, 19)]
theorem l0_L_cross : am_L0 kL_cross yL_cross 4 := ⟨am_in (i := 594) (by decide +kernel) (by decide +kernel), (am_in (i := 55) (by decide +kernel) (by decide +kernel)), by decide +kernel, by decide +kernel, by decide +kernel⟩
theorem pl_L_cross : plainName yL_cross.cls = true := by decide +kernel
abbrev kL_trade : Cond := .codeWith yL_trade cL_trade 9 (some .int) [(0, 18, 21, 19), (0, 18, 25, 25)]
theorem l0_L_trade : am_L0 kL_trade yL_trade 8 := ⟨am_in (i := 606) (by decide +kernel) (by decide +kernel), (am_in (i := 55) (by decide +kernel) (by decide +kernel)), by decide +kernel, by decide +kernel, by decide +kernel⟩
theorem pl_L_trade : plainName yL_trade.cls = true := by decide +kernel
abbrev kL_worth : Cond := .codeWith yL_worth cL_worth 5 (some .int) [(0, 10, 13, 19), (0, 10, 17, 25)]
theorem l0_L_worth : am_L0 kL_worth yL_worth 4 := ⟨am_in (i := 629) (by decide +kernel) (by decide +kernel), (am_in (i := 55) (by decide +kernel) (by decide +kernel)), by decide +kernel, by decide +kernel, by decide +kernel⟩
theorem pl_L_worth : plainName yL_worth.cls = true := by decide +kernel
abbrev kL_set : Cond := .codeWith yL_set cL_set 4 (some .int) [(0, 9, 12, 25)]
theorem l0_L_set : am_L0 kL_set yL_set 3 := ⟨am_in (i := 640) (by decide +kernel) (by decide +kernel), (am_in (i := 55) (by decide +kernel) (by decide +kernel)), by decide +kernel, by decide +kernel, by decide +kernel⟩
theorem pl_L_set : plainName yL_set.cls = true := by decide +kernel
abbrev kL_promise : Cond := .codeWith yL_promise cL_promise 7 (some .int) [(0, 14, 17, 19), (0, 14, 21, 25)]
theorem l0_L_promise : am_L0 kL_promise yL_promise 6 := ⟨am_in (i := 647) (by decide +kernel) (by decide +kernel), (am_in (i := 55) (by decide +kernel) (by decide +kernel)), by decide +kernel, by decide +kernel, by decide +kernel⟩
theorem pl_L_promise : plainName yL_promise.cls = true := by decide +kernel
abbrev kL_fulfil : Cond := .codeWith yL_fulfil cL_fulfil 4 (some .int) [(0, 9, 12, 19)]
theorem l0_L_fulfil : am_L0 kL_fulfil yL_fulfil 3 := ⟨am_in (i := 658) (by decide +kernel) (by decide +kernel), (am_in (i := 55) (by decide +kernel) (by decide +kernel)), by decide +kernel, by decide +kernel, by decide +kernel⟩
theorem pl_L_fulfil : plainName yL_fulfil.cls = true := by decide +kernel
abbrev kL_append : Cond := .codeWith yL_append cL_append 4 (some .int) [(0, 9, 12, 25), (0, 9, 15, 13)]
theorem l0_L_append : am_L0 kL_append yL_append 3 := ⟨am_in (i := 670) (by decide +kernel) (by decide +kernel), (am_in (i := 55) (by decide +kernel) (by decide +kernel)), by decide +kernel, by decide +kernel, by decide +kernel⟩
theorem pl_L_append : plainName yL_append.cls = true := by decide +kernel
abbrev kL_run : Cond := .codeWith yL_run cL_run 3 (some .int) [(0, 8, 11, 25)]
theorem l0_L_run : am_L0 kL_run yL_run 2 := ⟨am_in (i := 682) (by decide +kernel) (by decide +kernel), (am_in (i := 55) (by decide +kernel) (by decide +kernel)), by decide +kernel, by decide +kernel, by decide +kernel⟩
theorem pl_L_run : plainName yL_run.cls = true := by decide +kernel
abbrev kL_keep : Cond := .codeWith yL_keep cL_keep 4 (some .int) [(0, 9, 12, 25)]
theorem l0_L_keep : am_L0 kL_keep yL_keep 3 := ⟨am_in (i := 719) (by decide +kernel) (by decide +kernel), (am_in (i := 55) (by decide +kernel) (by decide +kernel)), by decide +kernel, by decide +kernel, by decide +kernel⟩
theorem pl_L_keep : plainName yL_keep.cls = true := by decide +kernel
abbrev kL_goBack : Cond := .codeWith yL_goBack cL_goBack 4 (some .int) [(0, 9, 12, 25), (0, 9, 15, 13)]
theorem l0_L_goBack : am_L0 kL_goBack yL_goBack 3 := ⟨am_in (i := 727) (by decide +kernel) (by decide +kernel), (am_in (i := 55) (by decide +kernel) (by decide +kernel)), by decide +kernel, by decide +kernel, by decide +kernel⟩
theorem pl_L_goBack : plainName yL_goBack.cls = true := by decide +kernel
abbrev kL_undo : Cond := .codeWith yL_undo cL_undo 3 (some .int) [(0, 8, 11, 13)]
theorem l0_L_undo : am_L0 kL_undo yL_undo 2 := ⟨am_in (i := 735) (by decide +kernel) (by decide +kernel), (am_in (i := 55) (by decide +kernel) (by decide +kernel)), by decide +kernel, by decide +kernel, by decide +kernel⟩
theorem pl_L_undo : plainName yL_undo.cls = true := by decide +kernel
abbrev kL_caps : Cond := .codeWith yL_caps cL_caps 5 (some .int) [(0, 10, 13, 19)]
theorem l0_L_caps : am_L0 kL_caps yL_caps 4 := ⟨am_in (i := 747) (by decide +kernel) (by decide +kernel), (am_in (i := 55) (by decide +kernel) (by decide +kernel)), by decide +kernel, by decide +kernel, by decide +kernel⟩
theorem pl_L_caps : plainName yL_caps.cls = true := by decide +kernel
abbrev kL_islanderOf : Cond := .codeWith yL_islanderOf cL_islanderOf 5 (some .int) [(0, 10, 13, 19), (0, 10, 17, 25)]
theorem l0_L_islanderOf : am_L0 kL_islanderOf yL_islanderOf 4 := ⟨am_in (i := 751) (by decide +kernel) (by decide +kernel), (am_in (i := 55) (by decide +kernel) (by decide +kernel)), by decide +kernel, by decide +kernel, by decide +kernel⟩
theorem pl_L_islanderOf : plainName yL_islanderOf.cls = true := by decide +kernel
abbrev kL_promiseOf : Cond := .codeWith yL_promiseOf cL_promiseOf 5 (some .int) [(0, 10, 13, 19), (0, 10, 17, 25)]
theorem l0_L_promiseOf : am_L0 kL_promiseOf yL_promiseOf 4 := ⟨am_in (i := 755) (by decide +kernel) (by decide +kernel), (am_in (i := 55) (by decide +kernel) (by decide +kernel)), by decide +kernel, by decide +kernel, by decide +kernel⟩
theorem pl_L_promiseOf : plainName yL_promiseOf.cls = true := by decide +kernel
abbrev kL_owed : Cond := .codeWith yL_owed cL_owed 5 (some .int) [(0, 10, 13, 19)]
theorem l0_L_owed : am_L0 kL_owed yL_owed 4 := ⟨am_in (i := 759) (by decide +kernel) (by decide +kernel), (am_in (i := 55) (by decide +kernel) (by decide +kernel)), by decide +kernel, by decide +kernel, by decide +kernel⟩
theorem pl_L_owed : plainName yL_owed.cls = true := by decide +kernel
abbrev kL_count : Cond := .codeWith yL_count cL_count 4 (some .int) [(0, 9, 12, 25)]
theorem l0_L_count : am_L0 kL_count yL_count 3 := ⟨am_in (i := 763) (by decide +kernel) (by decide +kernel), (am_in (i := 55) (by decide +kernel) (by decide +kernel)), by decide +kernel, by decide +kernel, by decide +kernel⟩
theorem pl_L_count : plainName yL_count.cls = true := by decide +kernel
abbrev kL_where : Cond := .codeWith yL_where cL_where 6 (some .int) [(0, 12, 15, 19), (0, 12, 19, 25)]
theorem l0_L_where : am_L0 kL_where yL_where 5 := ⟨am_in (i := 767) (by decide +kernel) (by decide +kernel), (am_in (i := 55) (by decide +kernel) (by decide +kernel)), by decide +kernel, by decide +kernel, by decide +kernel⟩
theorem pl_L_where : plainName yL_where.cls = true := by decide +kernel
abbrev kL_homeIn : Cond := .codeWith yL_homeIn cL_homeIn 4 (some .int) [(0, 9, 12, 25)]
theorem l0_L_homeIn : am_L0 kL_homeIn yL_homeIn 3 := ⟨am_in (i := 771) (by decide +kernel) (by decide +kernel), (am_in (i := 55) (by decide +kernel) (by decide +kernel)), by decide +kernel, by decide +kernel, by decide +kernel⟩
theorem pl_L_homeIn : plainName yL_homeIn.cls = true := by decide +kernel
abbrev kL_fewest : Cond := .codeWith yL_fewest cL_fewest 6 (some .int) [(0, 12, 15, 19), (0, 12, 19, 25)]
theorem l0_L_fewest : am_L0 kL_fewest yL_fewest 5 := ⟨am_in (i := 775) (by decide +kernel) (by decide +kernel), (am_in (i := 55) (by decide +kernel) (by decide +kernel)), by decide +kernel, by decide +kernel, by decide +kernel⟩
theorem pl_L_fewest : plainName yL_fewest.cls = true := by decide +kernel
abbrev kL_canKeepIn : Cond := .codeWith yL_canKeepIn cL_canKeepIn 4 (some .int) [(0, 9, 12, 19)]
theorem l0_L_canKeepIn : am_L0 kL_canKeepIn yL_canKeepIn 3 := ⟨am_in (i := 779) (by decide +kernel) (by decide +kernel), (am_in (i := 55) (by decide +kernel) (by decide +kernel)), by decide +kernel, by decide +kernel, by decide +kernel⟩
theorem pl_L_canKeepIn : plainName yL_canKeepIn.cls = true := by decide +kernel
theorem oi_X1_3 : am_oiW RX1 3 := ⟨(am_in (i := 137) (by decide +kernel) (by decide +kernel)), (am_in (i := 79) (by decide +kernel) (by decide +kernel)), am_in (i := 80) (by decide +kernel) (by decide +kernel)⟩
theorem an_X1_9 : Cond.classLink RX1 9 "StormPurses$Island" ∈ am_W := (am_in (i := 138) (by decide +kernel) (by decide +kernel))
theorem fp_X1_11 : am_FP RX1 11 0 0 (.array (.object "StormPurses$Island")) true := ⟨RX1, TX1, 2, tyX1, cl_X1, by decide, (am_in (i := 141) (by decide +kernel) (by decide +kernel)), rfl, by decide +kernel, fun _ => rfl⟩
theorem f_X1_11 : am_F RX1 11 0 0 := fp_X1_11.F
theorem cn_X1_9 : Cond.classLink RX1 9 "StormPurses$Island" ∈ am_W := (am_in (i := 138) (by decide +kernel) (by decide +kernel))
abbrev fs0_X2 : List Value := [.null, .null, .null, .null, .null, .int 0, .int 0, .int 0, .int 0, .int 0, .int 0, .int 0]
theorem nw_X1_9 : am_Nw RX1 9 1 fs0_X2 12 := ⟨RX2, TX2, tyX2, cl_X2, cn_X1_9, (am_in (i := 82) (by decide +kernel) (by decide +kernel)), (am_in (i := 57) (by decide +kernel) (by decide +kernel)), by decide +kernel⟩
theorem mi_X1_17 : Cond.methodLink RX1 17 yX2_init ∈ am_W := (am_in (i := 140) (by decide +kernel) (by decide +kernel))
theorem mj_X1_17 : Cond.instanceMethod yX2_init ∈ am_W := (am_in (i := 84) (by decide +kernel) (by decide +kernel))
theorem fp_X1_18 : am_FP RX1 18 0 1 .int false := ⟨RX1, TX1, 2, tyX1, cl_X1, by decide, (am_in (i := 142) (by decide +kernel) (by decide +kernel)), rfl, by decide +kernel, fun h => by cases h⟩
theorem f_X1_18 : am_F RX1 18 0 1 := fp_X1_18.F
theorem mv_X1_22 : am_LV RX1 22 0 kX1_dropOldest yX1_dropOldest 0 := ⟨l0_X1_dropOldest, (am_in (i := 566) (by decide +kernel) (by decide +kernel)), (am_in (i := 568) (by decide +kernel) (by decide +kernel)), (am_in (i := 10) (by decide +kernel) (by decide +kernel)), TX1, _, rfl⟩
theorem ms_X1_25 : am_LS RX1 25 kX2_copy yX2_copy 2 := ⟨l0_X2_copy, (am_in (i := 570) (by decide +kernel) (by decide +kernel)), (am_in (i := 571) (by decide +kernel) (by decide +kernel))⟩
theorem oi_X2_3 : am_oiW RX2 3 := ⟨(am_in (i := 86) (by decide +kernel) (by decide +kernel)), (am_in (i := 79) (by decide +kernel) (by decide +kernel)), am_in (i := 80) (by decide +kernel) (by decide +kernel)⟩
theorem fp_X2_9 : am_FP RX2 9 1 0 (.array .int) true := ⟨RX2, TX2, 12, tyX2, cl_X2, by decide, (am_in (i := 87) (by decide +kernel) (by decide +kernel)), rfl, by decide +kernel, fun _ => rfl⟩
theorem f_X2_9 : am_F RX2 9 1 0 := fp_X2_9.F
theorem fp_X2_15 : am_FP RX2 15 1 1 (.array .int) true := ⟨RX2, TX2, 12, tyX2, cl_X2, by decide, (am_in (i := 88) (by decide +kernel) (by decide +kernel)), rfl, by decide +kernel, fun _ => rfl⟩
theorem f_X2_15 : am_F RX2 15 1 1 := fp_X2_15.F
theorem fp_X2_18 : am_FP RX2 18 1 2 (.array .int) true := ⟨RX2, TX2, 12, tyX2, cl_X2, by decide, (am_in (i := 89) (by decide +kernel) (by decide +kernel)), rfl, by decide +kernel, fun _ => rfl⟩
theorem f_X2_18 : am_F RX2 18 1 2 := fp_X2_18.F
theorem fp_X2_21 : am_FP RX2 21 1 3 (.array .int) true := ⟨RX2, TX2, 12, tyX2, cl_X2, by decide, (am_in (i := 90) (by decide +kernel) (by decide +kernel)), rfl, by decide +kernel, fun _ => rfl⟩
theorem f_X2_21 : am_F RX2 21 1 3 := fp_X2_21.F
theorem fp_X2_24 : am_FP RX2 24 1 4 (.array .int) true := ⟨RX2, TX2, 12, tyX2, cl_X2, by decide, (am_in (i := 91) (by decide +kernel) (by decide +kernel)), rfl, by decide +kernel, fun _ => rfl⟩
theorem f_X2_24 : am_F RX2 24 1 4 := fp_X2_24.F
theorem mv_X2_27 : am_LV RX2 27 1 kX2_become yX2_become 1 := ⟨l0_X2_become, (am_in (i := 573) (by decide +kernel) (by decide +kernel)), (am_in (i := 575) (by decide +kernel) (by decide +kernel)), (am_in (i := 11) (by decide +kernel) (by decide +kernel)), TX2, _, rfl⟩
theorem cp_X2_31 : am_cpW RX2 31 := ⟨(am_in (i := 577) (by decide +kernel) (by decide +kernel)), (am_in (i := 579) (by decide +kernel) (by decide +kernel)), (am_in (i := 578) (by decide +kernel) (by decide +kernel)), (am_in (i := 66) (by decide +kernel) (by decide +kernel))⟩
theorem fp_X2_37 : am_FP RX2 37 1 5 .int false := ⟨RX2, TX2, 12, tyX2, cl_X2, by decide, (am_in (i := 92) (by decide +kernel) (by decide +kernel)), rfl, by decide +kernel, fun h => by cases h⟩
theorem f_X2_37 : am_F RX2 37 1 5 := fp_X2_37.F
theorem fp_X2_41 : am_FP RX2 41 1 6 .int false := ⟨RX2, TX2, 12, tyX2, cl_X2, by decide, (am_in (i := 94) (by decide +kernel) (by decide +kernel)), rfl, by decide +kernel, fun h => by cases h⟩
theorem f_X2_41 : am_F RX2 41 1 6 := fp_X2_41.F
theorem fp_X2_44 : am_FP RX2 44 1 7 .int false := ⟨RX2, TX2, 12, tyX2, cl_X2, by decide, (am_in (i := 96) (by decide +kernel) (by decide +kernel)), rfl, by decide +kernel, fun h => by cases h⟩
theorem f_X2_44 : am_F RX2 44 1 7 := fp_X2_44.F
theorem fp_X2_47 : am_FP RX2 47 1 8 .int false := ⟨RX2, TX2, 12, tyX2, cl_X2, by decide, (am_in (i := 98) (by decide +kernel) (by decide +kernel)), rfl, by decide +kernel, fun h => by cases h⟩
theorem f_X2_47 : am_F RX2 47 1 8 := fp_X2_47.F
theorem fp_X2_50 : am_FP RX2 50 1 9 .int false := ⟨RX2, TX2, 12, tyX2, cl_X2, by decide, (am_in (i := 100) (by decide +kernel) (by decide +kernel)), rfl, by decide +kernel, fun h => by cases h⟩
theorem f_X2_50 : am_F RX2 50 1 9 := fp_X2_50.F
theorem fp_X2_53 : am_FP RX2 53 1 10 .int false := ⟨RX2, TX2, 12, tyX2, cl_X2, by decide, (am_in (i := 102) (by decide +kernel) (by decide +kernel)), rfl, by decide +kernel, fun h => by cases h⟩
theorem f_X2_53 : am_F RX2 53 1 10 := fp_X2_53.F
theorem fp_X2_56 : am_FP RX2 56 1 11 .int false := ⟨RX2, TX2, 12, tyX2, cl_X2, by decide, (am_in (i := 104) (by decide +kernel) (by decide +kernel)), rfl, by decide +kernel, fun h => by cases h⟩
theorem f_X2_56 : am_F RX2 56 1 11 := fp_X2_56.F
theorem ms_X2_59 : am_LS RX2 59 kX2_isIslander yX2_isIslander 1 := ⟨l0_X2_isIslander, (am_in (i := 273) (by decide +kernel) (by decide +kernel)), (am_in (i := 274) (by decide +kernel) (by decide +kernel))⟩
theorem ms_X2_63 : am_LS RX2 63 kX2_isColour yX2_isColour 1 := ⟨l0_X2_isColour, (am_in (i := 276) (by decide +kernel) (by decide +kernel)), (am_in (i := 277) (by decide +kernel) (by decide +kernel))⟩
theorem mv_X2_66 : am_LV RX2 66 1 kX2_capsOf yX2_capsOf 2 := ⟨l0_X2_capsOf, (am_in (i := 269) (by decide +kernel) (by decide +kernel)), (am_in (i := 270) (by decide +kernel) (by decide +kernel)), (am_in (i := 271) (by decide +kernel) (by decide +kernel)), TX2, _, rfl⟩
theorem mv_X2_70 : am_LV RX2 70 1 kX2_worthOf yX2_worthOf 1 := ⟨l0_X2_worthOf, (am_in (i := 279) (by decide +kernel) (by decide +kernel)), (am_in (i := 280) (by decide +kernel) (by decide +kernel)), (am_in (i := 281) (by decide +kernel) (by decide +kernel)), TX2, _, rfl⟩
theorem mv_X2_74 : am_LV RX2 74 1 kX2_purseWorth yX2_purseWorth 1 := ⟨l0_X2_purseWorth, (am_in (i := 291) (by decide +kernel) (by decide +kernel)), (am_in (i := 266) (by decide +kernel) (by decide +kernel)), (am_in (i := 267) (by decide +kernel) (by decide +kernel)), TX2, _, rfl⟩
theorem mv_X2_77 : am_LV RX2 77 1 kX2_leadsTo yX2_leadsTo 1 := ⟨l0_X2_leadsTo, (am_in (i := 425) (by decide +kernel) (by decide +kernel)), (am_in (i := 418) (by decide +kernel) (by decide +kernel)), (am_in (i := 419) (by decide +kernel) (by decide +kernel)), TX2, _, rfl⟩
theorem mv_X2_80 : am_LV RX2 80 1 kX2_breakPromises yX2_breakPromises 0 := ⟨l0_X2_breakPromises, (am_in (i := 584) (by decide +kernel) (by decide +kernel)), (am_in (i := 586) (by decide +kernel) (by decide +kernel)), (am_in (i := 12) (by decide +kernel) (by decide +kernel)), TX2, _, rfl⟩
theorem mv_X2_84 : am_LV RX2 84 1 kX2_partOf yX2_partOf 2 := ⟨l0_X2_partOf, (am_in (i := 430) (by decide +kernel) (by decide +kernel)), (am_in (i := 431) (by decide +kernel) (by decide +kernel)), (am_in (i := 432) (by decide +kernel) (by decide +kernel)), TX2, _, rfl⟩
theorem mv_X2_87 : am_LV RX2 87 1 kX2_dropPromise yX2_dropPromise 1 := ⟨l0_X2_dropPromise, (am_in (i := 588) (by decide +kernel) (by decide +kernel)), (am_in (i := 589) (by decide +kernel) (by decide +kernel)), (am_in (i := 590) (by decide +kernel) (by decide +kernel)), TX2, _, rfl⟩
theorem mv_X2_91 : am_LV RX2 91 1 kX2_isPromise yX2_isPromise 1 := ⟨l0_X2_isPromise, (am_in (i := 434) (by decide +kernel) (by decide +kernel)), (am_in (i := 435) (by decide +kernel) (by decide +kernel)), (am_in (i := 436) (by decide +kernel) (by decide +kernel)), TX2, _, rfl⟩
theorem oi_X4_3 : am_oiW RX4 3 := ⟨(am_in (i := 168) (by decide +kernel) (by decide +kernel)), (am_in (i := 79) (by decide +kernel) (by decide +kernel)), am_in (i := 80) (by decide +kernel) (by decide +kernel)⟩
theorem fp_X4_9 : am_FP RX4 9 2 0 (.array .char) true := ⟨RX4, TX4, 2, tyX4, cl_X4, by decide, (am_in (i := 169) (by decide +kernel) (by decide +kernel)), rfl, by decide +kernel, fun _ => rfl⟩
theorem f_X4_9 : am_F RX4 9 2 0 := fp_X4_9.F
theorem fp_X4_15 : am_FP RX4 15 2 1 .int false := ⟨RX4, TX4, 2, tyX4, cl_X4, by decide, (am_in (i := 170) (by decide +kernel) (by decide +kernel)), rfl, by decide +kernel, fun h => by cases h⟩
theorem f_X4_15 : am_F RX4 15 2 1 := fp_X4_15.F
theorem gs_X4_19 : Cond.fieldLink RX4 19 "StormPurses$Step" "ORDER" "LStormPurses$Step;" ∈ am_W := (am_in (i := 213) (by decide +kernel) (by decide +kernel))
theorem mv_X4_25 : am_LV RX4 25 2 kX4_stepBehind yX4_stepBehind 2 := ⟨l0_X4_stepBehind, (am_in (i := 215) (by decide +kernel) (by decide +kernel)), (am_in (i := 217) (by decide +kernel) (by decide +kernel)), (am_in (i := 0) (by decide +kernel) (by decide +kernel)), TX4, _, rfl⟩
theorem gs_X4_29 : Cond.fieldLink RX4 29 "StormPurses$Step" "WRONG" "LStormPurses$Step;" ∈ am_W := (am_in (i := 242) (by decide +kernel) (by decide +kernel))
theorem gs_X4_32 : Cond.fieldLink RX4 32 "StormPurses$Step" "END" "LStormPurses$Step;" ∈ am_W := (am_in (i := 234) (by decide +kernel) (by decide +kernel))
theorem mv_X4_35 : am_LV RX4 35 2 kX4_signAt yX4_signAt 1 := ⟨l0_X4_signAt, (am_in (i := 219) (by decide +kernel) (by decide +kernel)), (am_in (i := 220) (by decide +kernel) (by decide +kernel)), (am_in (i := 221) (by decide +kernel) (by decide +kernel)), TX4, _, rfl⟩
theorem gs_X4_39 : Cond.fieldLink RX4 39 "StormPurses$1" "$SwitchMap$StormPurses$Step" "[I" ∈ am_W := (am_in (i := 223) (by decide +kernel) (by decide +kernel))
-- other call X4 45 Method StormPurses$Step.ordinal:()I
theorem ms_X4_49 : am_LS RX4 49 kX4_stepInto yX4_stepInto 1 := ⟨l0_X4_stepInto, (am_in (i := 231) (by decide +kernel) (by decide +kernel)), (am_in (i := 232) (by decide +kernel) (by decide +kernel))⟩
theorem gs_X4_53 : Cond.fieldLink RX4 53 "StormPurses$Step" "CROSSED_TOO" "LStormPurses$Step;" ∈ am_W := (am_in (i := 244) (by decide +kernel) (by decide +kernel))
theorem ms_X4_56 : am_LS RX4 56 kX4_ifIn yX4_ifIn 4 := ⟨l0_X4_ifIn, (am_in (i := 246) (by decide +kernel) (by decide +kernel)), (am_in (i := 247) (by decide +kernel) (by decide +kernel))⟩
theorem gs_X4_60 : Cond.fieldLink RX4 60 "StormPurses$Step" "TO" "LStormPurses$Step;" ∈ am_W := (am_in (i := 249) (by decide +kernel) (by decide +kernel))
theorem gs_X4_63 : Cond.fieldLink RX4 63 "StormPurses$Step" "EQUALS" "LStormPurses$Step;" ∈ am_W := (am_in (i := 251) (by decide +kernel) (by decide +kernel))
theorem gs_X4_66 : Cond.fieldLink RX4 66 "StormPurses$Step" "SUM" "LStormPurses$Step;" ∈ am_W := (am_in (i := 253) (by decide +kernel) (by decide +kernel))
theorem gs_X4_69 : Cond.fieldLink RX4 69 "StormPurses$Step" "SUM_OR_SLASH" "LStormPurses$Step;" ∈ am_W := (am_in (i := 255) (by decide +kernel) (by decide +kernel))
theorem gs_X4_72 : Cond.fieldLink RX4 72 "StormPurses$Step" "DAYS" "LStormPurses$Step;" ∈ am_W := (am_in (i := 257) (by decide +kernel) (by decide +kernel))
theorem gs_X4_75 : Cond.fieldLink RX4 75 "StormPurses$Step" "SLASH" "LStormPurses$Step;" ∈ am_W := (am_in (i := 259) (by decide +kernel) (by decide +kernel))
theorem gs_X4_78 : Cond.fieldLink RX4 78 "StormPurses$Step" "CROSSED" "LStormPurses$Step;" ∈ am_W := (am_in (i := 236) (by decide +kernel) (by decide +kernel))
theorem gs_X4_81 : Cond.fieldLink RX4 81 "StormPurses$Step" "FROM" "LStormPurses$Step;" ∈ am_W := (am_in (i := 238) (by decide +kernel) (by decide +kernel))
theorem gs_X4_84 : Cond.fieldLink RX4 84 "StormPurses$Step" "NUMBER" "LStormPurses$Step;" ∈ am_W := (am_in (i := 240) (by decide +kernel) (by decide +kernel))
theorem mv_X4_87 : am_LV RX4 87 2 kX4_digitAt yX4_digitAt 1 := ⟨l0_X4_digitAt, (am_in (i := 708) (by decide +kernel) (by decide +kernel)), (am_in (i := 697) (by decide +kernel) (by decide +kernel)), (am_in (i := 698) (by decide +kernel) (by decide +kernel)), TX4, _, rfl⟩
theorem oi_X5_3 : am_oiW RX5 3 := ⟨(am_in (i := 154) (by decide +kernel) (by decide +kernel)), (am_in (i := 79) (by decide +kernel) (by decide +kernel)), am_in (i := 80) (by decide +kernel) (by decide +kernel)⟩
theorem fp_X5_9 : am_FP RX5 9 3 0 (.array .int) true := ⟨RX5, TX5, 2, tyX5, cl_X5, by decide, (am_in (i := 155) (by decide +kernel) (by decide +kernel)), rfl, by decide +kernel, fun _ => rfl⟩
theorem f_X5_9 : am_F RX5 9 3 0 := fp_X5_9.F
theorem fp_X5_15 : am_FP RX5 15 3 1 (.array .int) true := ⟨RX5, TX5, 2, tyX5, cl_X5, by decide, (am_in (i := 156) (by decide +kernel) (by decide +kernel)), rfl, by decide +kernel, fun _ => rfl⟩
theorem f_X5_15 : am_F RX5 15 3 1 := fp_X5_15.F
theorem kc_X5_18 : Cond.constant RX5 18 1000000 ∈ am_W := am_in (i := 459) (by decide +kernel) (by decide +kernel)
theorem mv_X5_19 : am_LV RX5 19 1 kX2_capsOf yX2_capsOf 2 := ⟨l0_X2_capsOf, (am_in (i := 460) (by decide +kernel) (by decide +kernel)), (am_in (i := 270) (by decide +kernel) (by decide +kernel)), (am_in (i := 271) (by decide +kernel) (by decide +kernel)), TX2, _, rfl⟩
theorem mv_X5_25 : am_LV RX5 25 1 kX2_worthOf yX2_worthOf 1 := ⟨l0_X2_worthOf, (am_in (i := 461) (by decide +kernel) (by decide +kernel)), (am_in (i := 280) (by decide +kernel) (by decide +kernel)), (am_in (i := 281) (by decide +kernel) (by decide +kernel)), TX2, _, rfl⟩
theorem mv_X5_29 : am_LV RX5 29 3 kX5_addColour yX5_addColour 3 := ⟨l0_X5_addColour, (am_in (i := 462) (by decide +kernel) (by decide +kernel)), (am_in (i := 464) (by decide +kernel) (by decide +kernel)), (am_in (i := 3) (by decide +kernel) (by decide +kernel)), TX5, _, rfl⟩
theorem mm_X5_33 : am_minW RX5 33 := ⟨(am_in (i := 466) (by decide +kernel) (by decide +kernel)), (am_in (i := 467) (by decide +kernel) (by decide +kernel)), (am_in (i := 69) (by decide +kernel) (by decide +kernel)), am_in (i := 468) (by decide +kernel) (by decide +kernel)⟩
theorem ms_X5_38 : am_LS RX5 38 kX5_wholeCaps yX5_wholeCaps 2 := ⟨l0_X5_wholeCaps, (am_in (i := 473) (by decide +kernel) (by decide +kernel)), (am_in (i := 474) (by decide +kernel) (by decide +kernel))⟩
theorem mv_X5_41 : am_LV RX5 41 3 kX5_note yX5_note 4 := ⟨l0_X5_note, (am_in (i := 476) (by decide +kernel) (by decide +kernel)), (am_in (i := 478) (by decide +kernel) (by decide +kernel)), (am_in (i := 4) (by decide +kernel) (by decide +kernel)), TX5, _, rfl⟩
theorem oi_X6_1 : am_oiW RX6 1 := ⟨(am_in (i := 78) (by decide +kernel) (by decide +kernel)), (am_in (i := 79) (by decide +kernel) (by decide +kernel)), am_in (i := 80) (by decide +kernel) (by decide +kernel)⟩
theorem cn_X6_7 : Cond.classLink RX6 7 "StormPurses$Island" ∈ am_W := (am_in (i := 81) (by decide +kernel) (by decide +kernel))
theorem nw_X6_7 : am_Nw RX6 7 1 fs0_X2 12 := ⟨RX2, TX2, tyX2, cl_X2, cn_X6_7, (am_in (i := 82) (by decide +kernel) (by decide +kernel)), (am_in (i := 57) (by decide +kernel) (by decide +kernel)), by decide +kernel⟩
theorem mi_X6_9 : Cond.methodLink RX6 9 yX2_init ∈ am_W := (am_in (i := 83) (by decide +kernel) (by decide +kernel))
theorem mj_X6_9 : Cond.instanceMethod yX2_init ∈ am_W := (am_in (i := 84) (by decide +kernel) (by decide +kernel))
theorem fp_X6_10 : am_FP RX6 10 4 0 (.object "StormPurses$Island") true := ⟨RX6, TX6, 7, tyX6, cl_X6, by decide, (am_in (i := 178) (by decide +kernel) (by decide +kernel)), rfl, by decide +kernel, fun _ => rfl⟩
theorem f_X6_10 : am_F RX6 10 4 0 := fp_X6_10.F
theorem cn_X6_16 : Cond.classLink RX6 16 "StormPurses$History" ∈ am_W := (am_in (i := 132) (by decide +kernel) (by decide +kernel))
abbrev fs0_X1 : List Value := [.null, .int 0]
theorem nw_X6_16 : am_Nw RX6 16 0 fs0_X1 2 := ⟨RX1, TX1, tyX1, cl_X1, cn_X6_16, (am_in (i := 133) (by decide +kernel) (by decide +kernel)), (am_in (i := 58) (by decide +kernel) (by decide +kernel)), by decide +kernel⟩
theorem mi_X6_18 : Cond.methodLink RX6 18 yX1_init ∈ am_W := (am_in (i := 134) (by decide +kernel) (by decide +kernel))
theorem mj_X6_18 : Cond.instanceMethod yX1_init ∈ am_W := (am_in (i := 135) (by decide +kernel) (by decide +kernel))
theorem fp_X6_19 : am_FP RX6 19 4 1 (.object "StormPurses$History") true := ⟨RX6, TX6, 7, tyX6, cl_X6, by decide, (am_in (i := 179) (by decide +kernel) (by decide +kernel)), rfl, by decide +kernel, fun _ => rfl⟩
theorem f_X6_19 : am_F RX6 19 4 1 := fp_X6_19.F
theorem cn_X6_23 : Cond.classLink RX6 23 "StormPurses$Till" ∈ am_W := (am_in (i := 149) (by decide +kernel) (by decide +kernel))
abbrev fs0_X5 : List Value := [.null, .null]
theorem nw_X6_23 : am_Nw RX6 23 3 fs0_X5 2 := ⟨RX5, TX5, tyX5, cl_X5, cn_X6_23, (am_in (i := 150) (by decide +kernel) (by decide +kernel)), (am_in (i := 59) (by decide +kernel) (by decide +kernel)), by decide +kernel⟩
theorem mj_X6_25 : Cond.instanceMethod yX5_init ∈ am_W := (am_in (i := 152) (by decide +kernel) (by decide +kernel))
theorem fp_X6_26 : am_FP RX6 26 4 2 (.object "StormPurses$Till") true := ⟨RX6, TX6, 7, tyX6, cl_X6, by decide, (am_in (i := 180) (by decide +kernel) (by decide +kernel)), rfl, by decide +kernel, fun _ => rfl⟩
theorem f_X6_26 : am_F RX6 26 4 2 := fp_X6_26.F
theorem cn_X6_30 : Cond.classLink RX6 30 "StormPurses$Text" ∈ am_W := (am_in (i := 163) (by decide +kernel) (by decide +kernel))
abbrev fs0_X4 : List Value := [.null, .int 0]
theorem nw_X6_30 : am_Nw RX6 30 2 fs0_X4 2 := ⟨RX4, TX4, tyX4, cl_X4, cn_X6_30, (am_in (i := 164) (by decide +kernel) (by decide +kernel)), (am_in (i := 60) (by decide +kernel) (by decide +kernel)), by decide +kernel⟩
theorem mj_X6_32 : Cond.instanceMethod yX4_init ∈ am_W := (am_in (i := 166) (by decide +kernel) (by decide +kernel))
theorem fp_X6_33 : am_FP RX6 33 4 3 (.object "StormPurses$Text") true := ⟨RX6, TX6, 7, tyX6, cl_X6, by decide, (am_in (i := 181) (by decide +kernel) (by decide +kernel)), rfl, by decide +kernel, fun _ => rfl⟩
theorem f_X6_33 : am_F RX6 33 4 3 := fp_X6_33.F
theorem an_X6_7 : Cond.classLink RX6 7 "StormPurses$Island" ∈ am_W := (am_in (i := 81) (by decide +kernel) (by decide +kernel))
theorem fp_X6_37 : am_FP RX6 37 4 4 (.array (.object "StormPurses$Island")) true := ⟨RX6, TX6, 7, tyX6, cl_X6, by decide, (am_in (i := 182) (by decide +kernel) (by decide +kernel)), rfl, by decide +kernel, fun _ => rfl⟩
theorem f_X6_37 : am_F RX6 37 4 4 := fp_X6_37.F
theorem fp_X6_41 : am_FP RX6 41 4 5 (.array .boolean) true := ⟨RX6, TX6, 7, tyX6, cl_X6, by decide, (am_in (i := 183) (by decide +kernel) (by decide +kernel)), rfl, by decide +kernel, fun _ => rfl⟩
theorem f_X6_41 : am_F RX6 41 4 5 := fp_X6_41.F
theorem fp_X6_45 : am_FP RX6 45 4 6 (.array .int) true := ⟨RX6, TX6, 7, tyX6, cl_X6, by decide, (am_in (i := 184) (by decide +kernel) (by decide +kernel)), rfl, by decide +kernel, fun _ => rfl⟩
theorem f_X6_45 : am_F RX6 45 4 6 := fp_X6_45.F
theorem mv_X6_49 : am_LV RX6 49 1 kX2_canStorm yX2_canStorm 0 := ⟨l0_X2_canStorm, (am_in (i := 542) (by decide +kernel) (by decide +kernel)), (am_in (i := 543) (by decide +kernel) (by decide +kernel)), (am_in (i := 544) (by decide +kernel) (by decide +kernel)), TX2, _, rfl⟩
theorem cn_X6_53 : Cond.classLink RX6 53 "java/lang/IllegalStateException" ∈ am_W := (am_in (i := 546) (by decide +kernel) (by decide +kernel))
-- other call X6 57 Method java/lang/IllegalStateException."<init>":(Ljava/lang/String;)V
theorem mv_X6_60 : am_LV RX6 60 0 kX1_push yX1_push 1 := ⟨l0_X1_push, (am_in (i := 562) (by decide +kernel) (by decide +kernel)), (am_in (i := 563) (by decide +kernel) (by decide +kernel)), (am_in (i := 564) (by decide +kernel) (by decide +kernel)), TX1, _, rfl⟩
theorem mv_X6_64 : am_LV RX6 64 1 kX2_blow yX2_blow 0 := ⟨l0_X2_blow, (am_in (i := 580) (by decide +kernel) (by decide +kernel)), (am_in (i := 581) (by decide +kernel) (by decide +kernel)), (am_in (i := 582) (by decide +kernel) (by decide +kernel)), TX2, _, rfl⟩
theorem ms_X6_68 : am_LS RX6 68 kX6_needIslander yX6_needIslander 1 := ⟨l0_X6_needIslander, (am_in (i := 387) (by decide +kernel) (by decide +kernel)), (am_in (i := 388) (by decide +kernel) (by decide +kernel))⟩
theorem mv_X6_72 : am_LV RX6 72 1 kX2_swapPaths yX2_swapPaths 2 := ⟨l0_X2_swapPaths, (am_in (i := 600) (by decide +kernel) (by decide +kernel)), (am_in (i := 601) (by decide +kernel) (by decide +kernel)), (am_in (i := 602) (by decide +kernel) (by decide +kernel)), TX2, _, rfl⟩
theorem mv_X6_76 : am_LV RX6 76 1 kX2_leadsTo yX2_leadsTo 1 := ⟨l0_X2_leadsTo, (am_in (i := 417) (by decide +kernel) (by decide +kernel)), (am_in (i := 418) (by decide +kernel) (by decide +kernel)), (am_in (i := 419) (by decide +kernel) (by decide +kernel)), TX2, _, rfl⟩
theorem ms_X6_80 : am_LS RX6 80 kX6_needColour yX6_needColour 1 := ⟨l0_X6_needColour, (am_in (i := 407) (by decide +kernel) (by decide +kernel)), (am_in (i := 408) (by decide +kernel) (by decide +kernel))⟩
theorem ms_X6_83 : am_LS RX6 83 kX6_needOthers yX6_needOthers 2 := ⟨l0_X6_needOthers, (am_in (i := 612) (by decide +kernel) (by decide +kernel)), (am_in (i := 613) (by decide +kernel) (by decide +kernel))⟩
theorem ms_X6_86 : am_LS RX6 86 kX6_needRange yX6_needRange 3 := ⟨l0_X6_needRange, (am_in (i := 443) (by decide +kernel) (by decide +kernel)), (am_in (i := 444) (by decide +kernel) (by decide +kernel))⟩
theorem mv_X6_90 : am_LV RX6 90 4 kX6_reasonAgainst yX6_reasonAgainst 6 := ⟨l0_X6_reasonAgainst, (am_in (i := 616) (by decide +kernel) (by decide +kernel)), (am_in (i := 618) (by decide +kernel) (by decide +kernel)), (am_in (i := 13) (by decide +kernel) (by decide +kernel)), TX6, _, rfl⟩
theorem fp_X6_94 : am_FP RX6 94 1 11 .int false := ⟨RX2, TX2, 12, tyX2, cl_X2, by decide, (am_in (i := 105) (by decide +kernel) (by decide +kernel)), rfl, by decide +kernel, fun h => by cases h⟩
theorem f_X6_94 : am_F RX6 94 1 11 := fp_X6_94.F
theorem mv_X6_98 : am_LV RX6 98 1 kX2_hand yX2_hand 4 := ⟨l0_X2_hand, (am_in (i := 623) (by decide +kernel) (by decide +kernel)), (am_in (i := 624) (by decide +kernel) (by decide +kernel)), (am_in (i := 625) (by decide +kernel) (by decide +kernel)), TX2, _, rfl⟩
theorem fp_X6_102 : am_FP RX6 102 1 8 .int false := ⟨RX2, TX2, 12, tyX2, cl_X2, by decide, (am_in (i := 99) (by decide +kernel) (by decide +kernel)), rfl, by decide +kernel, fun h => by cases h⟩
theorem f_X6_102 : am_F RX6 102 1 8 := fp_X6_102.F
theorem mv_X6_105 : am_LV RX6 105 1 kX2_worthOf yX2_worthOf 1 := ⟨l0_X2_worthOf, (am_in (i := 378) (by decide +kernel) (by decide +kernel)), (am_in (i := 280) (by decide +kernel) (by decide +kernel)), (am_in (i := 281) (by decide +kernel) (by decide +kernel)), TX2, _, rfl⟩
theorem mv_X6_108 : am_LV RX6 108 1 kX2_makeWorth yX2_makeWorth 2 := ⟨l0_X2_makeWorth, (am_in (i := 634) (by decide +kernel) (by decide +kernel)), (am_in (i := 635) (by decide +kernel) (by decide +kernel)), (am_in (i := 636) (by decide +kernel) (by decide +kernel)), TX2, _, rfl⟩
theorem fp_X6_111 : am_FP RX6 111 1 7 .int false := ⟨RX2, TX2, 12, tyX2, cl_X2, by decide, (am_in (i := 97) (by decide +kernel) (by decide +kernel)), rfl, by decide +kernel, fun h => by cases h⟩
theorem f_X6_111 : am_F RX6 111 1 7 := fp_X6_111.F
theorem mv_X6_114 : am_LV RX6 114 1 kX2_makePromise yX2_makePromise 4 := ⟨l0_X2_makePromise, (am_in (i := 652) (by decide +kernel) (by decide +kernel)), (am_in (i := 653) (by decide +kernel) (by decide +kernel)), (am_in (i := 654) (by decide +kernel) (by decide +kernel)), TX2, _, rfl⟩
theorem mv_X6_118 : am_LV RX6 118 4 kX6_needPromise yX6_needPromise 1 := ⟨l0_X6_needPromise, (am_in (i := 493) (by decide +kernel) (by decide +kernel)), (am_in (i := 495) (by decide +kernel) (by decide +kernel)), (am_in (i := 6) (by decide +kernel) (by decide +kernel)), TX6, _, rfl⟩
theorem mv_X6_121 : am_LV RX6 121 4 kX6_keepPromise yX6_keepPromise 1 := ⟨l0_X6_keepPromise, (am_in (i := 663) (by decide +kernel) (by decide +kernel)), (am_in (i := 665) (by decide +kernel) (by decide +kernel)), (am_in (i := 14) (by decide +kernel) (by decide +kernel)), TX6, _, rfl⟩
theorem fp_X6_124 : am_FP RX6 124 2 1 .int false := ⟨RX4, TX4, 2, tyX4, cl_X4, by decide, (am_in (i := 171) (by decide +kernel) (by decide +kernel)), rfl, by decide +kernel, fun h => by cases h⟩
theorem f_X6_124 : am_F RX6 124 2 1 := fp_X6_124.F
theorem mv_X6_129 : am_LV RX6 129 2 kX4_put yX4_put 1 := ⟨l0_X4_put, (am_in (i := 676) (by decide +kernel) (by decide +kernel)), (am_in (i := 677) (by decide +kernel) (by decide +kernel)), (am_in (i := 678) (by decide +kernel) (by decide +kernel)), TX4, _, rfl⟩
theorem mv_X6_133 : am_LV RX6 133 2 kX4_errorAt yX4_errorAt 0 := ⟨l0_X4_errorAt, (am_in (i := 209) (by decide +kernel) (by decide +kernel)), (am_in (i := 210) (by decide +kernel) (by decide +kernel)), (am_in (i := 211) (by decide +kernel) (by decide +kernel)), TX4, _, rfl⟩
theorem mv_X6_136 : am_LV RX6 136 2 kX4_tellsOrders yX4_tellsOrders 0 := ⟨l0_X4_tellsOrders, (am_in (i := 687) (by decide +kernel) (by decide +kernel)), (am_in (i := 688) (by decide +kernel) (by decide +kernel)), (am_in (i := 689) (by decide +kernel) (by decide +kernel)), TX4, _, rfl⟩
theorem cn_X6_139 : Cond.classLink RX6 139 "java/lang/IllegalArgumentException" ∈ am_W := (am_in (i := 306) (by decide +kernel) (by decide +kernel))
-- other call X6 143 Method java/lang/IllegalArgumentException."<init>":(Ljava/lang/String;)V
theorem mv_X6_144 : am_LV RX6 144 4 kX6_isDone yX6_isDone 1 := ⟨l0_X6_isDone, (am_in (i := 692) (by decide +kernel) (by decide +kernel)), (am_in (i := 694) (by decide +kernel) (by decide +kernel)), (am_in (i := 15) (by decide +kernel) (by decide +kernel)), TX6, _, rfl⟩
theorem mv_X6_148 : am_LV RX6 148 2 kX4_nextOrder yX4_nextOrder 1 := ⟨l0_X4_nextOrder, (am_in (i := 713) (by decide +kernel) (by decide +kernel)), (am_in (i := 714) (by decide +kernel) (by decide +kernel)), (am_in (i := 715) (by decide +kernel) (by decide +kernel)), TX4, _, rfl⟩
theorem ms_X6_151 : am_LS RX6 151 kX2_copy yX2_copy 2 := ⟨l0_X2_copy, (am_in (i := 724) (by decide +kernel) (by decide +kernel)), (am_in (i := 571) (by decide +kernel) (by decide +kernel))⟩
theorem fp_X6_155 : am_FP RX6 155 1 6 .int false := ⟨RX2, TX2, 12, tyX2, cl_X2, by decide, (am_in (i := 95) (by decide +kernel) (by decide +kernel)), rfl, by decide +kernel, fun h => by cases h⟩
theorem f_X6_155 : am_F RX6 155 1 6 := fp_X6_155.F
theorem fp_X6_160 : am_FP RX6 160 0 1 .int false := ⟨RX1, TX1, 2, tyX1, cl_X1, by decide, (am_in (i := 143) (by decide +kernel) (by decide +kernel)), rfl, by decide +kernel, fun h => by cases h⟩
theorem f_X6_160 : am_F RX6 160 0 1 := fp_X6_160.F
theorem mv_X6_165 : am_LV RX6 165 0 kX1_pop yX1_pop 1 := ⟨l0_X1_pop, (am_in (i := 741) (by decide +kernel) (by decide +kernel)), (am_in (i := 742) (by decide +kernel) (by decide +kernel)), (am_in (i := 743) (by decide +kernel) (by decide +kernel)), TX1, _, rfl⟩
theorem mv_X6_168 : am_LV RX6 168 1 kX2_capsOf yX2_capsOf 2 := ⟨l0_X2_capsOf, (am_in (i := 412) (by decide +kernel) (by decide +kernel)), (am_in (i := 270) (by decide +kernel) (by decide +kernel)), (am_in (i := 271) (by decide +kernel) (by decide +kernel)), TX2, _, rfl⟩
theorem mv_X6_172 : am_LV RX6 172 1 kX2_purseWorth yX2_purseWorth 1 := ⟨l0_X2_purseWorth, (am_in (i := 265) (by decide +kernel) (by decide +kernel)), (am_in (i := 266) (by decide +kernel) (by decide +kernel)), (am_in (i := 267) (by decide +kernel) (by decide +kernel)), TX2, _, rfl⟩
theorem mv_X6_175 : am_LV RX6 175 1 kX2_circle yX2_circle 1 := ⟨l0_X2_circle, (am_in (i := 421) (by decide +kernel) (by decide +kernel)), (am_in (i := 422) (by decide +kernel) (by decide +kernel)), (am_in (i := 423) (by decide +kernel) (by decide +kernel)), TX2, _, rfl⟩
theorem mv_X6_178 : am_LV RX6 178 1 kX2_sumOf yX2_sumOf 2 := ⟨l0_X2_sumOf, (am_in (i := 426) (by decide +kernel) (by decide +kernel)), (am_in (i := 427) (by decide +kernel) (by decide +kernel)), (am_in (i := 428) (by decide +kernel) (by decide +kernel)), TX2, _, rfl⟩
theorem mv_X6_183 : am_LV RX6 183 1 kX2_partOf yX2_partOf 2 := ⟨l0_X2_partOf, (am_in (i := 484) (by decide +kernel) (by decide +kernel)), (am_in (i := 431) (by decide +kernel) (by decide +kernel)), (am_in (i := 432) (by decide +kernel) (by decide +kernel)), TX2, _, rfl⟩
theorem mv_X6_186 : am_LV RX6 186 3 kX5_leastByColours yX5_leastByColours 3 := ⟨l0_X5_leastByColours, (am_in (i := 455) (by decide +kernel) (by decide +kernel)), (am_in (i := 456) (by decide +kernel) (by decide +kernel)), (am_in (i := 457) (by decide +kernel) (by decide +kernel)), TX5, _, rfl⟩
theorem fp_X6_190 : am_FP RX6 190 1 5 .int false := ⟨RX2, TX2, 12, tyX2, cl_X2, by decide, (am_in (i := 93) (by decide +kernel) (by decide +kernel)), rfl, by decide +kernel, fun h => by cases h⟩
theorem f_X6_190 : am_F RX6 190 1 5 := fp_X6_190.F
theorem mv_X6_193 : am_LV RX6 193 1 kX2_allCaps yX2_allCaps 0 := ⟨l0_X2_allCaps, (am_in (i := 302) (by decide +kernel) (by decide +kernel)), (am_in (i := 303) (by decide +kernel) (by decide +kernel)), (am_in (i := 304) (by decide +kernel) (by decide +kernel)), TX2, _, rfl⟩
theorem mv_X6_196 : am_LV RX6 196 1 kX2_allWorth yX2_allWorth 0 := ⟨l0_X2_allWorth, (am_in (i := 287) (by decide +kernel) (by decide +kernel)), (am_in (i := 288) (by decide +kernel) (by decide +kernel)), (am_in (i := 289) (by decide +kernel) (by decide +kernel)), TX2, _, rfl⟩
theorem fp_X6_199 : am_FP RX6 199 1 9 .int false := ⟨RX2, TX2, 12, tyX2, cl_X2, by decide, (am_in (i := 101) (by decide +kernel) (by decide +kernel)), rfl, by decide +kernel, fun h => by cases h⟩
theorem f_X6_199 : am_F RX6 199 1 9 := fp_X6_199.F
theorem fp_X6_202 : am_FP RX6 202 1 10 .int false := ⟨RX2, TX2, 12, tyX2, cl_X2, by decide, (am_in (i := 103) (by decide +kernel) (by decide +kernel)), rfl, by decide +kernel, fun h => by cases h⟩
theorem f_X6_202 : am_F RX6 202 1 10 := fp_X6_202.F
theorem mv_X6_207 : am_LV RX6 207 1 kX2_along yX2_along 2 := ⟨l0_X2_along, (am_in (i := 447) (by decide +kernel) (by decide +kernel)), (am_in (i := 448) (by decide +kernel) (by decide +kernel)), (am_in (i := 449) (by decide +kernel) (by decide +kernel)), TX2, _, rfl⟩
theorem mv_X6_210 : am_LV RX6 210 4 kX6_homeByCircles yX6_homeByCircles 0 := ⟨l0_X6_homeByCircles, (am_in (i := 512) (by decide +kernel) (by decide +kernel)), (am_in (i := 514) (by decide +kernel) (by decide +kernel)), (am_in (i := 7) (by decide +kernel) (by decide +kernel)), TX6, _, rfl⟩
theorem mv_X6_213 : am_LV RX6 213 4 kX6_homeByTrying yX6_homeByTrying 0 := ⟨l0_X6_homeByTrying, (am_in (i := 519) (by decide +kernel) (by decide +kernel)), (am_in (i := 521) (by decide +kernel) (by decide +kernel)), (am_in (i := 8) (by decide +kernel) (by decide +kernel)), TX6, _, rfl⟩
theorem mv_X6_216 : am_LV RX6 216 3 kX5_leastByTrying yX5_leastByTrying 3 := ⟨l0_X5_leastByTrying, (am_in (i := 469) (by decide +kernel) (by decide +kernel)), (am_in (i := 470) (by decide +kernel) (by decide +kernel)), (am_in (i := 471) (by decide +kernel) (by decide +kernel)), TX5, _, rfl⟩
theorem mm_X6_219 : am_minW RX6 219 := ⟨(am_in (i := 503) (by decide +kernel) (by decide +kernel)), (am_in (i := 467) (by decide +kernel) (by decide +kernel)), (am_in (i := 69) (by decide +kernel) (by decide +kernel)), am_in (i := 468) (by decide +kernel) (by decide +kernel)⟩
theorem mv_X6_224 : am_LV RX6 224 1 kX2_senderTo yX2_senderTo 1 := ⟨l0_X2_senderTo, (am_in (i := 504) (by decide +kernel) (by decide +kernel)), (am_in (i := 505) (by decide +kernel) (by decide +kernel)), (am_in (i := 506) (by decide +kernel) (by decide +kernel)), TX2, _, rfl⟩
theorem mv_X6_227 : am_LV RX6 227 4 kX6_richest yX6_richest 0 := ⟨l0_X6_richest, (am_in (i := 292) (by decide +kernel) (by decide +kernel)), (am_in (i := 262) (by decide +kernel) (by decide +kernel)), (am_in (i := 263) (by decide +kernel) (by decide +kernel)), TX6, _, rfl⟩
theorem kc_X6_230 : Cond.constantLong RX6 230 3643 ∈ am_W := am_in (i := 297) (by decide +kernel) (by decide +kernel)
theorem mv_X6_232 : am_LV RX6 232 4 kX6_count yX6_count 1 := ⟨l0_X6_count, (am_in (i := 298) (by decide +kernel) (by decide +kernel)), (am_in (i := 299) (by decide +kernel) (by decide +kernel)), (am_in (i := 300) (by decide +kernel) (by decide +kernel)), TX6, _, rfl⟩
theorem ms_X6_235 : am_LS RX6 235 kX6_mixed yX6_mixed 2 := ⟨l0_X6_mixed, (am_in (i := 374) (by decide +kernel) (by decide +kernel)), (am_in (i := 375) (by decide +kernel) (by decide +kernel))⟩
theorem mv_X6_239 : am_LV RX6 239 4 kX6_withIslander yX6_withIslander 2 := ⟨l0_X6_withIslander, (am_in (i := 379) (by decide +kernel) (by decide +kernel)), (am_in (i := 381) (by decide +kernel) (by decide +kernel)), (am_in (i := 2) (by decide +kernel) (by decide +kernel)), TX6, _, rfl⟩
theorem mv_X6_243 : am_LV RX6 243 4 kX6_withPromise yX6_withPromise 2 := ⟨l0_X6_withPromise, (am_in (i := 485) (by decide +kernel) (by decide +kernel)), (am_in (i := 487) (by decide +kernel) (by decide +kernel)), (am_in (i := 5) (by decide +kernel) (by decide +kernel)), TX6, _, rfl⟩
theorem mv_X6_246 : am_LV RX6 246 4 kX6_homeIn yX6_homeIn 1 := ⟨l0_X6_homeIn, (am_in (i := 508) (by decide +kernel) (by decide +kernel)), (am_in (i := 509) (by decide +kernel) (by decide +kernel)), (am_in (i := 510) (by decide +kernel) (by decide +kernel)), TX6, _, rfl⟩
theorem mv_X6_249 : am_LV RX6 249 4 kX6_richShare yX6_richShare 0 := ⟨l0_X6_richShare, (am_in (i := 527) (by decide +kernel) (by decide +kernel)), (am_in (i := 284) (by decide +kernel) (by decide +kernel)), (am_in (i := 285) (by decide +kernel) (by decide +kernel)), TX6, _, rfl⟩
theorem ms_X6_253 : am_LS RX6 253 kX6_bitsOfShare yX6_bitsOfShare 1 := ⟨l0_X6_bitsOfShare, (am_in (i := 528) (by decide +kernel) (by decide +kernel)), (am_in (i := 529) (by decide +kernel) (by decide +kernel))⟩
theorem mv_X6_257 : am_LV RX6 257 2 kX4_signAt yX4_signAt 1 := ⟨l0_X4_signAt, (am_in (i := 533) (by decide +kernel) (by decide +kernel)), (am_in (i := 220) (by decide +kernel) (by decide +kernel)), (am_in (i := 221) (by decide +kernel) (by decide +kernel)), TX4, _, rfl⟩
theorem kc_X6_261 : Cond.constantLong RX6 261 31 ∈ am_W := am_in (i := 377) (by decide +kernel) (by decide +kernel)
theorem mv_X6_263 : am_LV RX6 263 4 kX6_caps yX6_caps 2 := ⟨l0_X6_caps, (am_in (i := 383) (by decide +kernel) (by decide +kernel)), (am_in (i := 384) (by decide +kernel) (by decide +kernel)), (am_in (i := 385) (by decide +kernel) (by decide +kernel)), TX6, _, rfl⟩
theorem mv_X6_266 : am_LV RX6 266 4 kX6_islanderOf yX6_islanderOf 2 := ⟨l0_X6_islanderOf, (am_in (i := 413) (by decide +kernel) (by decide +kernel)), (am_in (i := 414) (by decide +kernel) (by decide +kernel)), (am_in (i := 415) (by decide +kernel) (by decide +kernel)), TX6, _, rfl⟩
theorem mv_X6_269 : am_LV RX6 269 4 kX6_where yX6_where 3 := ⟨l0_X6_where, (am_in (i := 439) (by decide +kernel) (by decide +kernel)), (am_in (i := 440) (by decide +kernel) (by decide +kernel)), (am_in (i := 441) (by decide +kernel) (by decide +kernel)), TX6, _, rfl⟩
theorem mv_X6_273 : am_LV RX6 273 4 kX6_fewest yX6_fewest 3 := ⟨l0_X6_fewest, (am_in (i := 451) (by decide +kernel) (by decide +kernel)), (am_in (i := 452) (by decide +kernel) (by decide +kernel)), (am_in (i := 453) (by decide +kernel) (by decide +kernel)), TX6, _, rfl⟩
theorem mv_X6_276 : am_LV RX6 276 4 kX6_owed yX6_owed 2 := ⟨l0_X6_owed, (am_in (i := 480) (by decide +kernel) (by decide +kernel)), (am_in (i := 481) (by decide +kernel) (by decide +kernel)), (am_in (i := 482) (by decide +kernel) (by decide +kernel)), TX6, _, rfl⟩
theorem mv_X6_279 : am_LV RX6 279 4 kX6_promiseOf yX6_promiseOf 2 := ⟨l0_X6_promiseOf, (am_in (i := 489) (by decide +kernel) (by decide +kernel)), (am_in (i := 490) (by decide +kernel) (by decide +kernel)), (am_in (i := 491) (by decide +kernel) (by decide +kernel)), TX6, _, rfl⟩
theorem mv_X6_282 : am_LV RX6 282 4 kX6_canKeepIn yX6_canKeepIn 1 := ⟨l0_X6_canKeepIn, (am_in (i := 499) (by decide +kernel) (by decide +kernel)), (am_in (i := 500) (by decide +kernel) (by decide +kernel)), (am_in (i := 501) (by decide +kernel) (by decide +kernel)), TX6, _, rfl⟩
theorem kc_X6_285 : Cond.constantDouble RX6 285 4611686018427387904 ∈ am_W := am_in (i := 531) (by decide +kernel) (by decide +kernel)
theorem kc_X6_287 : Cond.constantDouble RX6 287 4841369599423283200 ∈ am_W := am_in (i := 532) (by decide +kernel) (by decide +kernel)
theorem mm_X6_289 : am_absW RX6 289 := ⟨(am_in (i := 620) (by decide +kernel) (by decide +kernel)), (am_in (i := 621) (by decide +kernel) (by decide +kernel)), (am_in (i := 69) (by decide +kernel) (by decide +kernel)), am_in (i := 622) (by decide +kernel) (by decide +kernel)⟩
theorem f_X6_292 : am_F RX6 292 3 1 := ⟨RX5, TX5, 2, tyX5, cl_X5, by decide, (am_in (i := 157) (by decide +kernel) (by decide +kernel))⟩
theorem mv_X6_295 : am_LV RX6 295 1 kX2_dropPromise yX2_dropPromise 1 := ⟨l0_X2_dropPromise, (am_in (i := 667) (by decide +kernel) (by decide +kernel)), (am_in (i := 589) (by decide +kernel) (by decide +kernel)), (am_in (i := 590) (by decide +kernel) (by decide +kernel)), TX2, _, rfl⟩
theorem mv_X6_298 : am_LV RX6 298 2 kX4_digitAt yX4_digitAt 1 := ⟨l0_X4_digitAt, (am_in (i := 696) (by decide +kernel) (by decide +kernel)), (am_in (i := 697) (by decide +kernel) (by decide +kernel)), (am_in (i := 698) (by decide +kernel) (by decide +kernel)), TX4, _, rfl⟩
theorem mv_X6_301 : am_LV RX6 301 4 kX6_isStormDone yX6_isStormDone 0 := ⟨l0_X6_isStormDone, (am_in (i := 700) (by decide +kernel) (by decide +kernel)), (am_in (i := 702) (by decide +kernel) (by decide +kernel)), (am_in (i := 16) (by decide +kernel) (by decide +kernel)), TX6, _, rfl⟩
theorem mv_X6_304 : am_LV RX6 304 2 kX4_sumOfOrder yX4_sumOfOrder 1 := ⟨l0_X4_sumOfOrder, (am_in (i := 704) (by decide +kernel) (by decide +kernel)), (am_in (i := 705) (by decide +kernel) (by decide +kernel)), (am_in (i := 706) (by decide +kernel) (by decide +kernel)), TX4, _, rfl⟩
theorem mv_X6_307 : am_LV RX6 307 2 kX4_daysOfOrder yX4_daysOfOrder 1 := ⟨l0_X4_daysOfOrder, (am_in (i := 709) (by decide +kernel) (by decide +kernel)), (am_in (i := 710) (by decide +kernel) (by decide +kernel)), (am_in (i := 711) (by decide +kernel) (by decide +kernel)), TX4, _, rfl⟩
theorem mv_X6_310 : am_LV RX6 310 1 kX2_isPromise yX2_isPromise 1 := ⟨l0_X2_isPromise, (am_in (i := 497) (by decide +kernel) (by decide +kernel)), (am_in (i := 435) (by decide +kernel) (by decide +kernel)), (am_in (i := 436) (by decide +kernel) (by decide +kernel)), TX2, _, rfl⟩
theorem ms_X6_313 : am_LS RX6 313 kX6_leastCommonMultiple yX6_leastCommonMultiple 2 := ⟨l0_X6_leastCommonMultiple, (am_in (i := 516) (by decide +kernel) (by decide +kernel)), (am_in (i := 517) (by decide +kernel) (by decide +kernel))⟩
theorem mv_X6_316 : am_LV RX6 316 4 kX6_areHome yX6_areHome 0 := ⟨l0_X6_areHome, (am_in (i := 523) (by decide +kernel) (by decide +kernel)), (am_in (i := 525) (by decide +kernel) (by decide +kernel)), (am_in (i := 9) (by decide +kernel) (by decide +kernel)), TX6, _, rfl⟩
theorem ms_X6_319 : am_LS RX6 319 kX2_isIslander yX2_isIslander 1 := ⟨l0_X2_isIslander, (am_in (i := 390) (by decide +kernel) (by decide +kernel)), (am_in (i := 274) (by decide +kernel) (by decide +kernel))⟩
theorem cn_X6_322 : Cond.classLink RX6 322 "java/lang/IndexOutOfBoundsException" ∈ am_W := (am_in (i := 391) (by decide +kernel) (by decide +kernel))
-- other call X6 326 Method java/lang/IndexOutOfBoundsException."<init>":(Ljava/lang/String;)V
theorem ms_X6_327 : am_LS RX6 327 kX2_isColour yX2_isColour 1 := ⟨l0_X2_isColour, (am_in (i := 410) (by decide +kernel) (by decide +kernel)), (am_in (i := 277) (by decide +kernel) (by decide +kernel))⟩
theorem oi_X7_1 : am_oiW RX7 1 := ⟨(am_in (i := 786) (by decide +kernel) (by decide +kernel)), (am_in (i := 79) (by decide +kernel) (by decide +kernel)), am_in (i := 80) (by decide +kernel) (by decide +kernel)⟩
theorem fp_X7_7 : am_FP RX7 7 5 0 (.array .int) true := ⟨RX7, TX7, 15, tyX7, cl_X7, by decide, (am_in (i := 787) (by decide +kernel) (by decide +kernel)), rfl, by decide +kernel, fun _ => rfl⟩
theorem f_X7_7 : am_F RX7 7 5 0 := fp_X7_7.F
theorem fp_X7_13 : am_FP RX7 13 5 1 (.array .int) true := ⟨RX7, TX7, 15, tyX7, cl_X7, by decide, (am_in (i := 788) (by decide +kernel) (by decide +kernel)), rfl, by decide +kernel, fun _ => rfl⟩
theorem f_X7_13 : am_F RX7 13 5 1 := fp_X7_13.F
theorem fp_X7_16 : am_FP RX7 16 5 3 (.array .int) true := ⟨RX7, TX7, 15, tyX7, cl_X7, by decide, (am_in (i := 790) (by decide +kernel) (by decide +kernel)), rfl, by decide +kernel, fun _ => rfl⟩
theorem f_X7_16 : am_F RX7 16 5 3 := fp_X7_16.F
theorem fp_X7_19 : am_FP RX7 19 5 4 (.array .boolean) true := ⟨RX7, TX7, 15, tyX7, cl_X7, by decide, (am_in (i := 791) (by decide +kernel) (by decide +kernel)), rfl, by decide +kernel, fun _ => rfl⟩
theorem f_X7_19 : am_F RX7 19 5 4 := fp_X7_19.F
theorem fp_X7_23 : am_FP RX7 23 5 5 (.array .int) true := ⟨RX7, TX7, 15, tyX7, cl_X7, by decide, (am_in (i := 792) (by decide +kernel) (by decide +kernel)), rfl, by decide +kernel, fun _ => rfl⟩
theorem f_X7_23 : am_F RX7 23 5 5 := fp_X7_23.F
theorem fp_X7_26 : am_FP RX7 26 5 8 (.array .int) true := ⟨RX7, TX7, 15, tyX7, cl_X7, by decide, (am_in (i := 795) (by decide +kernel) (by decide +kernel)), rfl, by decide +kernel, fun _ => rfl⟩
theorem f_X7_26 : am_F RX7 26 5 8 := fp_X7_26.F
theorem fp_X7_29 : am_FP RX7 29 5 9 (.array .int) true := ⟨RX7, TX7, 15, tyX7, cl_X7, by decide, (am_in (i := 796) (by decide +kernel) (by decide +kernel)), rfl, by decide +kernel, fun _ => rfl⟩
theorem f_X7_29 : am_F RX7 29 5 9 := fp_X7_29.F
theorem fp_X7_32 : am_FP RX7 32 5 12 (.array .int) true := ⟨RX7, TX7, 15, tyX7, cl_X7, by decide, (am_in (i := 799) (by decide +kernel) (by decide +kernel)), rfl, by decide +kernel, fun _ => rfl⟩
theorem f_X7_32 : am_F RX7 32 5 12 := fp_X7_32.F
theorem fp_X7_35 : am_FP RX7 35 5 7 .int false := ⟨RX7, TX7, 15, tyX7, cl_X7, by decide, (am_in (i := 794) (by decide +kernel) (by decide +kernel)), rfl, by decide +kernel, fun h => by cases h⟩
theorem f_X7_35 : am_F RX7 35 5 7 := fp_X7_35.F
theorem ms_X7_39 : am_LS RX7 39 kX7_in yX7_in 3 := ⟨l0_X7_in, (am_in (i := 871) (by decide +kernel) (by decide +kernel)), (am_in (i := 872) (by decide +kernel) (by decide +kernel))⟩
theorem fp_X7_43 : am_FP RX7 43 5 2 .int false := ⟨RX7, TX7, 15, tyX7, cl_X7, by decide, (am_in (i := 789) (by decide +kernel) (by decide +kernel)), rfl, by decide +kernel, fun h => by cases h⟩
theorem f_X7_43 : am_F RX7 43 5 2 := fp_X7_43.F
theorem ms_X7_46 : am_LS RX7 46 kX7_copy yX7_copy 4 := ⟨l0_X7_copy, (am_in (i := 849) (by decide +kernel) (by decide +kernel)), (am_in (i := 850) (by decide +kernel) (by decide +kernel))⟩
theorem mv_X7_50 : am_LV RX7 50 5 kX7_capsOf yX7_capsOf 2 := ⟨l0_X7_capsOf, (am_in (i := 889) (by decide +kernel) (by decide +kernel)), (am_in (i := 891) (by decide +kernel) (by decide +kernel)), (am_in (i := 24) (by decide +kernel) (by decide +kernel)), TX7, _, rfl⟩
theorem ms_X7_54 : am_LS RX7 54 kX7_less yX7_less 2 := ⟨l0_X7_less, (am_in (i := 944) (by decide +kernel) (by decide +kernel)), (am_in (i := 945) (by decide +kernel) (by decide +kernel))⟩
theorem mv_X7_57 : am_LV RX7 57 5 kX7_most yX7_most 3 := ⟨l0_X7_most, (am_in (i := 940) (by decide +kernel) (by decide +kernel)), (am_in (i := 942) (by decide +kernel) (by decide +kernel)), (am_in (i := 32) (by decide +kernel) (by decide +kernel)), TX7, _, rfl⟩
theorem mv_X7_61 : am_LV RX7 61 5 kX7_of yX7_of 2 := ⟨l0_X7_of, (am_in (i := 856) (by decide +kernel) (by decide +kernel)), (am_in (i := 858) (by decide +kernel) (by decide +kernel)), (am_in (i := 20) (by decide +kernel) (by decide +kernel)), TX7, _, rfl⟩
theorem mv_X7_64 : am_LV RX7 64 5 kX7_payFrom yX7_payFrom 2 := ⟨l0_X7_payFrom, (am_in (i := 936) (by decide +kernel) (by decide +kernel)), (am_in (i := 938) (by decide +kernel) (by decide +kernel)), (am_in (i := 31) (by decide +kernel) (by decide +kernel)), TX7, _, rfl⟩
theorem mv_X7_67 : am_LV RX7 67 5 kX7_whereIs yX7_whereIs 2 := ⟨l0_X7_whereIs, (am_in (i := 1030) (by decide +kernel) (by decide +kernel)), (am_in (i := 1032) (by decide +kernel) (by decide +kernel)), (am_in (i := 44) (by decide +kernel) (by decide +kernel)), TX7, _, rfl⟩
theorem mv_X7_70 : am_LV RX7 70 5 kX7_circle yX7_circle 1 := ⟨l0_X7_circle, (am_in (i := 1026) (by decide +kernel) (by decide +kernel)), (am_in (i := 1028) (by decide +kernel) (by decide +kernel)), (am_in (i := 43) (by decide +kernel) (by decide +kernel)), TX7, _, rfl⟩
theorem mv_X7_74 : am_LV RX7 74 5 kX7_drop yX7_drop 1 := ⟨l0_X7_drop, (am_in (i := 860) (by decide +kernel) (by decide +kernel)), (am_in (i := 862) (by decide +kernel) (by decide +kernel)), (am_in (i := 21) (by decide +kernel) (by decide +kernel)), TX7, _, rfl⟩
theorem mv_X7_78 : am_LV RX7 78 5 kX7_refuse yX7_refuse 1 := ⟨l0_X7_refuse, (am_in (i := 893) (by decide +kernel) (by decide +kernel)), (am_in (i := 895) (by decide +kernel) (by decide +kernel)), (am_in (i := 25) (by decide +kernel) (by decide +kernel)), TX7, _, rfl⟩
theorem mv_X7_81 : am_LV RX7 81 5 kX7_payOf yX7_payOf 1 := ⟨l0_X7_payOf, (am_in (i := 932) (by decide +kernel) (by decide +kernel)), (am_in (i := 934) (by decide +kernel) (by decide +kernel)), (am_in (i := 30) (by decide +kernel) (by decide +kernel)), TX7, _, rfl⟩
theorem mv_X7_84 : am_LV RX7 84 5 kX7_give yX7_give 4 := ⟨l0_X7_give, (am_in (i := 897) (by decide +kernel) (by decide +kernel)), (am_in (i := 899) (by decide +kernel) (by decide +kernel)), (am_in (i := 26) (by decide +kernel) (by decide +kernel)), TX7, _, rfl⟩
theorem ms_X7_88 : am_LS RX7 88 kX7_isIslander yX7_isIslander 1 := ⟨l0_X7_isIslander, (am_in (i := 868) (by decide +kernel) (by decide +kernel)), (am_in (i := 869) (by decide +kernel) (by decide +kernel))⟩
theorem mv_X7_92 : am_LV RX7 92 5 kX7_holds yX7_holds 1 := ⟨l0_X7_holds, (am_in (i := 841) (by decide +kernel) (by decide +kernel)), (am_in (i := 843) (by decide +kernel) (by decide +kernel)), (am_in (i := 17) (by decide +kernel) (by decide +kernel)), TX7, _, rfl⟩
theorem mv_X7_95 : am_LV RX7 95 5 kX7_save yX7_save 0 := ⟨l0_X7_save, (am_in (i := 845) (by decide +kernel) (by decide +kernel)), (am_in (i := 847) (by decide +kernel) (by decide +kernel)), (am_in (i := 18) (by decide +kernel) (by decide +kernel)), TX7, _, rfl⟩
theorem mv_X7_98 : am_LV RX7 98 5 kX7_doStorm yX7_doStorm 0 := ⟨l0_X7_doStorm, (am_in (i := 852) (by decide +kernel) (by decide +kernel)), (am_in (i := 854) (by decide +kernel) (by decide +kernel)), (am_in (i := 19) (by decide +kernel) (by decide +kernel)), TX7, _, rfl⟩
theorem mv_X7_102 : am_LV RX7 102 5 kX7_doCross yX7_doCross 2 := ⟨l0_X7_doCross, (am_in (i := 874) (by decide +kernel) (by decide +kernel)), (am_in (i := 876) (by decide +kernel) (by decide +kernel)), (am_in (i := 22) (by decide +kernel) (by decide +kernel)), TX7, _, rfl⟩
theorem ms_X7_105 : am_LS RX7 105 kX7_isColour yX7_isColour 1 := ⟨l0_X7_isColour, (am_in (i := 882) (by decide +kernel) (by decide +kernel)), (am_in (i := 883) (by decide +kernel) (by decide +kernel))⟩
theorem mv_X7_108 : am_LV RX7 108 5 kX7_reasonOf yX7_reasonOf 6 := ⟨l0_X7_reasonOf, (am_in (i := 885) (by decide +kernel) (by decide +kernel)), (am_in (i := 887) (by decide +kernel) (by decide +kernel)), (am_in (i := 23) (by decide +kernel) (by decide +kernel)), TX7, _, rfl⟩
theorem ms_X7_112 : am_LS RX7 112 kX7_promiseError yX7_promiseError 4 := ⟨l0_X7_promiseError, (am_in (i := 913) (by decide +kernel) (by decide +kernel)), (am_in (i := 914) (by decide +kernel) (by decide +kernel))⟩
theorem mv_X7_116 : am_LV RX7 116 5 kX7_doPromise yX7_doPromise 4 := ⟨l0_X7_doPromise, (am_in (i := 916) (by decide +kernel) (by decide +kernel)), (am_in (i := 918) (by decide +kernel) (by decide +kernel)), (am_in (i := 27) (by decide +kernel) (by decide +kernel)), TX7, _, rfl⟩
theorem mv_X7_119 : am_LV RX7 119 5 kX7_isPromise yX7_isPromise 1 := ⟨l0_X7_isPromise, (am_in (i := 924) (by decide +kernel) (by decide +kernel)), (am_in (i := 926) (by decide +kernel) (by decide +kernel)), (am_in (i := 28) (by decide +kernel) (by decide +kernel)), TX7, _, rfl⟩
theorem mv_X7_122 : am_LV RX7 122 5 kX7_doFulfil yX7_doFulfil 1 := ⟨l0_X7_doFulfil, (am_in (i := 928) (by decide +kernel) (by decide +kernel)), (am_in (i := 930) (by decide +kernel) (by decide +kernel)), (am_in (i := 29) (by decide +kernel) (by decide +kernel)), TX7, _, rfl⟩
theorem fp_X7_125 : am_FP RX7 125 5 6 .int false := ⟨RX7, TX7, 15, tyX7, cl_X7, by decide, (am_in (i := 793) (by decide +kernel) (by decide +kernel)), rfl, by decide +kernel, fun h => by cases h⟩
theorem f_X7_125 : am_F RX7 125 5 6 := fp_X7_125.F
theorem fp_X7_128 : am_FP RX7 128 5 10 .int false := ⟨RX7, TX7, 15, tyX7, cl_X7, by decide, (am_in (i := 797) (by decide +kernel) (by decide +kernel)), rfl, by decide +kernel, fun h => by cases h⟩
theorem f_X7_128 : am_F RX7 128 5 10 := fp_X7_128.F
theorem mv_X7_131 : am_LV RX7 131 5 kX7_isNext yX7_isNext 2 := ⟨l0_X7_isNext, (am_in (i := 971) (by decide +kernel) (by decide +kernel)), (am_in (i := 973) (by decide +kernel) (by decide +kernel)), (am_in (i := 36) (by decide +kernel) (by decide +kernel)), TX7, _, rfl⟩
theorem mv_X7_135 : am_LV RX7 135 5 kX7_readDigit yX7_readDigit 2 := ⟨l0_X7_readDigit, (am_in (i := 967) (by decide +kernel) (by decide +kernel)), (am_in (i := 969) (by decide +kernel) (by decide +kernel)), (am_in (i := 35) (by decide +kernel) (by decide +kernel)), TX7, _, rfl⟩
theorem fp_X7_138 : am_FP RX7 138 5 11 .int false := ⟨RX7, TX7, 15, tyX7, cl_X7, by decide, (am_in (i := 798) (by decide +kernel) (by decide +kernel)), rfl, by decide +kernel, fun h => by cases h⟩
theorem f_X7_138 : am_F RX7 138 5 11 := fp_X7_138.F
theorem mv_X7_141 : am_LV RX7 141 5 kX7_readOther yX7_readOther 0 := ⟨l0_X7_readOther, (am_in (i := 975) (by decide +kernel) (by decide +kernel)), (am_in (i := 977) (by decide +kernel) (by decide +kernel)), (am_in (i := 37) (by decide +kernel) (by decide +kernel)), TX7, _, rfl⟩
theorem mv_X7_145 : am_LV RX7 145 5 kX7_takes yX7_takes 1 := ⟨l0_X7_takes, (am_in (i := 979) (by decide +kernel) (by decide +kernel)), (am_in (i := 981) (by decide +kernel) (by decide +kernel)), (am_in (i := 38) (by decide +kernel) (by decide +kernel)), TX7, _, rfl⟩
theorem mv_X7_148 : am_LV RX7 148 5 kX7_readSum yX7_readSum 0 := ⟨l0_X7_readSum, (am_in (i := 983) (by decide +kernel) (by decide +kernel)), (am_in (i := 985) (by decide +kernel) (by decide +kernel)), (am_in (i := 39) (by decide +kernel) (by decide +kernel)), TX7, _, rfl⟩
theorem fp_X7_151 : am_FP RX7 151 5 13 .int false := ⟨RX7, TX7, 15, tyX7, cl_X7, by decide, (am_in (i := 800) (by decide +kernel) (by decide +kernel)), rfl, by decide +kernel, fun h => by cases h⟩
theorem f_X7_151 : am_F RX7 151 5 13 := fp_X7_151.F
theorem mv_X7_154 : am_LV RX7 154 5 kX7_readOrder yX7_readOrder 0 := ⟨l0_X7_readOrder, (am_in (i := 963) (by decide +kernel) (by decide +kernel)), (am_in (i := 965) (by decide +kernel) (by decide +kernel)), (am_in (i := 34) (by decide +kernel) (by decide +kernel)), TX7, _, rfl⟩
theorem mv_X7_157 : am_LV RX7 157 5 kX7_does yX7_does 0 := ⟨l0_X7_does, (am_in (i := 987) (by decide +kernel) (by decide +kernel)), (am_in (i := 989) (by decide +kernel) (by decide +kernel)), (am_in (i := 40) (by decide +kernel) (by decide +kernel)), TX7, _, rfl⟩
theorem mv_X7_160 : am_LV RX7 160 5 kX7_readText yX7_readText 1 := ⟨l0_X7_readText, (am_in (i := 959) (by decide +kernel) (by decide +kernel)), (am_in (i := 961) (by decide +kernel) (by decide +kernel)), (am_in (i := 33) (by decide +kernel) (by decide +kernel)), TX7, _, rfl⟩
theorem ms_X7_164 : am_LS RX7 164 kX7_isSlot yX7_isSlot 1 := ⟨l0_X7_isSlot, (am_in (i := 999) (by decide +kernel) (by decide +kernel)), (am_in (i := 1000) (by decide +kernel) (by decide +kernel))⟩
theorem mv_X7_167 : am_LV RX7 167 5 kX7_worthOf yX7_worthOf 1 := ⟨l0_X7_worthOf, (am_in (i := 1022) (by decide +kernel) (by decide +kernel)), (am_in (i := 1024) (by decide +kernel) (by decide +kernel)), (am_in (i := 42) (by decide +kernel) (by decide +kernel)), TX7, _, rfl⟩
theorem mv_X7_170 : am_LV RX7 170 5 kX7_sums yX7_sums 2 := ⟨l0_X7_sums, (am_in (i := 1034) (by decide +kernel) (by decide +kernel)), (am_in (i := 1036) (by decide +kernel) (by decide +kernel)), (am_in (i := 45) (by decide +kernel) (by decide +kernel)), TX7, _, rfl⟩
theorem mv_X7_173 : am_LV RX7 173 5 kX7_islanderTold yX7_islanderTold 2 := ⟨l0_X7_islanderTold, (am_in (i := 1018) (by decide +kernel) (by decide +kernel)), (am_in (i := 1020) (by decide +kernel) (by decide +kernel)), (am_in (i := 41) (by decide +kernel) (by decide +kernel)), TX7, _, rfl⟩
theorem mv_X7_176 : am_LV RX7 176 5 kX7_allCaps yX7_allCaps 1 := ⟨l0_X7_allCaps, (am_in (i := 1054) (by decide +kernel) (by decide +kernel)), (am_in (i := 1056) (by decide +kernel) (by decide +kernel)), (am_in (i := 47) (by decide +kernel) (by decide +kernel)), TX7, _, rfl⟩
theorem mv_X7_180 : am_LV RX7 180 5 kX7_countTold yX7_countTold 1 := ⟨l0_X7_countTold, (am_in (i := 1050) (by decide +kernel) (by decide +kernel)), (am_in (i := 1052) (by decide +kernel) (by decide +kernel)), (am_in (i := 46) (by decide +kernel) (by decide +kernel)), TX7, _, rfl⟩
theorem mv_X7_183 : am_LV RX7 183 5 kX7_home yX7_home 0 := ⟨l0_X7_home, (am_in (i := 1066) (by decide +kernel) (by decide +kernel)), (am_in (i := 1068) (by decide +kernel) (by decide +kernel)), (am_in (i := 48) (by decide +kernel) (by decide +kernel)), TX7, _, rfl⟩
theorem mv_X7_186 : am_LV RX7 186 5 kX7_richestTold yX7_richestTold 0 := ⟨l0_X7_richestTold, (am_in (i := 1078) (by decide +kernel) (by decide +kernel)), (am_in (i := 1080) (by decide +kernel) (by decide +kernel)), (am_in (i := 49) (by decide +kernel) (by decide +kernel)), TX7, _, rfl⟩
theorem mv_X7_189 : am_LV RX7 189 5 kX7_whoseComes yX7_whoseComes 2 := ⟨l0_X7_whoseComes, (am_in (i := 1090) (by decide +kernel) (by decide +kernel)), (am_in (i := 1092) (by decide +kernel) (by decide +kernel)), (am_in (i := 51) (by decide +kernel) (by decide +kernel)), TX7, _, rfl⟩
theorem mv_X7_192 : am_LV RX7 192 5 kX7_keepIn yX7_keepIn 1 := ⟨l0_X7_keepIn, (am_in (i := 1086) (by decide +kernel) (by decide +kernel)), (am_in (i := 1088) (by decide +kernel) (by decide +kernel)), (am_in (i := 50) (by decide +kernel) (by decide +kernel)), TX7, _, rfl⟩
theorem mv_X7_195 : am_LV RX7 195 5 kX7_shareTold yX7_shareTold 0 := ⟨l0_X7_shareTold, (am_in (i := 1098) (by decide +kernel) (by decide +kernel)), (am_in (i := 1100) (by decide +kernel) (by decide +kernel)), (am_in (i := 52) (by decide +kernel) (by decide +kernel)), TX7, _, rfl⟩
theorem kc_X7_199 : Cond.constantLong RX7 199 1023 ∈ am_W := am_in (i := 1119) (by decide +kernel) (by decide +kernel)
theorem kc_X7_201 : Cond.constantDouble RX7 201 4611686018427387904 ∈ am_W := am_in (i := 1120) (by decide +kernel) (by decide +kernel)
theorem kc_X7_203 : Cond.constantLong RX7 203 4503599627370496 ∈ am_W := am_in (i := 1121) (by decide +kernel) (by decide +kernel)
theorem kc_X7_205 : Cond.constantDouble RX7 205 4841369599423283200 ∈ am_W := am_in (i := 1122) (by decide +kernel) (by decide +kernel)
theorem kc_X7_207 : Cond.constantLong RX7 207 31 ∈ am_W := am_in (i := 1111) (by decide +kernel) (by decide +kernel)
theorem fp_X7_209 : am_FP RX7 209 5 14 .long false := ⟨RX7, TX7, 15, tyX7, cl_X7, by decide, (am_in (i := 801) (by decide +kernel) (by decide +kernel)), rfl, by decide +kernel, fun h => by cases h⟩
theorem f_X7_209 : am_F RX7 209 5 14 := fp_X7_209.F
theorem mv_X7_213 : am_LV RX7 213 5 kX7_mix yX7_mix 1 := ⟨l0_X7_mix, (am_in (i := 1107) (by decide +kernel) (by decide +kernel)), (am_in (i := 1109) (by decide +kernel) (by decide +kernel)), (am_in (i := 53) (by decide +kernel) (by decide +kernel)), TX7, _, rfl⟩
theorem kc_X7_217 : Cond.constantLong RX7 217 3643 ∈ am_W := am_in (i := 1106) (by decide +kernel) (by decide +kernel)
theorem mv_X7_219 : am_LV RX7 219 5 kX7_mixIslander yX7_mixIslander 1 := ⟨l0_X7_mixIslander, (am_in (i := 1112) (by decide +kernel) (by decide +kernel)), (am_in (i := 1114) (by decide +kernel) (by decide +kernel)), (am_in (i := 54) (by decide +kernel) (by decide +kernel)), TX7, _, rfl⟩
theorem ms_X7_222 : am_LS RX7 222 kX7_bitsOf yX7_bitsOf 1 := ⟨l0_X7_bitsOf, (am_in (i := 1116) (by decide +kernel) (by decide +kernel)), (am_in (i := 1117) (by decide +kernel) (by decide +kernel))⟩
theorem mv_L_7 : am_LV RL 7 4 kX6_storm yX6_storm 0 := ⟨l0_X6_storm, (am_in (i := 538) (by decide +kernel) (by decide +kernel)), (am_in (i := 539) (by decide +kernel) (by decide +kernel)), (am_in (i := 540) (by decide +kernel) (by decide +kernel)), TX6, _, rfl⟩
theorem mv_L_15 : am_LV RL 15 4 kX6_cross yX6_cross 2 := ⟨l0_X6_cross, (am_in (i := 596) (by decide +kernel) (by decide +kernel)), (am_in (i := 597) (by decide +kernel) (by decide +kernel)), (am_in (i := 598) (by decide +kernel) (by decide +kernel)), TX6, _, rfl⟩
theorem mv_L_21 : am_LV RL 21 4 kX6_trade yX6_trade 6 := ⟨l0_X6_trade, (am_in (i := 608) (by decide +kernel) (by decide +kernel)), (am_in (i := 609) (by decide +kernel) (by decide +kernel)), (am_in (i := 610) (by decide +kernel) (by decide +kernel)), TX6, _, rfl⟩
theorem mv_L_27 : am_LV RL 27 4 kX6_worth yX6_worth 2 := ⟨l0_X6_worth, (am_in (i := 630) (by decide +kernel) (by decide +kernel)), (am_in (i := 631) (by decide +kernel) (by decide +kernel)), (am_in (i := 632) (by decide +kernel) (by decide +kernel)), TX6, _, rfl⟩
theorem mv_L_30 : am_LV RL 30 4 kX6_set yX6_set 1 := ⟨l0_X6_set, (am_in (i := 641) (by decide +kernel) (by decide +kernel)), (am_in (i := 642) (by decide +kernel) (by decide +kernel)), (am_in (i := 643) (by decide +kernel) (by decide +kernel)), TX6, _, rfl⟩
theorem mv_L_34 : am_LV RL 34 4 kX6_promise yX6_promise 4 := ⟨l0_X6_promise, (am_in (i := 648) (by decide +kernel) (by decide +kernel)), (am_in (i := 649) (by decide +kernel) (by decide +kernel)), (am_in (i := 650) (by decide +kernel) (by decide +kernel)), TX6, _, rfl⟩
theorem mv_L_38 : am_LV RL 38 4 kX6_fulfil yX6_fulfil 1 := ⟨l0_X6_fulfil, (am_in (i := 659) (by decide +kernel) (by decide +kernel)), (am_in (i := 660) (by decide +kernel) (by decide +kernel)), (am_in (i := 661) (by decide +kernel) (by decide +kernel)), TX6, _, rfl⟩
theorem mv_L_41 : am_LV RL 41 4 kX6_append yX6_append 1 := ⟨l0_X6_append, (am_in (i := 671) (by decide +kernel) (by decide +kernel)), (am_in (i := 672) (by decide +kernel) (by decide +kernel)), (am_in (i := 673) (by decide +kernel) (by decide +kernel)), TX6, _, rfl⟩
theorem mv_L_44 : am_LV RL 44 4 kX6_run yX6_run 0 := ⟨l0_X6_run, (am_in (i := 683) (by decide +kernel) (by decide +kernel)), (am_in (i := 684) (by decide +kernel) (by decide +kernel)), (am_in (i := 685) (by decide +kernel) (by decide +kernel)), TX6, _, rfl⟩
theorem mv_L_47 : am_LV RL 47 4 kX6_keep yX6_keep 1 := ⟨l0_X6_keep, (am_in (i := 720) (by decide +kernel) (by decide +kernel)), (am_in (i := 721) (by decide +kernel) (by decide +kernel)), (am_in (i := 722) (by decide +kernel) (by decide +kernel)), TX6, _, rfl⟩
theorem mv_L_50 : am_LV RL 50 4 kX6_goBack yX6_goBack 1 := ⟨l0_X6_goBack, (am_in (i := 728) (by decide +kernel) (by decide +kernel)), (am_in (i := 729) (by decide +kernel) (by decide +kernel)), (am_in (i := 730) (by decide +kernel) (by decide +kernel)), TX6, _, rfl⟩
theorem mv_L_53 : am_LV RL 53 4 kX6_undo yX6_undo 0 := ⟨l0_X6_undo, (am_in (i := 736) (by decide +kernel) (by decide +kernel)), (am_in (i := 737) (by decide +kernel) (by decide +kernel)), (am_in (i := 738) (by decide +kernel) (by decide +kernel)), TX6, _, rfl⟩
theorem mv_L_56 : am_LV RL 56 4 kX6_caps yX6_caps 2 := ⟨l0_X6_caps, (am_in (i := 748) (by decide +kernel) (by decide +kernel)), (am_in (i := 384) (by decide +kernel) (by decide +kernel)), (am_in (i := 385) (by decide +kernel) (by decide +kernel)), TX6, _, rfl⟩
theorem mv_L_59 : am_LV RL 59 4 kX6_islanderOf yX6_islanderOf 2 := ⟨l0_X6_islanderOf, (am_in (i := 752) (by decide +kernel) (by decide +kernel)), (am_in (i := 414) (by decide +kernel) (by decide +kernel)), (am_in (i := 415) (by decide +kernel) (by decide +kernel)), TX6, _, rfl⟩
theorem mv_L_62 : am_LV RL 62 4 kX6_promiseOf yX6_promiseOf 2 := ⟨l0_X6_promiseOf, (am_in (i := 756) (by decide +kernel) (by decide +kernel)), (am_in (i := 490) (by decide +kernel) (by decide +kernel)), (am_in (i := 491) (by decide +kernel) (by decide +kernel)), TX6, _, rfl⟩
theorem mv_L_65 : am_LV RL 65 4 kX6_owed yX6_owed 2 := ⟨l0_X6_owed, (am_in (i := 760) (by decide +kernel) (by decide +kernel)), (am_in (i := 481) (by decide +kernel) (by decide +kernel)), (am_in (i := 482) (by decide +kernel) (by decide +kernel)), TX6, _, rfl⟩
theorem mv_L_68 : am_LV RL 68 4 kX6_count yX6_count 1 := ⟨l0_X6_count, (am_in (i := 764) (by decide +kernel) (by decide +kernel)), (am_in (i := 299) (by decide +kernel) (by decide +kernel)), (am_in (i := 300) (by decide +kernel) (by decide +kernel)), TX6, _, rfl⟩
theorem mv_L_71 : am_LV RL 71 4 kX6_where yX6_where 3 := ⟨l0_X6_where, (am_in (i := 768) (by decide +kernel) (by decide +kernel)), (am_in (i := 440) (by decide +kernel) (by decide +kernel)), (am_in (i := 441) (by decide +kernel) (by decide +kernel)), TX6, _, rfl⟩
theorem mv_L_75 : am_LV RL 75 4 kX6_homeIn yX6_homeIn 1 := ⟨l0_X6_homeIn, (am_in (i := 772) (by decide +kernel) (by decide +kernel)), (am_in (i := 509) (by decide +kernel) (by decide +kernel)), (am_in (i := 510) (by decide +kernel) (by decide +kernel)), TX6, _, rfl⟩
theorem mv_L_78 : am_LV RL 78 4 kX6_fewest yX6_fewest 3 := ⟨l0_X6_fewest, (am_in (i := 776) (by decide +kernel) (by decide +kernel)), (am_in (i := 452) (by decide +kernel) (by decide +kernel)), (am_in (i := 453) (by decide +kernel) (by decide +kernel)), TX6, _, rfl⟩
theorem mv_L_81 : am_LV RL 81 4 kX6_canKeepIn yX6_canKeepIn 1 := ⟨l0_X6_canKeepIn, (am_in (i := 780) (by decide +kernel) (by decide +kernel)), (am_in (i := 500) (by decide +kernel) (by decide +kernel)), (am_in (i := 501) (by decide +kernel) (by decide +kernel)), TX6, _, rfl⟩
theorem cn_L_8 : Cond.classLink RL 8 "StormPurses" ∈ am_W := (am_in (i := 73) (by decide +kernel) (by decide +kernel))
abbrev fs0_X6 : List Value := [.null, .null, .null, .null, .null, .null, .null]
theorem nw_L_8 : am_Nw RL 8 4 fs0_X6 7 := ⟨RX6, TX6, tyX6, cl_X6, cn_L_8, (am_in (i := 74) (by decide +kernel) (by decide +kernel)), (am_in (i := 56) (by decide +kernel) (by decide +kernel)), by decide +kernel⟩
theorem mi_L_84 : Cond.methodLink RL 84 yX6_init ∈ am_W := (am_in (i := 75) (by decide +kernel) (by decide +kernel))
theorem mj_L_84 : Cond.instanceMethod yX6_init ∈ am_W := (am_in (i := 76) (by decide +kernel) (by decide +kernel))
theorem cn_L_85 : Cond.classLink RL 85 "StormPursesModel" ∈ am_W := (am_in (i := 781) (by decide +kernel) (by decide +kernel))
abbrev fs0_X7 : List Value := [.null, .null, .int 0, .null, .null, .null, .int 0, .int 0, .null, .null, .int 0, .int 0, .null, .int 0, .long 0]
theorem nw_L_85 : am_Nw RL 85 5 fs0_X7 15 := ⟨RX7, TX7, tyX7, cl_X7, cn_L_85, (am_in (i := 782) (by decide +kernel) (by decide +kernel)), (am_in (i := 61) (by decide +kernel) (by decide +kernel)), by decide +kernel⟩
theorem mi_L_87 : Cond.methodLink RL 87 yX7_init ∈ am_W := (am_in (i := 783) (by decide +kernel) (by decide +kernel))
theorem mj_L_87 : Cond.instanceMethod yX7_init ∈ am_W := (am_in (i := 784) (by decide +kernel) (by decide +kernel))
theorem ms_L_88 : am_LS RL 88 kL_storm yL_storm 2 := ⟨l0_L_storm, (am_in (i := 534) (by decide +kernel) (by decide +kernel)), (am_in (i := 535) (by decide +kernel) (by decide +kernel))⟩
theorem mv_L_93 : am_LV RL 93 5 kX7_storm yX7_storm 0 := ⟨l0_X7_storm, (am_in (i := 837) (by decide +kernel) (by decide +kernel)), (am_in (i := 838) (by decide +kernel) (by decide +kernel)), (am_in (i := 839) (by decide +kernel) (by decide +kernel)), TX7, _, rfl⟩
theorem mv_L_94 : am_LV RL 94 5 kX7_thrown yX7_thrown 0 := ⟨l0_X7_thrown, (am_in (i := 833) (by decide +kernel) (by decide +kernel)), (am_in (i := 834) (by decide +kernel) (by decide +kernel)), (am_in (i := 835) (by decide +kernel) (by decide +kernel)), TX7, _, rfl⟩
theorem ms_L_97 : am_LS RL 97 kL_cross yL_cross 4 := ⟨l0_L_cross, (am_in (i := 592) (by decide +kernel) (by decide +kernel)), (am_in (i := 593) (by decide +kernel) (by decide +kernel))⟩
theorem mv_L_100 : am_LV RL 100 5 kX7_cross yX7_cross 2 := ⟨l0_X7_cross, (am_in (i := 864) (by decide +kernel) (by decide +kernel)), (am_in (i := 865) (by decide +kernel) (by decide +kernel)), (am_in (i := 866) (by decide +kernel) (by decide +kernel)), TX7, _, rfl⟩
theorem ms_L_101 : am_LS RL 101 kL_trade yL_trade 8 := ⟨l0_L_trade, (am_in (i := 604) (by decide +kernel) (by decide +kernel)), (am_in (i := 605) (by decide +kernel) (by decide +kernel))⟩
theorem mv_L_104 : am_LV RL 104 5 kX7_trade yX7_trade 6 := ⟨l0_X7_trade, (am_in (i := 878) (by decide +kernel) (by decide +kernel)), (am_in (i := 879) (by decide +kernel) (by decide +kernel)), (am_in (i := 880) (by decide +kernel) (by decide +kernel)), TX7, _, rfl⟩
theorem ms_L_105 : am_LS RL 105 kL_worth yL_worth 4 := ⟨l0_L_worth, (am_in (i := 627) (by decide +kernel) (by decide +kernel)), (am_in (i := 628) (by decide +kernel) (by decide +kernel))⟩
theorem mv_L_107 : am_LV RL 107 5 kX7_worth yX7_worth 2 := ⟨l0_X7_worth, (am_in (i := 901) (by decide +kernel) (by decide +kernel)), (am_in (i := 902) (by decide +kernel) (by decide +kernel)), (am_in (i := 903) (by decide +kernel) (by decide +kernel)), TX7, _, rfl⟩
theorem ms_L_108 : am_LS RL 108 kL_set yL_set 3 := ⟨l0_L_set, (am_in (i := 638) (by decide +kernel) (by decide +kernel)), (am_in (i := 639) (by decide +kernel) (by decide +kernel))⟩
theorem mv_L_111 : am_LV RL 111 5 kX7_set yX7_set 1 := ⟨l0_X7_set, (am_in (i := 905) (by decide +kernel) (by decide +kernel)), (am_in (i := 906) (by decide +kernel) (by decide +kernel)), (am_in (i := 907) (by decide +kernel) (by decide +kernel)), TX7, _, rfl⟩
theorem ms_L_112 : am_LS RL 112 kL_promise yL_promise 6 := ⟨l0_L_promise, (am_in (i := 645) (by decide +kernel) (by decide +kernel)), (am_in (i := 646) (by decide +kernel) (by decide +kernel))⟩
theorem mv_L_115 : am_LV RL 115 5 kX7_promise yX7_promise 4 := ⟨l0_X7_promise, (am_in (i := 909) (by decide +kernel) (by decide +kernel)), (am_in (i := 910) (by decide +kernel) (by decide +kernel)), (am_in (i := 911) (by decide +kernel) (by decide +kernel)), TX7, _, rfl⟩
theorem ms_L_116 : am_LS RL 116 kL_fulfil yL_fulfil 3 := ⟨l0_L_fulfil, (am_in (i := 656) (by decide +kernel) (by decide +kernel)), (am_in (i := 657) (by decide +kernel) (by decide +kernel))⟩
theorem mv_L_118 : am_LV RL 118 5 kX7_fulfil yX7_fulfil 1 := ⟨l0_X7_fulfil, (am_in (i := 920) (by decide +kernel) (by decide +kernel)), (am_in (i := 921) (by decide +kernel) (by decide +kernel)), (am_in (i := 922) (by decide +kernel) (by decide +kernel)), TX7, _, rfl⟩
theorem ms_L_119 : am_LS RL 119 kL_append yL_append 3 := ⟨l0_L_append, (am_in (i := 668) (by decide +kernel) (by decide +kernel)), (am_in (i := 669) (by decide +kernel) (by decide +kernel))⟩
theorem mv_L_121 : am_LV RL 121 5 kX7_append yX7_append 1 := ⟨l0_X7_append, (am_in (i := 947) (by decide +kernel) (by decide +kernel)), (am_in (i := 948) (by decide +kernel) (by decide +kernel)), (am_in (i := 949) (by decide +kernel) (by decide +kernel)), TX7, _, rfl⟩
theorem mv_L_122 : am_LV RL 122 4 kX6_clearBuffer yX6_clearBuffer 0 := ⟨l0_X6_clearBuffer, (am_in (i := 201) (by decide +kernel) (by decide +kernel)), (am_in (i := 202) (by decide +kernel) (by decide +kernel)), (am_in (i := 203) (by decide +kernel) (by decide +kernel)), TX6, _, rfl⟩
theorem mv_L_125 : am_LV RL 125 5 kX7_clearBuffer yX7_clearBuffer 0 := ⟨l0_X7_clearBuffer, (am_in (i := 951) (by decide +kernel) (by decide +kernel)), (am_in (i := 952) (by decide +kernel) (by decide +kernel)), (am_in (i := 953) (by decide +kernel) (by decide +kernel)), TX7, _, rfl⟩
theorem mv_L_126 : am_LV RL 126 4 kX6_firstError yX6_firstError 0 := ⟨l0_X6_firstError, (am_in (i := 205) (by decide +kernel) (by decide +kernel)), (am_in (i := 206) (by decide +kernel) (by decide +kernel)), (am_in (i := 207) (by decide +kernel) (by decide +kernel)), TX6, _, rfl⟩
theorem mv_L_129 : am_LV RL 129 5 kX7_firstError yX7_firstError 0 := ⟨l0_X7_firstError, (am_in (i := 955) (by decide +kernel) (by decide +kernel)), (am_in (i := 956) (by decide +kernel) (by decide +kernel)), (am_in (i := 957) (by decide +kernel) (by decide +kernel)), TX7, _, rfl⟩
theorem ms_L_130 : am_LS RL 130 kL_run yL_run 2 := ⟨l0_L_run, (am_in (i := 680) (by decide +kernel) (by decide +kernel)), (am_in (i := 681) (by decide +kernel) (by decide +kernel))⟩
theorem mv_L_132 : am_LV RL 132 5 kX7_run yX7_run 0 := ⟨l0_X7_run, (am_in (i := 991) (by decide +kernel) (by decide +kernel)), (am_in (i := 992) (by decide +kernel) (by decide +kernel)), (am_in (i := 993) (by decide +kernel) (by decide +kernel)), TX7, _, rfl⟩
theorem ms_L_133 : am_LS RL 133 kL_keep yL_keep 3 := ⟨l0_L_keep, (am_in (i := 717) (by decide +kernel) (by decide +kernel)), (am_in (i := 718) (by decide +kernel) (by decide +kernel))⟩
theorem mv_L_135 : am_LV RL 135 5 kX7_keep yX7_keep 1 := ⟨l0_X7_keep, (am_in (i := 995) (by decide +kernel) (by decide +kernel)), (am_in (i := 996) (by decide +kernel) (by decide +kernel)), (am_in (i := 997) (by decide +kernel) (by decide +kernel)), TX7, _, rfl⟩
theorem ms_L_136 : am_LS RL 136 kL_goBack yL_goBack 3 := ⟨l0_L_goBack, (am_in (i := 725) (by decide +kernel) (by decide +kernel)), (am_in (i := 726) (by decide +kernel) (by decide +kernel))⟩
theorem mv_L_138 : am_LV RL 138 5 kX7_goBack yX7_goBack 1 := ⟨l0_X7_goBack, (am_in (i := 1002) (by decide +kernel) (by decide +kernel)), (am_in (i := 1003) (by decide +kernel) (by decide +kernel)), (am_in (i := 1004) (by decide +kernel) (by decide +kernel)), TX7, _, rfl⟩
theorem ms_L_139 : am_LS RL 139 kL_undo yL_undo 2 := ⟨l0_L_undo, (am_in (i := 733) (by decide +kernel) (by decide +kernel)), (am_in (i := 734) (by decide +kernel) (by decide +kernel))⟩
theorem mv_L_141 : am_LV RL 141 5 kX7_undo yX7_undo 0 := ⟨l0_X7_undo, (am_in (i := 1006) (by decide +kernel) (by decide +kernel)), (am_in (i := 1007) (by decide +kernel) (by decide +kernel)), (am_in (i := 1008) (by decide +kernel) (by decide +kernel)), TX7, _, rfl⟩
theorem ms_L_142 : am_LS RL 142 kL_caps yL_caps 4 := ⟨l0_L_caps, (am_in (i := 745) (by decide +kernel) (by decide +kernel)), (am_in (i := 746) (by decide +kernel) (by decide +kernel))⟩
theorem mv_L_144 : am_LV RL 144 5 kX7_caps yX7_caps 2 := ⟨l0_X7_caps, (am_in (i := 1010) (by decide +kernel) (by decide +kernel)), (am_in (i := 1011) (by decide +kernel) (by decide +kernel)), (am_in (i := 1012) (by decide +kernel) (by decide +kernel)), TX7, _, rfl⟩
theorem ms_L_145 : am_LS RL 145 kL_islanderOf yL_islanderOf 4 := ⟨l0_L_islanderOf, (am_in (i := 749) (by decide +kernel) (by decide +kernel)), (am_in (i := 750) (by decide +kernel) (by decide +kernel))⟩
theorem mv_L_147 : am_LV RL 147 5 kX7_islanderOf yX7_islanderOf 2 := ⟨l0_X7_islanderOf, (am_in (i := 1014) (by decide +kernel) (by decide +kernel)), (am_in (i := 1015) (by decide +kernel) (by decide +kernel)), (am_in (i := 1016) (by decide +kernel) (by decide +kernel)), TX7, _, rfl⟩
theorem ms_L_148 : am_LS RL 148 kL_promiseOf yL_promiseOf 4 := ⟨l0_L_promiseOf, (am_in (i := 753) (by decide +kernel) (by decide +kernel)), (am_in (i := 754) (by decide +kernel) (by decide +kernel))⟩
theorem mv_L_150 : am_LV RL 150 5 kX7_promiseOf yX7_promiseOf 2 := ⟨l0_X7_promiseOf, (am_in (i := 1038) (by decide +kernel) (by decide +kernel)), (am_in (i := 1039) (by decide +kernel) (by decide +kernel)), (am_in (i := 1040) (by decide +kernel) (by decide +kernel)), TX7, _, rfl⟩
theorem ms_L_151 : am_LS RL 151 kL_owed yL_owed 4 := ⟨l0_L_owed, (am_in (i := 757) (by decide +kernel) (by decide +kernel)), (am_in (i := 758) (by decide +kernel) (by decide +kernel))⟩
theorem mv_L_153 : am_LV RL 153 5 kX7_owed yX7_owed 2 := ⟨l0_X7_owed, (am_in (i := 1042) (by decide +kernel) (by decide +kernel)), (am_in (i := 1043) (by decide +kernel) (by decide +kernel)), (am_in (i := 1044) (by decide +kernel) (by decide +kernel)), TX7, _, rfl⟩
theorem ms_L_154 : am_LS RL 154 kL_count yL_count 3 := ⟨l0_L_count, (am_in (i := 761) (by decide +kernel) (by decide +kernel)), (am_in (i := 762) (by decide +kernel) (by decide +kernel))⟩
theorem mv_L_156 : am_LV RL 156 5 kX7_count yX7_count 1 := ⟨l0_X7_count, (am_in (i := 1046) (by decide +kernel) (by decide +kernel)), (am_in (i := 1047) (by decide +kernel) (by decide +kernel)), (am_in (i := 1048) (by decide +kernel) (by decide +kernel)), TX7, _, rfl⟩
theorem ms_L_157 : am_LS RL 157 kL_where yL_where 5 := ⟨l0_L_where, (am_in (i := 765) (by decide +kernel) (by decide +kernel)), (am_in (i := 766) (by decide +kernel) (by decide +kernel))⟩
theorem mv_L_160 : am_LV RL 160 5 kX7_where yX7_where 3 := ⟨l0_X7_where, (am_in (i := 1058) (by decide +kernel) (by decide +kernel)), (am_in (i := 1059) (by decide +kernel) (by decide +kernel)), (am_in (i := 1060) (by decide +kernel) (by decide +kernel)), TX7, _, rfl⟩
theorem ms_L_161 : am_LS RL 161 kL_homeIn yL_homeIn 3 := ⟨l0_L_homeIn, (am_in (i := 769) (by decide +kernel) (by decide +kernel)), (am_in (i := 770) (by decide +kernel) (by decide +kernel))⟩
theorem mv_L_163 : am_LV RL 163 5 kX7_homeIn yX7_homeIn 1 := ⟨l0_X7_homeIn, (am_in (i := 1062) (by decide +kernel) (by decide +kernel)), (am_in (i := 1063) (by decide +kernel) (by decide +kernel)), (am_in (i := 1064) (by decide +kernel) (by decide +kernel)), TX7, _, rfl⟩
theorem ms_L_164 : am_LS RL 164 kL_fewest yL_fewest 5 := ⟨l0_L_fewest, (am_in (i := 773) (by decide +kernel) (by decide +kernel)), (am_in (i := 774) (by decide +kernel) (by decide +kernel))⟩
theorem mv_L_166 : am_LV RL 166 5 kX7_fewest yX7_fewest 3 := ⟨l0_X7_fewest, (am_in (i := 1070) (by decide +kernel) (by decide +kernel)), (am_in (i := 1071) (by decide +kernel) (by decide +kernel)), (am_in (i := 1072) (by decide +kernel) (by decide +kernel)), TX7, _, rfl⟩
theorem mv_L_167 : am_LV RL 167 4 kX6_richest yX6_richest 0 := ⟨l0_X6_richest, (am_in (i := 261) (by decide +kernel) (by decide +kernel)), (am_in (i := 262) (by decide +kernel) (by decide +kernel)), (am_in (i := 263) (by decide +kernel) (by decide +kernel)), TX6, _, rfl⟩
theorem mv_L_170 : am_LV RL 170 5 kX7_richest yX7_richest 0 := ⟨l0_X7_richest, (am_in (i := 1074) (by decide +kernel) (by decide +kernel)), (am_in (i := 1075) (by decide +kernel) (by decide +kernel)), (am_in (i := 1076) (by decide +kernel) (by decide +kernel)), TX7, _, rfl⟩
theorem ms_L_171 : am_LS RL 171 kL_canKeepIn yL_canKeepIn 3 := ⟨l0_L_canKeepIn, (am_in (i := 777) (by decide +kernel) (by decide +kernel)), (am_in (i := 778) (by decide +kernel) (by decide +kernel))⟩
theorem mv_L_173 : am_LV RL 173 5 kX7_canKeepIn yX7_canKeepIn 1 := ⟨l0_X7_canKeepIn, (am_in (i := 1082) (by decide +kernel) (by decide +kernel)), (am_in (i := 1083) (by decide +kernel) (by decide +kernel)), (am_in (i := 1084) (by decide +kernel) (by decide +kernel)), TX7, _, rfl⟩
theorem mv_L_174 : am_LV RL 174 4 kX6_richShare yX6_richShare 0 := ⟨l0_X6_richShare, (am_in (i := 283) (by decide +kernel) (by decide +kernel)), (am_in (i := 284) (by decide +kernel) (by decide +kernel)), (am_in (i := 285) (by decide +kernel) (by decide +kernel)), TX6, _, rfl⟩
theorem mv_L_178 : am_LV RL 178 5 kX7_richShare yX7_richShare 0 := ⟨l0_X7_richShare, (am_in (i := 1094) (by decide +kernel) (by decide +kernel)), (am_in (i := 1095) (by decide +kernel) (by decide +kernel)), (am_in (i := 1096) (by decide +kernel) (by decide +kernel)), TX7, _, rfl⟩
theorem mv_L_179 : am_LV RL 179 4 kX6_digest yX6_digest 0 := ⟨l0_X6_digest, (am_in (i := 293) (by decide +kernel) (by decide +kernel)), (am_in (i := 294) (by decide +kernel) (by decide +kernel)), (am_in (i := 295) (by decide +kernel) (by decide +kernel)), TX6, _, rfl⟩
theorem mv_L_183 : am_LV RL 183 5 kX7_digest yX7_digest 0 := ⟨l0_X7_digest, (am_in (i := 1102) (by decide +kernel) (by decide +kernel)), (am_in (i := 1103) (by decide +kernel) (by decide +kernel)), (am_in (i := 1104) (by decide +kernel) (by decide +kernel)), TX7, _, rfl⟩
theorem ot_57 : ∀ w ∈ vx_atS RX6 57 "java/lang/IllegalStateException" ["java/lang/RuntimeException", "java/lang/Exception"], w ∈ am_W ∨ w = .castable "java/lang/IllegalStateException" "java/lang/IllegalStateException" ∨ ∃ x ∈ am_Ds, w = .declares x := by
  have h : (vx_atS RX6 57 "java/lang/IllegalStateException" ["java/lang/RuntimeException", "java/lang/Exception"]).all (fun w => (decide (w ∈ lw_tbl) && goodWord w) || (decide (w = .castable "java/lang/IllegalStateException" "java/lang/IllegalStateException") || am_Ds.any (fun x => decide (w = .declares x)))) = true := by decide +kernel
  intro w hw
  have h2 := List.all_eq_true.mp h w hw
  simp only [Bool.or_eq_true, Bool.and_eq_true, decide_eq_true_eq] at h2
  rcases h2 with h3 | h3 | h3
  · exact Or.inl (List.mem_filter.mpr h3)
  · exact Or.inr (Or.inl h3)
  · obtain ⟨x, h4, h5⟩ := List.any_eq_true.mp h3
    exact Or.inr (Or.inr ⟨x, h4, of_decide_eq_true h5⟩)
theorem ie_57 : Cond.initialized "java/lang/IllegalStateException" ∈ am_W := (am_in (i := 65) (by decide +kernel) (by decide +kernel))
theorem ot_143 : ∀ w ∈ vx_atS RX6 143 "java/lang/IllegalArgumentException" ["java/lang/RuntimeException", "java/lang/Exception"], w ∈ am_W ∨ w = .castable "java/lang/IllegalArgumentException" "java/lang/IllegalArgumentException" ∨ ∃ x ∈ am_Ds, w = .declares x := by
  have h : (vx_atS RX6 143 "java/lang/IllegalArgumentException" ["java/lang/RuntimeException", "java/lang/Exception"]).all (fun w => (decide (w ∈ lw_tbl) && goodWord w) || (decide (w = .castable "java/lang/IllegalArgumentException" "java/lang/IllegalArgumentException") || am_Ds.any (fun x => decide (w = .declares x)))) = true := by decide +kernel
  intro w hw
  have h2 := List.all_eq_true.mp h w hw
  simp only [Bool.or_eq_true, Bool.and_eq_true, decide_eq_true_eq] at h2
  rcases h2 with h3 | h3 | h3
  · exact Or.inl (List.mem_filter.mpr h3)
  · exact Or.inr (Or.inl h3)
  · obtain ⟨x, h4, h5⟩ := List.any_eq_true.mp h3
    exact Or.inr (Or.inr ⟨x, h4, of_decide_eq_true h5⟩)
theorem ie_143 : Cond.initialized "java/lang/IllegalArgumentException" ∈ am_W := (am_in (i := 68) (by decide +kernel) (by decide +kernel))
theorem ot_326 : ∀ w ∈ vx_atS RX6 326 "java/lang/IndexOutOfBoundsException" ["java/lang/RuntimeException", "java/lang/Exception"], w ∈ am_W ∨ w = .castable "java/lang/IndexOutOfBoundsException" "java/lang/IndexOutOfBoundsException" ∨ ∃ x ∈ am_Ds, w = .declares x := by
  have h : (vx_atS RX6 326 "java/lang/IndexOutOfBoundsException" ["java/lang/RuntimeException", "java/lang/Exception"]).all (fun w => (decide (w ∈ lw_tbl) && goodWord w) || (decide (w = .castable "java/lang/IndexOutOfBoundsException" "java/lang/IndexOutOfBoundsException") || am_Ds.any (fun x => decide (w = .declares x)))) = true := by decide +kernel
  intro w hw
  have h2 := List.all_eq_true.mp h w hw
  simp only [Bool.or_eq_true, Bool.and_eq_true, decide_eq_true_eq] at h2
  rcases h2 with h3 | h3 | h3
  · exact Or.inl (List.mem_filter.mpr h3)
  · exact Or.inr (Or.inl h3)
  · obtain ⟨x, h4, h5⟩ := List.any_eq_true.mp h3
    exact Or.inr (Or.inr ⟨x, h4, of_decide_eq_true h5⟩)
theorem ie_326 : Cond.initialized "java/lang/IndexOutOfBoundsException" ∈ am_W := (am_in (i := 67) (by decide +kernel) (by decide +kernel))
theorem ac_i : Cond.arrayClass (newarray.typeOf .int) ∈ am_W := (am_in (i := 131) (by decide +kernel) (by decide +kernel))
theorem ac_c : Cond.arrayClass (newarray.typeOf .char) ∈ am_W := (am_in (i := 177) (by decide +kernel) (by decide +kernel))
theorem ac_z : Cond.arrayClass (newarray.typeOf .boolean) ∈ am_W := (am_in (i := 200) (by decide +kernel) (by decide +kernel))
theorem ac_j : Cond.arrayClass (newarray.typeOf .long) ∈ am_W := (am_in (i := 1123) (by decide +kernel) (by decide +kernel))
