def mX4_greatestLessLeast : ab_M := ([], [(37, 2, 0, ab_mi), (66, 2, 0, ab_mx)], [], 2, 5)
theorem mX4_greatestLessLeast_r : ab_rk mX4_greatestLessLeast = 2 := rfl
theorem mX4_greatestLessLeast_n : ab_nL mX4_greatestLessLeast = 5 := rfl
theorem mX4_greatestLessLeast_c37 : ab_ml mX4_greatestLessLeast 37 = some (2, 0, ab_mi) := rfl
theorem mX4_greatestLessLeast_c66 : ab_ml mX4_greatestLessLeast 66 = some (2, 0, ab_mx) := rfl
theorem mX4_greatestLessLeast_mo : ab_mo mX4_greatestLessLeast := List.forall_mem_cons.mpr ⟨ab_mi_m, List.forall_mem_cons.mpr ⟨ab_mx_m, fun _ h => absurd h List.not_mem_nil⟩⟩
theorem vX4_greatestLessLeast : Cond.code yX4_greatestLessLeast cX4_greatestLessLeast 5 (some .long) ∈ lw_g ∧ Cond.initialized yX4_greatestLessLeast.cls ∈ lw_g ∧ (yX4_greatestLessLeast.cls ≠ "java/lang/invoke/MethodHandle" ∧ yX4_greatestLessLeast.cls ≠ "java/lang/invoke/VarHandle") ∧ Cond.static yX4_greatestLessLeast ∈ lw_g := ⟨lw_w460, lw_w65, by decide +kernel, lw_w459⟩
theorem cX4_greatestLessLeast_met (l : Launch) : ab_Met l yX4_greatestLessLeast cX4_greatestLessLeast 5 (some .long) 1 (ab_sp mX4_greatestLessLeast cX4_greatestLessLeast) := ab_met (M := mX4_greatestLessLeast) (d := 1) (by decide +kernel) (fun _ h => absurd h List.not_mem_nil) (fun _ h => absurd h List.not_mem_nil) (List.forall_mem_cons.mpr ⟨Or.inr ⟨rfl, by decide, by decide, lw_mi, (Or.inr (Or.inl ⟨rfl, lw_w457, lw_mn.1, lw_mn.2⟩))⟩, List.forall_mem_cons.mpr ⟨Or.inr ⟨rfl, by decide, by decide, lw_mi, (Or.inl ⟨rfl, lw_w461, lw_mx.1, lw_mx.2⟩)⟩, fun _ h => absurd h List.not_mem_nil⟩⟩)
def mX4_lackTo : ab_M := ([], [(66, 2, 0, ab_mx)], [], 2, 6)
theorem mX4_lackTo_r : ab_rk mX4_lackTo = 2 := rfl
theorem mX4_lackTo_n : ab_nL mX4_lackTo = 6 := rfl
theorem mX4_lackTo_c66 : ab_ml mX4_lackTo 66 = some (2, 0, ab_mx) := rfl
theorem mX4_lackTo_mo : ab_mo mX4_lackTo := List.forall_mem_cons.mpr ⟨ab_mx_m, fun _ h => absurd h List.not_mem_nil⟩
theorem vX4_lackTo : Cond.code yX4_lackTo cX4_lackTo 6 (some .long) ∈ lw_g ∧ Cond.initialized yX4_lackTo.cls ∈ lw_g ∧ (yX4_lackTo.cls ≠ "java/lang/invoke/MethodHandle" ∧ yX4_lackTo.cls ≠ "java/lang/invoke/VarHandle") ∧ Cond.static yX4_lackTo ∈ lw_g := ⟨lw_w476, lw_w65, by decide +kernel, lw_w475⟩
theorem cX4_lackTo_met (l : Launch) : ab_Met l yX4_lackTo cX4_lackTo 6 (some .long) 1 (ab_sp mX4_lackTo cX4_lackTo) := ab_met (M := mX4_lackTo) (d := 1) (by decide +kernel) (fun _ h => absurd h List.not_mem_nil) (fun _ h => absurd h List.not_mem_nil) (List.forall_mem_cons.mpr ⟨Or.inr ⟨rfl, by decide, by decide, lw_mi, (Or.inl ⟨rfl, lw_w461, lw_mx.1, lw_mx.2⟩)⟩, fun _ h => absurd h List.not_mem_nil⟩)
def mX4_pairsDiffer : ab_M := ([], [(69, 1, 0, ab_mb)], [], 2, 6)
theorem mX4_pairsDiffer_r : ab_rk mX4_pairsDiffer = 2 := rfl
theorem mX4_pairsDiffer_n : ab_nL mX4_pairsDiffer = 6 := rfl
theorem mX4_pairsDiffer_c69 : ab_ml mX4_pairsDiffer 69 = some (1, 0, ab_mb) := rfl
theorem mX4_pairsDiffer_mo : ab_mo mX4_pairsDiffer := List.forall_mem_cons.mpr ⟨ab_mb_m, fun _ h => absurd h List.not_mem_nil⟩
theorem vX4_pairsDiffer : Cond.code yX4_pairsDiffer cX4_pairsDiffer 6 (some .long) ∈ lw_g ∧ Cond.initialized yX4_pairsDiffer.cls ∈ lw_g ∧ (yX4_pairsDiffer.cls ≠ "java/lang/invoke/MethodHandle" ∧ yX4_pairsDiffer.cls ≠ "java/lang/invoke/VarHandle") ∧ Cond.static yX4_pairsDiffer ∈ lw_g := ⟨lw_w464, lw_w65, by decide +kernel, lw_w463⟩
theorem cX4_pairsDiffer_met (l : Launch) : ab_Met l yX4_pairsDiffer cX4_pairsDiffer 6 (some .long) 1 (ab_sp mX4_pairsDiffer cX4_pairsDiffer) := ab_met (M := mX4_pairsDiffer) (d := 1) (by decide +kernel) (fun _ h => absurd h List.not_mem_nil) (fun _ h => absurd h List.not_mem_nil) (List.forall_mem_cons.mpr ⟨Or.inr ⟨rfl, by decide, by decide, lw_mi, (Or.inr (Or.inr (Or.inl ⟨rfl, lw_w465, lw_mb.1, lw_mb.2⟩)))⟩, fun _ h => absurd h List.not_mem_nil⟩)
def mX4_takes : ab_M := ([], [(9, 3, 0, ab_sp mX7_isWithin cX7_isWithin), (13, 1, 0, ab_sp mX4_hasNumber cX4_hasNumber)], [], 1, 2)
theorem mX4_takes_r : ab_rk mX4_takes = 1 := rfl
theorem mX4_takes_n : ab_nL mX4_takes = 2 := rfl
theorem mX4_takes_c9 : ab_ml mX4_takes 9 = some (3, 0, ab_sp mX7_isWithin cX7_isWithin) := rfl
theorem mX4_takes_c13 : ab_ml mX4_takes 13 = some (1, 0, ab_sp mX4_hasNumber cX4_hasNumber) := rfl
theorem mX4_takes_mo : ab_mo mX4_takes := List.forall_mem_cons.mpr ⟨ab_sp_m mX7_isWithin_mo, List.forall_mem_cons.mpr ⟨ab_sp_m mX4_hasNumber_mo, fun _ h => absurd h List.not_mem_nil⟩⟩
theorem vX4_takes : Cond.code yX4_takes cX4_takes 2 (some .boolean) ∈ lw_g ∧ Cond.initialized yX4_takes.cls ∈ lw_g ∧ (yX4_takes.cls ≠ "java/lang/invoke/MethodHandle" ∧ yX4_takes.cls ≠ "java/lang/invoke/VarHandle") ∧ Cond.static yX4_takes ∈ lw_g := ⟨lw_w449, lw_w65, by decide +kernel, lw_w448⟩
theorem cX4_takes_met (l : Launch) : ab_Met l yX4_takes cX4_takes 2 (some .boolean) 1 (ab_sp mX4_takes cX4_takes) := ab_met (M := mX4_takes) (d := 1) (by decide +kernel) (fun _ h => absurd h List.not_mem_nil) (fun _ h => absurd h List.not_mem_nil) (List.forall_mem_cons.mpr ⟨Or.inl ⟨yX7_isWithin, cX7_isWithin, 3, (some .boolean), 0, cX7_isWithin_met l, vX7_isWithin.1, vX7_isWithin.2.1, vX7_isWithin.2.2.1, by decide, by decide, by decide +kernel, vX7_isWithin.2.2.2, Or.inr ⟨RX7, fun U h => h.1⟩⟩, List.forall_mem_cons.mpr ⟨Or.inl ⟨yX4_hasNumber, cX4_hasNumber, 1, (some .boolean), 0, cX4_hasNumber_met l, vX4_hasNumber.1, vX4_hasNumber.2.1, vX4_hasNumber.2.2.1, by decide, by decide, by decide +kernel, vX4_hasNumber.2.2.2, Or.inl lw_w451⟩, fun _ h => absurd h List.not_mem_nil⟩⟩)
def mX4_under : ab_M := ([], [(62, 2, 0, ab_sp mX7_sumOf cX7_sumOf), (66, 2, 0, ab_mx)], [], 2, 4)
theorem mX4_under_r : ab_rk mX4_under = 2 := rfl
theorem mX4_under_n : ab_nL mX4_under = 4 := rfl
theorem mX4_under_c62 : ab_ml mX4_under 62 = some (2, 0, ab_sp mX7_sumOf cX7_sumOf) := rfl
theorem mX4_under_c66 : ab_ml mX4_under 66 = some (2, 0, ab_mx) := rfl
theorem mX4_under_mo : ab_mo mX4_under := List.forall_mem_cons.mpr ⟨ab_sp_m mX7_sumOf_mo, List.forall_mem_cons.mpr ⟨ab_mx_m, fun _ h => absurd h List.not_mem_nil⟩⟩
theorem vX4_under : Cond.code yX4_under cX4_under 4 (some .long) ∈ lw_g ∧ Cond.initialized yX4_under.cls ∈ lw_g ∧ (yX4_under.cls ≠ "java/lang/invoke/MethodHandle" ∧ yX4_under.cls ≠ "java/lang/invoke/VarHandle") ∧ Cond.static yX4_under ∈ lw_g := ⟨lw_w482, lw_w65, by decide +kernel, lw_w481⟩
theorem cX4_under_met (l : Launch) : ab_Met l yX4_under cX4_under 4 (some .long) 1 (ab_sp mX4_under cX4_under) := ab_met (M := mX4_under) (d := 1) (by decide +kernel) (fun _ h => absurd h List.not_mem_nil) (fun _ h => absurd h List.not_mem_nil) (List.forall_mem_cons.mpr ⟨Or.inl ⟨yX7_sumOf, cX7_sumOf, 4, (some .int), 0, cX7_sumOf_met l, vX7_sumOf.1, vX7_sumOf.2.1, vX7_sumOf.2.2.1, by decide, by decide, by decide +kernel, vX7_sumOf.2.2.2, Or.inr ⟨RX7, fun U h => h.2.1⟩⟩, List.forall_mem_cons.mpr ⟨Or.inr ⟨rfl, by decide, by decide, lw_mi, (Or.inl ⟨rfl, lw_w461, lw_mx.1, lw_mx.2⟩)⟩, fun _ h => absurd h List.not_mem_nil⟩⟩)
def mX5_hold : ab_M := ([(9, 5, 1), (15, 5, 2)], [(31, 2, 6, ab_sp mX5_holds cX5_holds)], [], 3, 3)
theorem mX5_hold_r : ab_rk mX5_hold = 3 := rfl
theorem mX5_hold_n : ab_nL mX5_hold = 3 := rfl
theorem mX5_hold_f9 : ab_fl mX5_hold 9 = some (5, 1) := rfl
theorem mX5_hold_f15 : ab_fl mX5_hold 15 = some (5, 2) := rfl
theorem mX5_hold_c31 : ab_ml mX5_hold 31 = some (2, 6, ab_sp mX5_holds cX5_holds) := rfl
theorem mX5_hold_mo : ab_mo mX5_hold := List.forall_mem_cons.mpr ⟨ab_sp_m mX5_holds_mo, fun _ h => absurd h List.not_mem_nil⟩
theorem vX5_hold : Cond.code yX5_hold cX5_hold 3 none ∈ lw_g ∧ Cond.initialized yX5_hold.cls ∈ lw_g ∧ (yX5_hold.cls ≠ "java/lang/invoke/MethodHandle" ∧ yX5_hold.cls ≠ "java/lang/invoke/VarHandle") ∧ (Cond.instanceMethod yX5_hold ∈ lw_g ∧ Cond.selects yX5_hold.cls yX5_hold yX5_hold ∈ lw_g) := ⟨lw_w440, lw_w61, by decide +kernel, ⟨lw_w438, lw_w439⟩⟩
theorem cX5_hold_met (l : Launch) : ab_Met l yX5_hold cX5_hold 3 none 1 (ab_sp mX5_hold cX5_hold) := ab_met (M := mX5_hold) (d := 1) (by decide +kernel) (List.forall_mem_cons.mpr ⟨⟨by decide, by decide, lw_w198⟩, List.forall_mem_cons.mpr ⟨⟨by decide, by decide, lw_w203⟩, fun _ h => absurd h List.not_mem_nil⟩⟩) (fun _ h => absurd h List.not_mem_nil) (List.forall_mem_cons.mpr ⟨Or.inl ⟨yX5_holds, cX5_holds, 2, (some .boolean), 0, cX5_holds_met l, vX5_holds.1, vX5_holds.2.1, vX5_holds.2.2.1, by decide, by decide, by decide +kernel, rfl, by decide, vX5_holds.2.2.2.1, vX5_holds.2.2.2.2, lw_w441⟩, fun _ h => absurd h List.not_mem_nil⟩)
def mX5_isReady : ab_M := ([(27, 5, 0)], [(35, 1, 6, ab_sp mX5_isKnown cX5_isKnown)], [], 1, 1)
theorem mX5_isReady_r : ab_rk mX5_isReady = 1 := rfl
theorem mX5_isReady_n : ab_nL mX5_isReady = 1 := rfl
theorem mX5_isReady_f27 : ab_fl mX5_isReady 27 = some (5, 0) := rfl
theorem mX5_isReady_c35 : ab_ml mX5_isReady 35 = some (1, 6, ab_sp mX5_isKnown cX5_isKnown) := rfl
theorem mX5_isReady_mo : ab_mo mX5_isReady := List.forall_mem_cons.mpr ⟨ab_sp_m mX5_isKnown_mo, fun _ h => absurd h List.not_mem_nil⟩
theorem vX5_isReady : Cond.code yX5_isReady cX5_isReady 1 (some .boolean) ∈ lw_g ∧ Cond.initialized yX5_isReady.cls ∈ lw_g ∧ (yX5_isReady.cls ≠ "java/lang/invoke/MethodHandle" ∧ yX5_isReady.cls ≠ "java/lang/invoke/VarHandle") ∧ (Cond.instanceMethod yX5_isReady ∈ lw_g ∧ Cond.selects yX5_isReady.cls yX5_isReady yX5_isReady ∈ lw_g) := ⟨lw_w307, lw_w61, by decide +kernel, ⟨lw_w305, lw_w306⟩⟩
theorem cX5_isReady_met (l : Launch) : ab_Met l yX5_isReady cX5_isReady 1 (some .boolean) 1 (ab_sp mX5_isReady cX5_isReady) := ab_met (M := mX5_isReady) (d := 1) (by decide +kernel) (List.forall_mem_cons.mpr ⟨⟨by decide, by decide, lw_w193⟩, fun _ h => absurd h List.not_mem_nil⟩) (fun _ h => absurd h List.not_mem_nil) (List.forall_mem_cons.mpr ⟨Or.inl ⟨yX5_isKnown, cX5_isKnown, 2, (some .boolean), 0, cX5_isKnown_met l, vX5_isKnown.1, vX5_isKnown.2.1, vX5_isKnown.2.2.1, by decide, by decide, by decide +kernel, rfl, by decide, vX5_isKnown.2.2.2.1, vX5_isKnown.2.2.2.2, lw_w308⟩, fun _ h => absurd h List.not_mem_nil⟩)
def mX6_start : ab_M := ([(12, 6, 0), (18, 6, 1), (21, 3, 1), (45, 3, 2), (48, 6, 2), (51, 6, 3)], [(42, 1, 4, ab_sp mX3_rewind cX3_rewind)], [], 3, 2)
theorem mX6_start_r : ab_rk mX6_start = 3 := rfl
theorem mX6_start_n : ab_nL mX6_start = 2 := rfl
theorem mX6_start_f12 : ab_fl mX6_start 12 = some (6, 0) := rfl
theorem mX6_start_f18 : ab_fl mX6_start 18 = some (6, 1) := rfl
theorem mX6_start_f21 : ab_fl mX6_start 21 = some (3, 1) := rfl
theorem mX6_start_f45 : ab_fl mX6_start 45 = some (3, 2) := rfl
theorem mX6_start_f48 : ab_fl mX6_start 48 = some (6, 2) := rfl
theorem mX6_start_f51 : ab_fl mX6_start 51 = some (6, 3) := rfl
theorem mX6_start_c42 : ab_ml mX6_start 42 = some (1, 4, ab_sp mX3_rewind cX3_rewind) := rfl
theorem mX6_start_mo : ab_mo mX6_start := List.forall_mem_cons.mpr ⟨ab_sp_m mX3_rewind_mo, fun _ h => absurd h List.not_mem_nil⟩
theorem vX6_start : Cond.code yX6_start cX6_start 2 none ∈ lw_g ∧ Cond.initialized yX6_start.cls ∈ lw_g ∧ (yX6_start.cls ≠ "java/lang/invoke/MethodHandle" ∧ yX6_start.cls ≠ "java/lang/invoke/VarHandle") ∧ (Cond.instanceMethod yX6_start ∈ lw_g ∧ Cond.selects yX6_start.cls yX6_start yX6_start ∈ lw_g) := ⟨lw_w335, lw_w57, by decide +kernel, ⟨lw_w334, lw_w3⟩⟩
theorem cX6_start_met (l : Launch) : ab_Met l yX6_start cX6_start 2 none 1 (ab_sp mX6_start cX6_start) := ab_met (M := mX6_start) (d := 1) (by decide +kernel) (List.forall_mem_cons.mpr ⟨⟨by decide, by decide, lw_w136⟩, List.forall_mem_cons.mpr ⟨⟨by decide, by decide, lw_w138⟩, List.forall_mem_cons.mpr ⟨⟨by decide, by decide, lw_w108⟩, List.forall_mem_cons.mpr ⟨⟨by decide, by decide, lw_w111⟩, List.forall_mem_cons.mpr ⟨⟨by decide, by decide, lw_w140⟩, List.forall_mem_cons.mpr ⟨⟨by decide, by decide, lw_w141⟩, fun _ h => absurd h List.not_mem_nil⟩⟩⟩⟩⟩⟩) (fun _ h => absurd h List.not_mem_nil) (List.forall_mem_cons.mpr ⟨Or.inl ⟨yX3_rewind, cX3_rewind, 1, none, 0, cX3_rewind_met l, vX3_rewind.1, vX3_rewind.2.1, vX3_rewind.2.2.1, by decide, by decide, by decide +kernel, rfl, by decide, vX3_rewind.2.2.2.1, vX3_rewind.2.2.2.2, lw_w336⟩, fun _ h => absurd h List.not_mem_nil⟩)
def mX7_areEnds : ab_M := ([], [(55, 3, 0, ab_sp mX7_isWithin cX7_isWithin)], [], 1, 2)
theorem mX7_areEnds_r : ab_rk mX7_areEnds = 1 := rfl
theorem mX7_areEnds_n : ab_nL mX7_areEnds = 2 := rfl
theorem mX7_areEnds_c55 : ab_ml mX7_areEnds 55 = some (3, 0, ab_sp mX7_isWithin cX7_isWithin) := rfl
theorem mX7_areEnds_mo : ab_mo mX7_areEnds := List.forall_mem_cons.mpr ⟨ab_sp_m mX7_isWithin_mo, fun _ h => absurd h List.not_mem_nil⟩
theorem vX7_areEnds : Cond.code yX7_areEnds cX7_areEnds 2 (some .boolean) ∈ lw_g ∧ Cond.initialized yX7_areEnds.cls ∈ lw_g ∧ (yX7_areEnds.cls ≠ "java/lang/invoke/MethodHandle" ∧ yX7_areEnds.cls ≠ "java/lang/invoke/VarHandle") ∧ Cond.static yX7_areEnds ∈ lw_g := ⟨lw_w262, lw_w55, by decide +kernel, lw_w261⟩
theorem cX7_areEnds_met (l : Launch) : ab_Met l yX7_areEnds cX7_areEnds 2 (some .boolean) 1 (ab_sp mX7_areEnds cX7_areEnds) := ab_met (M := mX7_areEnds) (d := 1) (by decide +kernel) (fun _ h => absurd h List.not_mem_nil) (fun _ h => absurd h List.not_mem_nil) (List.forall_mem_cons.mpr ⟨Or.inl ⟨yX7_isWithin, cX7_isWithin, 3, (some .boolean), 0, cX7_isWithin_met l, vX7_isWithin.1, vX7_isWithin.2.1, vX7_isWithin.2.2.1, by decide, by decide, by decide +kernel, vX7_isWithin.2.2.2, Or.inl lw_w257⟩, fun _ h => absurd h List.not_mem_nil⟩)
def mX7_areTwoYears : ab_M := ([(63, 5, 0)], [(87, 1, 6, ab_sp mX5_isKnown cX5_isKnown)], [], 1, 2)
theorem mX7_areTwoYears_r : ab_rk mX7_areTwoYears = 1 := rfl
theorem mX7_areTwoYears_n : ab_nL mX7_areTwoYears = 2 := rfl
theorem mX7_areTwoYears_f63 : ab_fl mX7_areTwoYears 63 = some (5, 0) := rfl
theorem mX7_areTwoYears_c87 : ab_ml mX7_areTwoYears 87 = some (1, 6, ab_sp mX5_isKnown cX5_isKnown) := rfl
theorem mX7_areTwoYears_mo : ab_mo mX7_areTwoYears := List.forall_mem_cons.mpr ⟨ab_sp_m mX5_isKnown_mo, fun _ h => absurd h List.not_mem_nil⟩
theorem vX7_areTwoYears : Cond.code yX7_areTwoYears cX7_areTwoYears 2 (some .boolean) ∈ lw_g ∧ Cond.initialized yX7_areTwoYears.cls ∈ lw_g ∧ (yX7_areTwoYears.cls ≠ "java/lang/invoke/MethodHandle" ∧ yX7_areTwoYears.cls ≠ "java/lang/invoke/VarHandle") ∧ Cond.static yX7_areTwoYears ∈ lw_g := ⟨lw_w617, lw_w55, by decide +kernel, lw_w616⟩
theorem cX7_areTwoYears_met (l : Launch) : ab_Met l yX7_areTwoYears cX7_areTwoYears 2 (some .boolean) 1 (ab_sp mX7_areTwoYears cX7_areTwoYears) := ab_met (M := mX7_areTwoYears) (d := 1) (by decide +kernel) (List.forall_mem_cons.mpr ⟨⟨by decide, by decide, lw_w195⟩, fun _ h => absurd h List.not_mem_nil⟩) (fun _ h => absurd h List.not_mem_nil) (List.forall_mem_cons.mpr ⟨Or.inl ⟨yX5_isKnown, cX5_isKnown, 2, (some .boolean), 0, cX5_isKnown_met l, vX5_isKnown.1, vX5_isKnown.2.1, vX5_isKnown.2.2.1, by decide, by decide, by decide +kernel, rfl, by decide, vX5_isKnown.2.2.2.1, vX5_isKnown.2.2.2.2, lw_w287⟩, fun _ h => absurd h List.not_mem_nil⟩)
def mX7_band : ab_M := ([(18, 7, 1), (250, 1, 0)], [(55, 3, 0, ab_sp mX7_isWithin cX7_isWithin), (252, 3, 2, ab_sp mX1_add cX1_add)], [], 0, 3)
theorem mX7_band_r : ab_rk mX7_band = 0 := rfl
theorem mX7_band_n : ab_nL mX7_band = 3 := rfl
theorem mX7_band_f18 : ab_fl mX7_band 18 = some (7, 1) := rfl
theorem mX7_band_f250 : ab_fl mX7_band 250 = some (1, 0) := rfl
theorem mX7_band_c55 : ab_ml mX7_band 55 = some (3, 0, ab_sp mX7_isWithin cX7_isWithin) := rfl
theorem mX7_band_c252 : ab_ml mX7_band 252 = some (3, 2, ab_sp mX1_add cX1_add) := rfl
theorem mX7_band_mo : ab_mo mX7_band := List.forall_mem_cons.mpr ⟨ab_sp_m mX7_isWithin_mo, List.forall_mem_cons.mpr ⟨ab_sp_m mX1_add_mo, fun _ h => absurd h List.not_mem_nil⟩⟩
theorem vX7_band : Cond.code yX7_band cX7_band 3 (some .int) ∈ lw_g ∧ Cond.initialized yX7_band.cls ∈ lw_g ∧ (yX7_band.cls ≠ "java/lang/invoke/MethodHandle" ∧ yX7_band.cls ≠ "java/lang/invoke/VarHandle") ∧ (Cond.instanceMethod yX7_band ∈ lw_g ∧ Cond.selects yX7_band.cls yX7_band yX7_band ∈ lw_g) := ⟨lw_w628, lw_w55, by decide +kernel, ⟨lw_w626, lw_w627⟩⟩
theorem cX7_band_met (l : Launch) : ab_Met l yX7_band cX7_band 3 (some .int) 1 (ab_sp mX7_band cX7_band) := ab_met (M := mX7_band) (d := 1) (by decide +kernel) (List.forall_mem_cons.mpr ⟨⟨by decide, by decide, lw_w228⟩, List.forall_mem_cons.mpr ⟨⟨by decide, by decide, lw_w84⟩, fun _ h => absurd h List.not_mem_nil⟩⟩) (fun _ h => absurd h List.not_mem_nil) (List.forall_mem_cons.mpr ⟨Or.inl ⟨yX7_isWithin, cX7_isWithin, 3, (some .boolean), 0, cX7_isWithin_met l, vX7_isWithin.1, vX7_isWithin.2.1, vX7_isWithin.2.2.1, by decide, by decide, by decide +kernel, vX7_isWithin.2.2.2, Or.inl lw_w257⟩, List.forall_mem_cons.mpr ⟨Or.inl ⟨yX1_add, cX1_add, 3, none, 0, cX1_add_met l, vX1_add.1, vX1_add.2.1, vX1_add.2.2.1, by decide, by decide, by decide +kernel, rfl, by decide, vX1_add.2.2.2.1, vX1_add.2.2.2.2, lw_w629⟩, fun _ h => absurd h List.not_mem_nil⟩⟩)
def mX7_canTryAll : ab_M := ([(63, 5, 0)], [(195, 1, 6, ab_sp mX5_ways cX5_ways)], [(268, .inr (4096))], 1, 6)
theorem mX7_canTryAll_r : ab_rk mX7_canTryAll = 1 := rfl
theorem mX7_canTryAll_n : ab_nL mX7_canTryAll = 6 := rfl
theorem mX7_canTryAll_f63 : ab_fl mX7_canTryAll 63 = some (5, 0) := rfl
theorem mX7_canTryAll_c195 : ab_ml mX7_canTryAll 195 = some (1, 6, ab_sp mX5_ways cX5_ways) := rfl
theorem mX7_canTryAll_k268 : ab_kl mX7_canTryAll 268 = some (.inr (4096)) := rfl
theorem mX7_canTryAll_mo : ab_mo mX7_canTryAll := List.forall_mem_cons.mpr ⟨ab_sp_m mX5_ways_mo, fun _ h => absurd h List.not_mem_nil⟩
theorem vX7_canTryAll : Cond.code yX7_canTryAll cX7_canTryAll 6 (some .boolean) ∈ lw_g ∧ Cond.initialized yX7_canTryAll.cls ∈ lw_g ∧ (yX7_canTryAll.cls ≠ "java/lang/invoke/MethodHandle" ∧ yX7_canTryAll.cls ≠ "java/lang/invoke/VarHandle") ∧ Cond.static yX7_canTryAll ∈ lw_g := ⟨lw_w532, lw_w55, by decide +kernel, lw_w531⟩
theorem cX7_canTryAll_met (l : Launch) : ab_Met l yX7_canTryAll cX7_canTryAll 6 (some .boolean) 1 (ab_sp mX7_canTryAll cX7_canTryAll) := ab_met (M := mX7_canTryAll) (d := 1) (by decide +kernel) (List.forall_mem_cons.mpr ⟨⟨by decide, by decide, lw_w195⟩, fun _ h => absurd h List.not_mem_nil⟩) (List.forall_mem_cons.mpr ⟨lw_w533, fun _ h => absurd h List.not_mem_nil⟩) (List.forall_mem_cons.mpr ⟨Or.inl ⟨yX5_ways, cX5_ways, 4, (some .long), 0, cX5_ways_met l, vX5_ways.1, vX5_ways.2.1, vX5_ways.2.2.1, by decide, by decide, by decide +kernel, rfl, by decide, vX5_ways.2.2.2.1, vX5_ways.2.2.2.2, lw_w522⟩, fun _ h => absurd h List.not_mem_nil⟩)
def mX7_inLeastTerms : ab_M := ([], [(264, 2, 0, ab_sp mX7_commonDivisor cX7_commonDivisor)], [], 2, 7)
theorem mX7_inLeastTerms_r : ab_rk mX7_inLeastTerms = 2 := rfl
theorem mX7_inLeastTerms_n : ab_nL mX7_inLeastTerms = 7 := rfl
theorem mX7_inLeastTerms_c264 : ab_ml mX7_inLeastTerms 264 = some (2, 0, ab_sp mX7_commonDivisor cX7_commonDivisor) := rfl
theorem mX7_inLeastTerms_mo : ab_mo mX7_inLeastTerms := List.forall_mem_cons.mpr ⟨ab_sp_m mX7_commonDivisor_mo, fun _ h => absurd h List.not_mem_nil⟩
theorem vX7_inLeastTerms : Cond.code yX7_inLeastTerms cX7_inLeastTerms 7 (some .long) ∈ lw_g ∧ Cond.initialized yX7_inLeastTerms.cls ∈ lw_g ∧ (yX7_inLeastTerms.cls ≠ "java/lang/invoke/MethodHandle" ∧ yX7_inLeastTerms.cls ≠ "java/lang/invoke/VarHandle") ∧ Cond.static yX7_inLeastTerms ∈ lw_g := ⟨lw_w384, lw_w55, by decide +kernel, lw_w383⟩
theorem cX7_inLeastTerms_met (l : Launch) : ab_Met l yX7_inLeastTerms cX7_inLeastTerms 7 (some .long) 1 (ab_sp mX7_inLeastTerms cX7_inLeastTerms) := ab_met (M := mX7_inLeastTerms) (d := 1) (by decide +kernel) (fun _ h => absurd h List.not_mem_nil) (fun _ h => absurd h List.not_mem_nil) (List.forall_mem_cons.mpr ⟨Or.inl ⟨yX7_commonDivisor, cX7_commonDivisor, 7, (some .long), 0, cX7_commonDivisor_met l, vX7_commonDivisor.1, vX7_commonDivisor.2.1, vX7_commonDivisor.2.2.1, by decide, by decide, by decide +kernel, vX7_commonDivisor.2.2.2, Or.inl lw_w385⟩, fun _ h => absurd h List.not_mem_nil⟩)
def mX7_isOrder : ab_M := ([], [(55, 3, 0, ab_sp mX7_isWithin cX7_isWithin)], [], 1, 1)
theorem mX7_isOrder_r : ab_rk mX7_isOrder = 1 := rfl
theorem mX7_isOrder_n : ab_nL mX7_isOrder = 1 := rfl
theorem mX7_isOrder_c55 : ab_ml mX7_isOrder 55 = some (3, 0, ab_sp mX7_isWithin cX7_isWithin) := rfl
theorem mX7_isOrder_mo : ab_mo mX7_isOrder := List.forall_mem_cons.mpr ⟨ab_sp_m mX7_isWithin_mo, fun _ h => absurd h List.not_mem_nil⟩
theorem vX7_isOrder : Cond.code yX7_isOrder cX7_isOrder 1 (some .boolean) ∈ lw_g ∧ Cond.initialized yX7_isOrder.cls ∈ lw_g ∧ (yX7_isOrder.cls ≠ "java/lang/invoke/MethodHandle" ∧ yX7_isOrder.cls ≠ "java/lang/invoke/VarHandle") ∧ Cond.static yX7_isOrder ∈ lw_g := ⟨lw_w303, lw_w55, by decide +kernel, lw_w302⟩
theorem cX7_isOrder_met (l : Launch) : ab_Met l yX7_isOrder cX7_isOrder 1 (some .boolean) 1 (ab_sp mX7_isOrder cX7_isOrder) := ab_met (M := mX7_isOrder) (d := 1) (by decide +kernel) (fun _ h => absurd h List.not_mem_nil) (fun _ h => absurd h List.not_mem_nil) (List.forall_mem_cons.mpr ⟨Or.inl ⟨yX7_isWithin, cX7_isWithin, 3, (some .boolean), 0, cX7_isWithin_met l, vX7_isWithin.1, vX7_isWithin.2.1, vX7_isWithin.2.2.1, by decide, by decide, by decide +kernel, vX7_isWithin.2.2.2, Or.inl lw_w257⟩, fun _ h => absurd h List.not_mem_nil⟩)
def mX7_isScale : ab_M := ([], [(55, 3, 0, ab_sp mX7_isWithin cX7_isWithin)], [], 1, 1)
theorem mX7_isScale_r : ab_rk mX7_isScale = 1 := rfl
theorem mX7_isScale_n : ab_nL mX7_isScale = 1 := rfl
theorem mX7_isScale_c55 : ab_ml mX7_isScale 55 = some (3, 0, ab_sp mX7_isWithin cX7_isWithin) := rfl
theorem mX7_isScale_mo : ab_mo mX7_isScale := List.forall_mem_cons.mpr ⟨ab_sp_m mX7_isWithin_mo, fun _ h => absurd h List.not_mem_nil⟩
theorem vX7_isScale : Cond.code yX7_isScale cX7_isScale 1 (some .boolean) ∈ lw_g ∧ Cond.initialized yX7_isScale.cls ∈ lw_g ∧ (yX7_isScale.cls ≠ "java/lang/invoke/MethodHandle" ∧ yX7_isScale.cls ≠ "java/lang/invoke/VarHandle") ∧ Cond.static yX7_isScale ∈ lw_g := ⟨lw_w300, lw_w55, by decide +kernel, lw_w299⟩
theorem cX7_isScale_met (l : Launch) : ab_Met l yX7_isScale cX7_isScale 1 (some .boolean) 1 (ab_sp mX7_isScale cX7_isScale) := ab_met (M := mX7_isScale) (d := 1) (by decide +kernel) (fun _ h => absurd h List.not_mem_nil) (fun _ h => absurd h List.not_mem_nil) (List.forall_mem_cons.mpr ⟨Or.inl ⟨yX7_isWithin, cX7_isWithin, 3, (some .boolean), 0, cX7_isWithin_met l, vX7_isWithin.1, vX7_isWithin.2.1, vX7_isWithin.2.2.1, by decide, by decide, by decide +kernel, vX7_isWithin.2.2.2, Or.inl lw_w257⟩, fun _ h => absurd h List.not_mem_nil⟩)
def mX7_lackBelow : ab_M := ([(63, 5, 0), (75, 5, 1)], [(277, 2, 0, ab_mx)], [], 0, 4)
theorem mX7_lackBelow_r : ab_rk mX7_lackBelow = 0 := rfl
theorem mX7_lackBelow_n : ab_nL mX7_lackBelow = 4 := rfl
theorem mX7_lackBelow_f63 : ab_fl mX7_lackBelow 63 = some (5, 0) := rfl
theorem mX7_lackBelow_f75 : ab_fl mX7_lackBelow 75 = some (5, 1) := rfl
theorem mX7_lackBelow_c277 : ab_ml mX7_lackBelow 277 = some (2, 0, ab_mx) := rfl
theorem mX7_lackBelow_mo : ab_mo mX7_lackBelow := List.forall_mem_cons.mpr ⟨ab_mx_m, fun _ h => absurd h List.not_mem_nil⟩
theorem vX7_lackBelow : Cond.code yX7_lackBelow cX7_lackBelow 4 (some .int) ∈ lw_g ∧ Cond.initialized yX7_lackBelow.cls ∈ lw_g ∧ (yX7_lackBelow.cls ≠ "java/lang/invoke/MethodHandle" ∧ yX7_lackBelow.cls ≠ "java/lang/invoke/VarHandle") ∧ Cond.static yX7_lackBelow ∈ lw_g := ⟨lw_w579, lw_w55, by decide +kernel, lw_w578⟩
theorem cX7_lackBelow_met (l : Launch) : ab_Met l yX7_lackBelow cX7_lackBelow 4 (some .int) 1 (ab_sp mX7_lackBelow cX7_lackBelow) := ab_met (M := mX7_lackBelow) (d := 1) (by decide +kernel) (List.forall_mem_cons.mpr ⟨⟨by decide, by decide, lw_w195⟩, List.forall_mem_cons.mpr ⟨⟨by decide, by decide, lw_w199⟩, fun _ h => absurd h List.not_mem_nil⟩⟩) (fun _ h => absurd h List.not_mem_nil) (List.forall_mem_cons.mpr ⟨Or.inr ⟨rfl, by decide, by decide, lw_mi, (Or.inl ⟨rfl, lw_w580, lw_mx.1, lw_mx.2⟩)⟩, fun _ h => absurd h List.not_mem_nil⟩)
def mX7_townAt : ab_M := ([(11, 7, 0)], [(55, 3, 0, ab_sp mX7_isWithin cX7_isWithin)], [], 4, 2)
theorem mX7_townAt_r : ab_rk mX7_townAt = 4 := rfl
theorem mX7_townAt_n : ab_nL mX7_townAt = 2 := rfl
theorem mX7_townAt_f11 : ab_fl mX7_townAt 11 = some (7, 0) := rfl
theorem mX7_townAt_c55 : ab_ml mX7_townAt 55 = some (3, 0, ab_sp mX7_isWithin cX7_isWithin) := rfl
theorem mX7_townAt_mo : ab_mo mX7_townAt := List.forall_mem_cons.mpr ⟨ab_sp_m mX7_isWithin_mo, fun _ h => absurd h List.not_mem_nil⟩
theorem vX7_townAt : Cond.code yX7_townAt cX7_townAt 2 (some (.object "MoreEven$Town")) ∈ lw_g ∧ Cond.initialized yX7_townAt.cls ∈ lw_g ∧ (yX7_townAt.cls ≠ "java/lang/invoke/MethodHandle" ∧ yX7_townAt.cls ≠ "java/lang/invoke/VarHandle") ∧ (Cond.instanceMethod yX7_townAt ∈ lw_g ∧ Cond.selects yX7_townAt.cls yX7_townAt yX7_townAt ∈ lw_g) := ⟨lw_w256, lw_w55, by decide +kernel, ⟨lw_w255, lw_w0⟩⟩
theorem cX7_townAt_met (l : Launch) : ab_Met l yX7_townAt cX7_townAt 2 (some (.object "MoreEven$Town")) 1 (ab_sp mX7_townAt cX7_townAt) := ab_met (M := mX7_townAt) (d := 1) (by decide +kernel) (List.forall_mem_cons.mpr ⟨⟨by decide, by decide, lw_w227⟩, fun _ h => absurd h List.not_mem_nil⟩) (fun _ h => absurd h List.not_mem_nil) (List.forall_mem_cons.mpr ⟨Or.inl ⟨yX7_isWithin, cX7_isWithin, 3, (some .boolean), 0, cX7_isWithin_met l, vX7_isWithin.1, vX7_isWithin.2.1, vX7_isWithin.2.2.1, by decide, by decide, by decide +kernel, vX7_isWithin.2.2.2, Or.inl lw_w257⟩, fun _ h => absurd h List.not_mem_nil⟩)
def mX8_band : ab_M := ([(65, 8, 23), (68, 8, 24), (257, 8, 22)], [(77, 3, 0, ab_sp mX8_in cX8_in)], [(85, .inr (99)), (255, .inr (10))], 0, 3)
theorem mX8_band_r : ab_rk mX8_band = 0 := rfl
theorem mX8_band_n : ab_nL mX8_band = 3 := rfl
theorem mX8_band_f65 : ab_fl mX8_band 65 = some (8, 23) := rfl
theorem mX8_band_f68 : ab_fl mX8_band 68 = some (8, 24) := rfl
theorem mX8_band_f257 : ab_fl mX8_band 257 = some (8, 22) := rfl
theorem mX8_band_c77 : ab_ml mX8_band 77 = some (3, 0, ab_sp mX8_in cX8_in) := rfl
theorem mX8_band_k85 : ab_kl mX8_band 85 = some (.inr (99)) := rfl
theorem mX8_band_k255 : ab_kl mX8_band 255 = some (.inr (10)) := rfl
theorem mX8_band_mo : ab_mo mX8_band := List.forall_mem_cons.mpr ⟨ab_sp_m mX8_in_mo, fun _ h => absurd h List.not_mem_nil⟩
theorem vX8_band : Cond.code yX8_band cX8_band 3 (some .int) ∈ lw_g ∧ Cond.initialized yX8_band.cls ∈ lw_g ∧ (yX8_band.cls ≠ "java/lang/invoke/MethodHandle" ∧ yX8_band.cls ≠ "java/lang/invoke/VarHandle") ∧ (Cond.instanceMethod yX8_band ∈ lw_g ∧ Cond.selects yX8_band.cls yX8_band yX8_band ∈ lw_g) := ⟨lw_w1033, lw_w62, by decide +kernel, ⟨lw_w1031, lw_w1032⟩⟩
theorem cX8_band_met (l : Launch) : ab_Met l yX8_band cX8_band 3 (some .int) 1 (ab_sp mX8_band cX8_band) := ab_met (M := mX8_band) (d := 1) (by decide +kernel) (List.forall_mem_cons.mpr ⟨⟨by decide, by decide, lw_w703⟩, List.forall_mem_cons.mpr ⟨⟨by decide, by decide, lw_w704⟩, List.forall_mem_cons.mpr ⟨⟨by decide, by decide, lw_w702⟩, fun _ h => absurd h List.not_mem_nil⟩⟩⟩) (List.forall_mem_cons.mpr ⟨lw_w771, List.forall_mem_cons.mpr ⟨lw_w1034, fun _ h => absurd h List.not_mem_nil⟩⟩) (List.forall_mem_cons.mpr ⟨Or.inl ⟨yX8_in, cX8_in, 6, (some .boolean), 0, cX8_in_met l, vX8_in.1, vX8_in.2.1, vX8_in.2.2.1, by decide, by decide, by decide +kernel, vX8_in.2.2.2, Or.inl lw_w764⟩, fun _ h => absurd h List.not_mem_nil⟩)
def mX8_edgeOf : ab_M := ([(7, 8, 0)], [(191, 3, 9, ab_sp mX8_lackOf cX8_lackOf), (205, 2, 9, ab_sp mX8_takeRow cX8_takeRow)], [], 0, 8)
theorem mX8_edgeOf_r : ab_rk mX8_edgeOf = 0 := rfl
theorem mX8_edgeOf_n : ab_nL mX8_edgeOf = 8 := rfl
theorem mX8_edgeOf_f7 : ab_fl mX8_edgeOf 7 = some (8, 0) := rfl
theorem mX8_edgeOf_c191 : ab_ml mX8_edgeOf 191 = some (3, 9, ab_sp mX8_lackOf cX8_lackOf) := rfl
theorem mX8_edgeOf_c205 : ab_ml mX8_edgeOf 205 = some (2, 9, ab_sp mX8_takeRow cX8_takeRow) := rfl
theorem mX8_edgeOf_mo : ab_mo mX8_edgeOf := List.forall_mem_cons.mpr ⟨ab_sp_m mX8_lackOf_mo, List.forall_mem_cons.mpr ⟨ab_sp_m mX8_takeRow_mo, fun _ h => absurd h List.not_mem_nil⟩⟩
theorem vX8_edgeOf : Cond.code yX8_edgeOf cX8_edgeOf 8 (some .int) ∈ lw_g ∧ Cond.initialized yX8_edgeOf.cls ∈ lw_g ∧ (yX8_edgeOf.cls ≠ "java/lang/invoke/MethodHandle" ∧ yX8_edgeOf.cls ≠ "java/lang/invoke/VarHandle") ∧ (Cond.instanceMethod yX8_edgeOf ∈ lw_g ∧ Cond.selects yX8_edgeOf.cls yX8_edgeOf yX8_edgeOf ∈ lw_g) := ⟨lw_w1000, lw_w62, by decide +kernel, ⟨lw_w999, lw_w48⟩⟩
theorem cX8_edgeOf_met (l : Launch) : ab_Met l yX8_edgeOf cX8_edgeOf 8 (some .int) 1 (ab_sp mX8_edgeOf cX8_edgeOf) := ab_met (M := mX8_edgeOf) (d := 1) (by decide +kernel) (List.forall_mem_cons.mpr ⟨⟨by decide, by decide, lw_w680⟩, fun _ h => absurd h List.not_mem_nil⟩) (fun _ h => absurd h List.not_mem_nil) (List.forall_mem_cons.mpr ⟨Or.inl ⟨yX8_lackOf, cX8_lackOf, 5, (some .int), 0, cX8_lackOf_met l, vX8_lackOf.1, vX8_lackOf.2.1, vX8_lackOf.2.2.1, by decide, by decide, by decide +kernel, rfl, by decide, vX8_lackOf.2.2.2.1, vX8_lackOf.2.2.2.2, lw_w920⟩, List.forall_mem_cons.mpr ⟨Or.inl ⟨yX8_takeRow, cX8_takeRow, 3, none, 0, cX8_takeRow_met l, vX8_takeRow.1, vX8_takeRow.2.1, vX8_takeRow.2.2.1, by decide, by decide, by decide +kernel, rfl, by decide, vX8_takeRow.2.2.2.1, vX8_takeRow.2.2.2.2, lw_w892⟩, fun _ h => absurd h List.not_mem_nil⟩⟩)
def mX8_isLook : ab_M := ([], [(77, 3, 0, ab_sp mX8_in cX8_in)], [(87, .inr (2))], 1, 2)
theorem mX8_isLook_r : ab_rk mX8_isLook = 1 := rfl
theorem mX8_isLook_n : ab_nL mX8_isLook = 2 := rfl
theorem mX8_isLook_c77 : ab_ml mX8_isLook 77 = some (3, 0, ab_sp mX8_in cX8_in) := rfl
theorem mX8_isLook_k87 : ab_kl mX8_isLook 87 = some (.inr (2)) := rfl
theorem mX8_isLook_mo : ab_mo mX8_isLook := List.forall_mem_cons.mpr ⟨ab_sp_m mX8_in_mo, fun _ h => absurd h List.not_mem_nil⟩
theorem vX8_isLook : Cond.code yX8_isLook cX8_isLook 2 (some .boolean) ∈ lw_g ∧ Cond.initialized yX8_isLook.cls ∈ lw_g ∧ (yX8_isLook.cls ≠ "java/lang/invoke/MethodHandle" ∧ yX8_isLook.cls ≠ "java/lang/invoke/VarHandle") ∧ Cond.static yX8_isLook ∈ lw_g := ⟨lw_w807, lw_w62, by decide +kernel, lw_w806⟩
theorem cX8_isLook_met (l : Launch) : ab_Met l yX8_isLook cX8_isLook 2 (some .boolean) 1 (ab_sp mX8_isLook cX8_isLook) := ab_met (M := mX8_isLook) (d := 1) (by decide +kernel) (fun _ h => absurd h List.not_mem_nil) (List.forall_mem_cons.mpr ⟨lw_w767, fun _ h => absurd h List.not_mem_nil⟩) (List.forall_mem_cons.mpr ⟨Or.inl ⟨yX8_in, cX8_in, 6, (some .boolean), 0, cX8_in_met l, vX8_in.1, vX8_in.2.1, vX8_in.2.2.1, by decide, by decide, by decide +kernel, vX8_in.2.2.2, Or.inl lw_w764⟩, fun _ h => absurd h List.not_mem_nil⟩)
def mX8_isMeasure : ab_M := ([], [(77, 3, 0, ab_sp mX8_in cX8_in)], [(85, .inr (99)), (198, .inr (5)), (200, .inr (8))], 1, 2)
theorem mX8_isMeasure_r : ab_rk mX8_isMeasure = 1 := rfl
theorem mX8_isMeasure_n : ab_nL mX8_isMeasure = 2 := rfl
theorem mX8_isMeasure_c77 : ab_ml mX8_isMeasure 77 = some (3, 0, ab_sp mX8_in cX8_in) := rfl
theorem mX8_isMeasure_k85 : ab_kl mX8_isMeasure 85 = some (.inr (99)) := rfl
theorem mX8_isMeasure_k198 : ab_kl mX8_isMeasure 198 = some (.inr (5)) := rfl
theorem mX8_isMeasure_k200 : ab_kl mX8_isMeasure 200 = some (.inr (8)) := rfl
theorem mX8_isMeasure_mo : ab_mo mX8_isMeasure := List.forall_mem_cons.mpr ⟨ab_sp_m mX8_in_mo, fun _ h => absurd h List.not_mem_nil⟩
theorem vX8_isMeasure : Cond.code yX8_isMeasure cX8_isMeasure 2 (some .boolean) ∈ lw_g ∧ Cond.initialized yX8_isMeasure.cls ∈ lw_g ∧ (yX8_isMeasure.cls ≠ "java/lang/invoke/MethodHandle" ∧ yX8_isMeasure.cls ≠ "java/lang/invoke/VarHandle") ∧ Cond.static yX8_isMeasure ∈ lw_g := ⟨lw_w889, lw_w62, by decide +kernel, lw_w888⟩
theorem cX8_isMeasure_met (l : Launch) : ab_Met l yX8_isMeasure cX8_isMeasure 2 (some .boolean) 1 (ab_sp mX8_isMeasure cX8_isMeasure) := ab_met (M := mX8_isMeasure) (d := 1) (by decide +kernel) (fun _ h => absurd h List.not_mem_nil) (List.forall_mem_cons.mpr ⟨lw_w771, List.forall_mem_cons.mpr ⟨lw_w890, List.forall_mem_cons.mpr ⟨lw_w891, fun _ h => absurd h List.not_mem_nil⟩⟩⟩) (List.forall_mem_cons.mpr ⟨Or.inl ⟨yX8_in, cX8_in, 6, (some .boolean), 0, cX8_in_met l, vX8_in.1, vX8_in.2.1, vX8_in.2.2.1, by decide, by decide, by decide +kernel, vX8_in.2.2.2, Or.inl lw_w764⟩, fun _ h => absurd h List.not_mem_nil⟩)
def mX8_isSpan : ab_M := ([], [(77, 3, 0, ab_sp mX8_in cX8_in)], [(85, .inr (99))], 1, 2)
theorem mX8_isSpan_r : ab_rk mX8_isSpan = 1 := rfl
theorem mX8_isSpan_n : ab_nL mX8_isSpan = 2 := rfl
theorem mX8_isSpan_c77 : ab_ml mX8_isSpan 77 = some (3, 0, ab_sp mX8_in cX8_in) := rfl
theorem mX8_isSpan_k85 : ab_kl mX8_isSpan 85 = some (.inr (99)) := rfl
theorem mX8_isSpan_mo : ab_mo mX8_isSpan := List.forall_mem_cons.mpr ⟨ab_sp_m mX8_in_mo, fun _ h => absurd h List.not_mem_nil⟩
theorem vX8_isSpan : Cond.code yX8_isSpan cX8_isSpan 2 (some .boolean) ∈ lw_g ∧ Cond.initialized yX8_isSpan.cls ∈ lw_g ∧ (yX8_isSpan.cls ≠ "java/lang/invoke/MethodHandle" ∧ yX8_isSpan.cls ≠ "java/lang/invoke/VarHandle") ∧ Cond.static yX8_isSpan ∈ lw_g := ⟨lw_w770, lw_w62, by decide +kernel, lw_w769⟩
theorem cX8_isSpan_met (l : Launch) : ab_Met l yX8_isSpan cX8_isSpan 2 (some .boolean) 1 (ab_sp mX8_isSpan cX8_isSpan) := ab_met (M := mX8_isSpan) (d := 1) (by decide +kernel) (fun _ h => absurd h List.not_mem_nil) (List.forall_mem_cons.mpr ⟨lw_w771, fun _ h => absurd h List.not_mem_nil⟩) (List.forall_mem_cons.mpr ⟨Or.inl ⟨yX8_in, cX8_in, 6, (some .boolean), 0, cX8_in_met l, vX8_in.1, vX8_in.2.1, vX8_in.2.2.1, by decide, by decide, by decide +kernel, vX8_in.2.2.2, Or.inl lw_w764⟩, fun _ h => absurd h List.not_mem_nil⟩)
def mX8_isThere : ab_M := ([(7, 8, 0)], [(98, 2, 9, ab_sp mX8_isKnown cX8_isKnown)], [], 1, 2)
theorem mX8_isThere_r : ab_rk mX8_isThere = 1 := rfl
theorem mX8_isThere_n : ab_nL mX8_isThere = 2 := rfl
theorem mX8_isThere_f7 : ab_fl mX8_isThere 7 = some (8, 0) := rfl
theorem mX8_isThere_c98 : ab_ml mX8_isThere 98 = some (2, 9, ab_sp mX8_isKnown cX8_isKnown) := rfl
theorem mX8_isThere_mo : ab_mo mX8_isThere := List.forall_mem_cons.mpr ⟨ab_sp_m mX8_isKnown_mo, fun _ h => absurd h List.not_mem_nil⟩
theorem vX8_isThere : Cond.code yX8_isThere cX8_isThere 2 (some .boolean) ∈ lw_g ∧ Cond.initialized yX8_isThere.cls ∈ lw_g ∧ (yX8_isThere.cls ≠ "java/lang/invoke/MethodHandle" ∧ yX8_isThere.cls ≠ "java/lang/invoke/VarHandle") ∧ (Cond.instanceMethod yX8_isThere ∈ lw_g ∧ Cond.selects yX8_isThere.cls yX8_isThere yX8_isThere ∈ lw_g) := ⟨lw_w811, lw_w62, by decide +kernel, ⟨lw_w810, lw_w20⟩⟩
theorem cX8_isThere_met (l : Launch) : ab_Met l yX8_isThere cX8_isThere 2 (some .boolean) 1 (ab_sp mX8_isThere cX8_isThere) := ab_met (M := mX8_isThere) (d := 1) (by decide +kernel) (List.forall_mem_cons.mpr ⟨⟨by decide, by decide, lw_w680⟩, fun _ h => absurd h List.not_mem_nil⟩) (fun _ h => absurd h List.not_mem_nil) (List.forall_mem_cons.mpr ⟨Or.inl ⟨yX8_isKnown, cX8_isKnown, 4, (some .boolean), 0, cX8_isKnown_met l, vX8_isKnown.1, vX8_isKnown.2.1, vX8_isKnown.2.2.1, by decide, by decide, by decide +kernel, rfl, by decide, vX8_isKnown.2.2.2.1, vX8_isKnown.2.2.2.2, lw_w793⟩, fun _ h => absurd h List.not_mem_nil⟩)
def mX8_isTown : ab_M := ([], [(77, 3, 0, ab_sp mX8_in cX8_in)], [(75, .inr (3))], 1, 1)
theorem mX8_isTown_r : ab_rk mX8_isTown = 1 := rfl
theorem mX8_isTown_n : ab_nL mX8_isTown = 1 := rfl
theorem mX8_isTown_c77 : ab_ml mX8_isTown 77 = some (3, 0, ab_sp mX8_in cX8_in) := rfl
theorem mX8_isTown_k75 : ab_kl mX8_isTown 75 = some (.inr (3)) := rfl
theorem mX8_isTown_mo : ab_mo mX8_isTown := List.forall_mem_cons.mpr ⟨ab_sp_m mX8_in_mo, fun _ h => absurd h List.not_mem_nil⟩
theorem vX8_isTown : Cond.code yX8_isTown cX8_isTown 1 (some .boolean) ∈ lw_g ∧ Cond.initialized yX8_isTown.cls ∈ lw_g ∧ (yX8_isTown.cls ≠ "java/lang/invoke/MethodHandle" ∧ yX8_isTown.cls ≠ "java/lang/invoke/VarHandle") ∧ Cond.static yX8_isTown ∈ lw_g := ⟨lw_w762, lw_w62, by decide +kernel, lw_w761⟩
theorem cX8_isTown_met (l : Launch) : ab_Met l yX8_isTown cX8_isTown 1 (some .boolean) 1 (ab_sp mX8_isTown cX8_isTown) := ab_met (M := mX8_isTown) (d := 1) (by decide +kernel) (fun _ h => absurd h List.not_mem_nil) (List.forall_mem_cons.mpr ⟨lw_w763, fun _ h => absurd h List.not_mem_nil⟩) (List.forall_mem_cons.mpr ⟨Or.inl ⟨yX8_in, cX8_in, 6, (some .boolean), 0, cX8_in_met l, vX8_in.1, vX8_in.2.1, vX8_in.2.2.1, by decide, by decide, by decide +kernel, vX8_in.2.2.2, Or.inl lw_w764⟩, fun _ h => absurd h List.not_mem_nil⟩)
def mX8_layBreaks : ab_M := ([(28, 8, 6), (35, 8, 8), (38, 8, 9), (103, 8, 11)], [(107, 3, 9, ab_sp mX8_addBreak cX8_addBreak)], [], 3, 4)
theorem mX8_layBreaks_r : ab_rk mX8_layBreaks = 3 := rfl
theorem mX8_layBreaks_n : ab_nL mX8_layBreaks = 4 := rfl
theorem mX8_layBreaks_f28 : ab_fl mX8_layBreaks 28 = some (8, 6) := rfl
theorem mX8_layBreaks_f35 : ab_fl mX8_layBreaks 35 = some (8, 8) := rfl
theorem mX8_layBreaks_f38 : ab_fl mX8_layBreaks 38 = some (8, 9) := rfl
theorem mX8_layBreaks_f103 : ab_fl mX8_layBreaks 103 = some (8, 11) := rfl
theorem mX8_layBreaks_c107 : ab_ml mX8_layBreaks 107 = some (3, 9, ab_sp mX8_addBreak cX8_addBreak) := rfl
theorem mX8_layBreaks_mo : ab_mo mX8_layBreaks := List.forall_mem_cons.mpr ⟨ab_sp_m mX8_addBreak_mo, fun _ h => absurd h List.not_mem_nil⟩
theorem vX8_layBreaks : Cond.code yX8_layBreaks cX8_layBreaks 4 none ∈ lw_g ∧ Cond.initialized yX8_layBreaks.cls ∈ lw_g ∧ (yX8_layBreaks.cls ≠ "java/lang/invoke/MethodHandle" ∧ yX8_layBreaks.cls ≠ "java/lang/invoke/VarHandle") ∧ (Cond.instanceMethod yX8_layBreaks ∈ lw_g ∧ Cond.selects yX8_layBreaks.cls yX8_layBreaks yX8_layBreaks ∈ lw_g) := ⟨lw_w828, lw_w62, by decide +kernel, ⟨lw_w827, lw_w24⟩⟩
theorem cX8_layBreaks_met (l : Launch) : ab_Met l yX8_layBreaks cX8_layBreaks 4 none 1 (ab_sp mX8_layBreaks cX8_layBreaks) := ab_met (M := mX8_layBreaks) (d := 1) (by decide +kernel) (List.forall_mem_cons.mpr ⟨⟨by decide, by decide, lw_w686⟩, List.forall_mem_cons.mpr ⟨⟨by decide, by decide, lw_w688⟩, List.forall_mem_cons.mpr ⟨⟨by decide, by decide, lw_w689⟩, List.forall_mem_cons.mpr ⟨⟨by decide, by decide, lw_w691⟩, fun _ h => absurd h List.not_mem_nil⟩⟩⟩⟩) (fun _ h => absurd h List.not_mem_nil) (List.forall_mem_cons.mpr ⟨Or.inl ⟨yX8_addBreak, cX8_addBreak, 4, none, 0, cX8_addBreak_met l, vX8_addBreak.1, vX8_addBreak.2.1, vX8_addBreak.2.2.1, by decide, by decide, by decide +kernel, rfl, by decide, vX8_addBreak.2.2.2.1, vX8_addBreak.2.2.2.2, lw_w829⟩, fun _ h => absurd h List.not_mem_nil⟩)
def mX8_sign : ab_M := ([(41, 8, 10), (44, 8, 12), (47, 8, 13)], [(111, 4, 9, ab_sp mX8_fromBelow cX8_fromBelow), (115, 3, 9, ab_sp mX8_by cX8_by)], [], 0, 7)
theorem mX8_sign_r : ab_rk mX8_sign = 0 := rfl
theorem mX8_sign_n : ab_nL mX8_sign = 7 := rfl
theorem mX8_sign_f41 : ab_fl mX8_sign 41 = some (8, 10) := rfl
theorem mX8_sign_f44 : ab_fl mX8_sign 44 = some (8, 12) := rfl
theorem mX8_sign_f47 : ab_fl mX8_sign 47 = some (8, 13) := rfl
theorem mX8_sign_c111 : ab_ml mX8_sign 111 = some (4, 9, ab_sp mX8_fromBelow cX8_fromBelow) := rfl
theorem mX8_sign_c115 : ab_ml mX8_sign 115 = some (3, 9, ab_sp mX8_by cX8_by) := rfl
theorem mX8_sign_mo : ab_mo mX8_sign := List.forall_mem_cons.mpr ⟨ab_sp_m mX8_fromBelow_mo, List.forall_mem_cons.mpr ⟨ab_sp_m mX8_by_mo, fun _ h => absurd h List.not_mem_nil⟩⟩
theorem vX8_sign : Cond.code yX8_sign cX8_sign 7 (some .int) ∈ lw_g ∧ Cond.initialized yX8_sign.cls ∈ lw_g ∧ (yX8_sign.cls ≠ "java/lang/invoke/MethodHandle" ∧ yX8_sign.cls ≠ "java/lang/invoke/VarHandle") ∧ (Cond.instanceMethod yX8_sign ∈ lw_g ∧ Cond.selects yX8_sign.cls yX8_sign yX8_sign ∈ lw_g) := ⟨lw_w836, lw_w62, by decide +kernel, ⟨lw_w835, lw_w26⟩⟩
theorem cX8_sign_met (l : Launch) : ab_Met l yX8_sign cX8_sign 7 (some .int) 1 (ab_sp mX8_sign cX8_sign) := ab_met (M := mX8_sign) (d := 1) (by decide +kernel) (List.forall_mem_cons.mpr ⟨⟨by decide, by decide, lw_w690⟩, List.forall_mem_cons.mpr ⟨⟨by decide, by decide, lw_w692⟩, List.forall_mem_cons.mpr ⟨⟨by decide, by decide, lw_w693⟩, fun _ h => absurd h List.not_mem_nil⟩⟩⟩) (fun _ h => absurd h List.not_mem_nil) (List.forall_mem_cons.mpr ⟨Or.inl ⟨yX8_fromBelow, cX8_fromBelow, 11, (some .long), 0, cX8_fromBelow_met l, vX8_fromBelow.1, vX8_fromBelow.2.1, vX8_fromBelow.2.2.1, by decide, by decide, by decide +kernel, rfl, by decide, vX8_fromBelow.2.2.2.1, vX8_fromBelow.2.2.2.2, lw_w837⟩, List.forall_mem_cons.mpr ⟨Or.inl ⟨yX8_by, cX8_by, 3, (some .long), 0, cX8_by_met l, vX8_by.1, vX8_by.2.1, vX8_by.2.2.1, by decide, by decide, by decide +kernel, rfl, by decide, vX8_by.2.2.2.1, vX8_by.2.2.2.2, lw_w841⟩, fun _ h => absurd h List.not_mem_nil⟩⟩)
def mX8_taxOf : ab_M := ([], [(260, 2, 9, ab_sp mX8_rateAbove cX8_rateAbove)], [], 0, 4)
theorem mX8_taxOf_r : ab_rk mX8_taxOf = 0 := rfl
theorem mX8_taxOf_n : ab_nL mX8_taxOf = 4 := rfl
theorem mX8_taxOf_c260 : ab_ml mX8_taxOf 260 = some (2, 9, ab_sp mX8_rateAbove cX8_rateAbove) := rfl
theorem mX8_taxOf_mo : ab_mo mX8_taxOf := List.forall_mem_cons.mpr ⟨ab_sp_m mX8_rateAbove_mo, fun _ h => absurd h List.not_mem_nil⟩
theorem vX8_taxOf : Cond.code yX8_taxOf cX8_taxOf 4 (some .int) ∈ lw_g ∧ Cond.initialized yX8_taxOf.cls ∈ lw_g ∧ (yX8_taxOf.cls ≠ "java/lang/invoke/MethodHandle" ∧ yX8_taxOf.cls ≠ "java/lang/invoke/VarHandle") ∧ (Cond.instanceMethod yX8_taxOf ∈ lw_g ∧ Cond.selects yX8_taxOf.cls yX8_taxOf yX8_taxOf ∈ lw_g) := ⟨lw_w1046, lw_w62, by decide +kernel, ⟨lw_w1045, lw_w52⟩⟩
theorem cX8_taxOf_met (l : Launch) : ab_Met l yX8_taxOf cX8_taxOf 4 (some .int) 1 (ab_sp mX8_taxOf cX8_taxOf) := ab_met (M := mX8_taxOf) (d := 1) (by decide +kernel) (fun _ h => absurd h List.not_mem_nil) (fun _ h => absurd h List.not_mem_nil) (List.forall_mem_cons.mpr ⟨Or.inl ⟨yX8_rateAbove, cX8_rateAbove, 4, (some .int), 0, cX8_rateAbove_met l, vX8_rateAbove.1, vX8_rateAbove.2.1, vX8_rateAbove.2.2.1, by decide, by decide, by decide +kernel, rfl, by decide, vX8_rateAbove.2.2.2.1, vX8_rateAbove.2.2.2.2, lw_w1047⟩, fun _ h => absurd h List.not_mem_nil⟩)
def mX8_told : ab_M := ([], [(71, 2, 0, ab_sp mX8_common cX8_common)], [], 2, 7)
theorem mX8_told_r : ab_rk mX8_told = 2 := rfl
theorem mX8_told_n : ab_nL mX8_told = 7 := rfl
theorem mX8_told_c71 : ab_ml mX8_told 71 = some (2, 0, ab_sp mX8_common cX8_common) := rfl
theorem mX8_told_mo : ab_mo mX8_told := List.forall_mem_cons.mpr ⟨ab_sp_m mX8_common_mo, fun _ h => absurd h List.not_mem_nil⟩
theorem vX8_told : Cond.code yX8_told cX8_told 7 (some .long) ∈ lw_g ∧ Cond.initialized yX8_told.cls ∈ lw_g ∧ (yX8_told.cls ≠ "java/lang/invoke/MethodHandle" ∧ yX8_told.cls ≠ "java/lang/invoke/VarHandle") ∧ Cond.static yX8_told ∈ lw_g := ⟨lw_w851, lw_w62, by decide +kernel, lw_w850⟩
theorem cX8_told_met (l : Launch) : ab_Met l yX8_told cX8_told 7 (some .long) 1 (ab_sp mX8_told cX8_told) := ab_met (M := mX8_told) (d := 1) (by decide +kernel) (fun _ h => absurd h List.not_mem_nil) (fun _ h => absurd h List.not_mem_nil) (List.forall_mem_cons.mpr ⟨Or.inl ⟨yX8_common, cX8_common, 10, (some .long), 0, cX8_common_met l, vX8_common.1, vX8_common.2.1, vX8_common.2.2.1, by decide, by decide, by decide +kernel, vX8_common.2.2.2, Or.inl lw_w852⟩, fun _ h => absurd h List.not_mem_nil⟩)
def mX8_weigh : ab_M := ([(165, 8, 17), (168, 8, 19), (179, 8, 18)], [(172, 1, 9, ab_sp mX8_greatest cX8_greatest), (176, 1, 9, ab_sp mX8_leastOfRow cX8_leastOfRow), (182, 1, 9, ab_sp mX8_pairSum cX8_pairSum), (185, 2, 9, ab_sp mX8_topSum cX8_topSum), (188, 1, 9, ab_sp mX8_rowSum cX8_rowSum), (191, 3, 9, ab_sp mX8_lackOf cX8_lackOf), (195, 1, 9, ab_sp mX8_squares cX8_squares)], [], 3, 3)
theorem mX8_weigh_r : ab_rk mX8_weigh = 3 := rfl
theorem mX8_weigh_n : ab_nL mX8_weigh = 3 := rfl
theorem mX8_weigh_f165 : ab_fl mX8_weigh 165 = some (8, 17) := rfl
theorem mX8_weigh_f168 : ab_fl mX8_weigh 168 = some (8, 19) := rfl
theorem mX8_weigh_f179 : ab_fl mX8_weigh 179 = some (8, 18) := rfl
theorem mX8_weigh_c172 : ab_ml mX8_weigh 172 = some (1, 9, ab_sp mX8_greatest cX8_greatest) := rfl
theorem mX8_weigh_c176 : ab_ml mX8_weigh 176 = some (1, 9, ab_sp mX8_leastOfRow cX8_leastOfRow) := rfl
theorem mX8_weigh_c182 : ab_ml mX8_weigh 182 = some (1, 9, ab_sp mX8_pairSum cX8_pairSum) := rfl
theorem mX8_weigh_c185 : ab_ml mX8_weigh 185 = some (2, 9, ab_sp mX8_topSum cX8_topSum) := rfl
theorem mX8_weigh_c188 : ab_ml mX8_weigh 188 = some (1, 9, ab_sp mX8_rowSum cX8_rowSum) := rfl
theorem mX8_weigh_c191 : ab_ml mX8_weigh 191 = some (3, 9, ab_sp mX8_lackOf cX8_lackOf) := rfl
theorem mX8_weigh_c195 : ab_ml mX8_weigh 195 = some (1, 9, ab_sp mX8_squares cX8_squares) := rfl
theorem mX8_weigh_mo : ab_mo mX8_weigh := List.forall_mem_cons.mpr ⟨ab_sp_m mX8_greatest_mo, List.forall_mem_cons.mpr ⟨ab_sp_m mX8_leastOfRow_mo, List.forall_mem_cons.mpr ⟨ab_sp_m mX8_pairSum_mo, List.forall_mem_cons.mpr ⟨ab_sp_m mX8_topSum_mo, List.forall_mem_cons.mpr ⟨ab_sp_m mX8_rowSum_mo, List.forall_mem_cons.mpr ⟨ab_sp_m mX8_lackOf_mo, List.forall_mem_cons.mpr ⟨ab_sp_m mX8_squares_mo, fun _ h => absurd h List.not_mem_nil⟩⟩⟩⟩⟩⟩⟩
theorem vX8_weigh : Cond.code yX8_weigh cX8_weigh 3 none ∈ lw_g ∧ Cond.initialized yX8_weigh.cls ∈ lw_g ∧ (yX8_weigh.cls ≠ "java/lang/invoke/MethodHandle" ∧ yX8_weigh.cls ≠ "java/lang/invoke/VarHandle") ∧ (Cond.instanceMethod yX8_weigh ∈ lw_g ∧ Cond.selects yX8_weigh.cls yX8_weigh yX8_weigh ∈ lw_g) := ⟨lw_w899, lw_w62, by decide +kernel, ⟨lw_w898, lw_w32⟩⟩
theorem cX8_weigh_met (l : Launch) : ab_Met l yX8_weigh cX8_weigh 3 none 1 (ab_sp mX8_weigh cX8_weigh) := ab_met (M := mX8_weigh) (d := 1) (by decide +kernel) (List.forall_mem_cons.mpr ⟨⟨by decide, by decide, lw_w697⟩, List.forall_mem_cons.mpr ⟨⟨by decide, by decide, lw_w699⟩, List.forall_mem_cons.mpr ⟨⟨by decide, by decide, lw_w698⟩, fun _ h => absurd h List.not_mem_nil⟩⟩⟩) (fun _ h => absurd h List.not_mem_nil) (List.forall_mem_cons.mpr ⟨Or.inl ⟨yX8_greatest, cX8_greatest, 3, (some .int), 0, cX8_greatest_met l, vX8_greatest.1, vX8_greatest.2.1, vX8_greatest.2.2.1, by decide, by decide, by decide +kernel, rfl, by decide, vX8_greatest.2.2.2.1, vX8_greatest.2.2.2.2, lw_w900⟩, List.forall_mem_cons.mpr ⟨Or.inl ⟨yX8_leastOfRow, cX8_leastOfRow, 3, (some .int), 0, cX8_leastOfRow_met l, vX8_leastOfRow.1, vX8_leastOfRow.2.1, vX8_leastOfRow.2.2.1, by decide, by decide, by decide +kernel, rfl, by decide, vX8_leastOfRow.2.2.2.1, vX8_leastOfRow.2.2.2.2, lw_w904⟩, List.forall_mem_cons.mpr ⟨Or.inl ⟨yX8_pairSum, cX8_pairSum, 4, (some .int), 0, cX8_pairSum_met l, vX8_pairSum.1, vX8_pairSum.2.1, vX8_pairSum.2.2.1, by decide, by decide, by decide +kernel, rfl, by decide, vX8_pairSum.2.2.2.1, vX8_pairSum.2.2.2.2, lw_w908⟩, List.forall_mem_cons.mpr ⟨Or.inl ⟨yX8_topSum, cX8_topSum, 6, (some .int), 0, cX8_topSum_met l, vX8_topSum.1, vX8_topSum.2.1, vX8_topSum.2.2.1, by decide, by decide, by decide +kernel, rfl, by decide, vX8_topSum.2.2.2.1, vX8_topSum.2.2.2.2, lw_w912⟩, List.forall_mem_cons.mpr ⟨Or.inl ⟨yX8_rowSum, cX8_rowSum, 3, (some .int), 0, cX8_rowSum_met l, vX8_rowSum.1, vX8_rowSum.2.1, vX8_rowSum.2.2.1, by decide, by decide, by decide +kernel, rfl, by decide, vX8_rowSum.2.2.2.1, vX8_rowSum.2.2.2.2, lw_w916⟩, List.forall_mem_cons.mpr ⟨Or.inl ⟨yX8_lackOf, cX8_lackOf, 5, (some .int), 0, cX8_lackOf_met l, vX8_lackOf.1, vX8_lackOf.2.1, vX8_lackOf.2.2.1, by decide, by decide, by decide +kernel, rfl, by decide, vX8_lackOf.2.2.2.1, vX8_lackOf.2.2.2.2, lw_w920⟩, List.forall_mem_cons.mpr ⟨Or.inl ⟨yX8_squares, cX8_squares, 3, (some .int), 0, cX8_squares_met l, vX8_squares.1, vX8_squares.2.1, vX8_squares.2.2.1, by decide, by decide, by decide +kernel, rfl, by decide, vX8_squares.2.2.2.1, vX8_squares.2.2.2.2, lw_w924⟩, fun _ h => absurd h List.not_mem_nil⟩⟩⟩⟩⟩⟩⟩)
def mX0_best : ab_M := ([(15, 5, 0), (28, 5, 1), (31, 5, 2)], [(34, 3, 1, ab_sp mX0_settlingOf cX0_settlingOf)], [], 0, 6)
theorem mX0_best_r : ab_rk mX0_best = 0 := rfl
theorem mX0_best_n : ab_nL mX0_best = 6 := rfl
theorem mX0_best_f15 : ab_fl mX0_best 15 = some (5, 0) := rfl
theorem mX0_best_f28 : ab_fl mX0_best 28 = some (5, 1) := rfl
theorem mX0_best_f31 : ab_fl mX0_best 31 = some (5, 2) := rfl
theorem mX0_best_c34 : ab_ml mX0_best 34 = some (3, 1, ab_sp mX0_settlingOf cX0_settlingOf) := rfl
theorem mX0_best_mo : ab_mo mX0_best := List.forall_mem_cons.mpr ⟨ab_sp_m mX0_settlingOf_mo, fun _ h => absurd h List.not_mem_nil⟩
theorem vX0_best : Cond.code yX0_best cX0_best 6 (some .int) ∈ lw_g ∧ Cond.initialized yX0_best.cls ∈ lw_g ∧ (yX0_best.cls ≠ "java/lang/invoke/MethodHandle" ∧ yX0_best.cls ≠ "java/lang/invoke/VarHandle") ∧ (Cond.instanceMethod yX0_best ∈ lw_g ∧ Cond.selects yX0_best.cls yX0_best yX0_best ∈ lw_g) := ⟨lw_w562, lw_w60, by decide +kernel, ⟨lw_w560, lw_w561⟩⟩
theorem cX0_best_met (l : Launch) : ab_Met l yX0_best cX0_best 6 (some .int) 2 (ab_sp mX0_best cX0_best) := ab_met (M := mX0_best) (d := 2) (by decide +kernel) (List.forall_mem_cons.mpr ⟨⟨by decide, by decide, lw_w196⟩, List.forall_mem_cons.mpr ⟨⟨by decide, by decide, lw_w202⟩, List.forall_mem_cons.mpr ⟨⟨by decide, by decide, lw_w205⟩, fun _ h => absurd h List.not_mem_nil⟩⟩⟩) (fun _ h => absurd h List.not_mem_nil) (List.forall_mem_cons.mpr ⟨Or.inl ⟨yX0_settlingOf, cX0_settlingOf, 6, (some .int), 1, cX0_settlingOf_met l, vX0_settlingOf.1, vX0_settlingOf.2.1, vX0_settlingOf.2.2.1, by decide, by decide, by decide +kernel, rfl, by decide, vX0_settlingOf.2.2.2.1, vX0_settlingOf.2.2.2.2, lw_w563⟩, fun _ h => absurd h List.not_mem_nil⟩)
def mX1_taken : ab_M := ([(9, 1, 1), (15, 1, 2), (18, 1, 0)], [(22, 2, 2, ab_sp mX1_nextFrom cX1_nextFrom), (26, 2, 0, ab_mi), (32, 2, 2, ab_sp mX1_isToldAgain cX1_isToldAgain)], [], 0, 5)
theorem mX1_taken_r : ab_rk mX1_taken = 0 := rfl
theorem mX1_taken_n : ab_nL mX1_taken = 5 := rfl
theorem mX1_taken_f9 : ab_fl mX1_taken 9 = some (1, 1) := rfl
theorem mX1_taken_f15 : ab_fl mX1_taken 15 = some (1, 2) := rfl
theorem mX1_taken_f18 : ab_fl mX1_taken 18 = some (1, 0) := rfl
theorem mX1_taken_c22 : ab_ml mX1_taken 22 = some (2, 2, ab_sp mX1_nextFrom cX1_nextFrom) := rfl
theorem mX1_taken_c26 : ab_ml mX1_taken 26 = some (2, 0, ab_mi) := rfl
theorem mX1_taken_c32 : ab_ml mX1_taken 32 = some (2, 2, ab_sp mX1_isToldAgain cX1_isToldAgain) := rfl
theorem mX1_taken_mo : ab_mo mX1_taken := List.forall_mem_cons.mpr ⟨ab_sp_m mX1_nextFrom_mo, List.forall_mem_cons.mpr ⟨ab_mi_m, List.forall_mem_cons.mpr ⟨ab_sp_m mX1_isToldAgain_mo, fun _ h => absurd h List.not_mem_nil⟩⟩⟩
theorem vX1_taken : Cond.code yX1_taken cX1_taken 5 (some .int) ∈ lw_g ∧ Cond.initialized yX1_taken.cls ∈ lw_g ∧ (yX1_taken.cls ≠ "java/lang/invoke/MethodHandle" ∧ yX1_taken.cls ≠ "java/lang/invoke/VarHandle") ∧ (Cond.instanceMethod yX1_taken ∈ lw_g ∧ Cond.selects yX1_taken.cls yX1_taken yX1_taken ∈ lw_g) := ⟨lw_w644, lw_w56, by decide +kernel, ⟨lw_w642, lw_w643⟩⟩
theorem cX1_taken_met (l : Launch) : ab_Met l yX1_taken cX1_taken 5 (some .int) 2 (ab_sp mX1_taken cX1_taken) := ab_met (M := mX1_taken) (d := 2) (by decide +kernel) (List.forall_mem_cons.mpr ⟨⟨by decide, by decide, lw_w85⟩, List.forall_mem_cons.mpr ⟨⟨by decide, by decide, lw_w86⟩, List.forall_mem_cons.mpr ⟨⟨by decide, by decide, lw_w83⟩, fun _ h => absurd h List.not_mem_nil⟩⟩⟩) (fun _ h => absurd h List.not_mem_nil) (List.forall_mem_cons.mpr ⟨Or.inl ⟨yX1_nextFrom, cX1_nextFrom, 4, (some .int), 1, cX1_nextFrom_met l, vX1_nextFrom.1, vX1_nextFrom.2.1, vX1_nextFrom.2.2.1, by decide, by decide, by decide +kernel, rfl, by decide, vX1_nextFrom.2.2.2.1, vX1_nextFrom.2.2.2.2, lw_w645⟩, List.forall_mem_cons.mpr ⟨Or.inr ⟨rfl, by decide, by decide, lw_mi, (Or.inr (Or.inl ⟨rfl, lw_w649, lw_mn.1, lw_mn.2⟩))⟩, List.forall_mem_cons.mpr ⟨Or.inl ⟨yX1_isToldAgain, cX1_isToldAgain, 3, (some .boolean), 0, cX1_isToldAgain_met l, vX1_isToldAgain.1, vX1_isToldAgain.2.1, vX1_isToldAgain.2.2.1, by decide, by decide, by decide +kernel, rfl, by decide, vX1_isToldAgain.2.2.2.1, vX1_isToldAgain.2.2.2.2, lw_w650⟩, fun _ h => absurd h List.not_mem_nil⟩⟩⟩)
def mX2_between : ab_M := ([(18, 2, 2), (22, 2, 3), (25, 5, 0)], [(31, 2, 0, ab_mi), (37, 4, 3, ab_sp mX2_putDue cX2_putDue), (41, 2, 3, ab_sp mX2_findSums cX2_findSums), (45, 2, 3, ab_sp mX2_mostGroups cX2_mostGroups)], [], 0, 6)
theorem mX2_between_r : ab_rk mX2_between = 0 := rfl
theorem mX2_between_n : ab_nL mX2_between = 6 := rfl
theorem mX2_between_f18 : ab_fl mX2_between 18 = some (2, 2) := rfl
theorem mX2_between_f22 : ab_fl mX2_between 22 = some (2, 3) := rfl
theorem mX2_between_f25 : ab_fl mX2_between 25 = some (5, 0) := rfl
theorem mX2_between_c31 : ab_ml mX2_between 31 = some (2, 0, ab_mi) := rfl
theorem mX2_between_c37 : ab_ml mX2_between 37 = some (4, 3, ab_sp mX2_putDue cX2_putDue) := rfl
theorem mX2_between_c41 : ab_ml mX2_between 41 = some (2, 3, ab_sp mX2_findSums cX2_findSums) := rfl
theorem mX2_between_c45 : ab_ml mX2_between 45 = some (2, 3, ab_sp mX2_mostGroups cX2_mostGroups) := rfl
theorem mX2_between_mo : ab_mo mX2_between := List.forall_mem_cons.mpr ⟨ab_mi_m, List.forall_mem_cons.mpr ⟨ab_sp_m mX2_putDue_mo, List.forall_mem_cons.mpr ⟨ab_sp_m mX2_findSums_mo, List.forall_mem_cons.mpr ⟨ab_sp_m mX2_mostGroups_mo, fun _ h => absurd h List.not_mem_nil⟩⟩⟩⟩
theorem vX2_between : Cond.code yX2_between cX2_between 6 (some .int) ∈ lw_g ∧ Cond.initialized yX2_between.cls ∈ lw_g ∧ (yX2_between.cls ≠ "java/lang/invoke/MethodHandle" ∧ yX2_between.cls ≠ "java/lang/invoke/VarHandle") ∧ (Cond.instanceMethod yX2_between ∈ lw_g ∧ Cond.selects yX2_between.cls yX2_between yX2_between ∈ lw_g) := ⟨lw_w407, lw_w59, by decide +kernel, ⟨lw_w405, lw_w406⟩⟩
theorem cX2_between_met (l : Launch) : ab_Met l yX2_between cX2_between 6 (some .int) 2 (ab_sp mX2_between cX2_between) := ab_met (M := mX2_between) (d := 2) (by decide +kernel) (List.forall_mem_cons.mpr ⟨⟨by decide, by decide, lw_w165⟩, List.forall_mem_cons.mpr ⟨⟨by decide, by decide, lw_w166⟩, List.forall_mem_cons.mpr ⟨⟨by decide, by decide, lw_w192⟩, fun _ h => absurd h List.not_mem_nil⟩⟩⟩) (fun _ h => absurd h List.not_mem_nil) (List.forall_mem_cons.mpr ⟨Or.inr ⟨rfl, by decide, by decide, lw_mi, (Or.inr (Or.inl ⟨rfl, lw_w408, lw_mn.1, lw_mn.2⟩))⟩, List.forall_mem_cons.mpr ⟨Or.inl ⟨yX2_putDue, cX2_putDue, 5, none, 1, cX2_putDue_met l, vX2_putDue.1, vX2_putDue.2.1, vX2_putDue.2.2.1, by decide, by decide, by decide +kernel, rfl, by decide, vX2_putDue.2.2.2.1, vX2_putDue.2.2.2.2, lw_w411⟩, List.forall_mem_cons.mpr ⟨Or.inl ⟨yX2_findSums, cX2_findSums, 5, none, 0, cX2_findSums_met l, vX2_findSums.1, vX2_findSums.2.1, vX2_findSums.2.2.1, by decide, by decide, by decide +kernel, rfl, by decide, vX2_findSums.2.2.2.1, vX2_findSums.2.2.2.2, lw_w418⟩, List.forall_mem_cons.mpr ⟨Or.inl ⟨yX2_mostGroups, cX2_mostGroups, 8, (some .int), 1, cX2_mostGroups_met l, vX2_mostGroups.1, vX2_mostGroups.2.1, vX2_mostGroups.2.2.1, by decide, by decide, by decide +kernel, rfl, by decide, vX2_mostGroups.2.2.2.1, vX2_mostGroups.2.2.2.2, lw_w422⟩, fun _ h => absurd h List.not_mem_nil⟩⟩⟩⟩)
