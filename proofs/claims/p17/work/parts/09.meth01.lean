def mX8_by : ab_M := ([(38, 8, 9), (41, 8, 10)], [], [(101, .inr (2520))], 2, 3)
theorem mX8_by_r : ab_rk mX8_by = 2 := rfl
theorem mX8_by_n : ab_nL mX8_by = 3 := rfl
theorem mX8_by_f38 : ab_fl mX8_by 38 = some (8, 9) := rfl
theorem mX8_by_f41 : ab_fl mX8_by 41 = some (8, 10) := rfl
theorem mX8_by_k101 : ab_kl mX8_by 101 = some (.inr (2520)) := rfl
theorem mX8_by_mo : ab_mo mX8_by := fun _ h => absurd h List.not_mem_nil
theorem vX8_by : Cond.code yX8_by cX8_by 3 (some .long) ∈ lw_g ∧ Cond.initialized yX8_by.cls ∈ lw_g ∧ (yX8_by.cls ≠ "java/lang/invoke/MethodHandle" ∧ yX8_by.cls ≠ "java/lang/invoke/VarHandle") ∧ (Cond.instanceMethod yX8_by ∈ lw_g ∧ Cond.selects yX8_by.cls yX8_by yX8_by ∈ lw_g) := ⟨lw_w844, lw_w62, by decide +kernel, ⟨lw_w843, lw_w28⟩⟩
theorem cX8_by_met (l : Launch) : ab_Met l yX8_by cX8_by 3 (some .long) 0 (ab_sp mX8_by cX8_by) := ab_met (M := mX8_by) (d := 0) (by decide +kernel) (List.forall_mem_cons.mpr ⟨⟨by decide, by decide, lw_w689⟩, List.forall_mem_cons.mpr ⟨⟨by decide, by decide, lw_w690⟩, fun _ h => absurd h List.not_mem_nil⟩⟩) (List.forall_mem_cons.mpr ⟨lw_w820, fun _ h => absurd h List.not_mem_nil⟩) (fun _ h => absurd h List.not_mem_nil)
def mX8_comesEven : ab_M := ([(50, 8, 14)], [], [], 1, 6)
theorem mX8_comesEven_r : ab_rk mX8_comesEven = 1 := rfl
theorem mX8_comesEven_n : ab_nL mX8_comesEven = 6 := rfl
theorem mX8_comesEven_f50 : ab_fl mX8_comesEven 50 = some (8, 14) := rfl
theorem mX8_comesEven_mo : ab_mo mX8_comesEven := fun _ h => absurd h List.not_mem_nil
theorem vX8_comesEven : Cond.code yX8_comesEven cX8_comesEven 6 (some .boolean) ∈ lw_g ∧ Cond.initialized yX8_comesEven.cls ∈ lw_g ∧ (yX8_comesEven.cls ≠ "java/lang/invoke/MethodHandle" ∧ yX8_comesEven.cls ≠ "java/lang/invoke/VarHandle") ∧ (Cond.instanceMethod yX8_comesEven ∈ lw_g ∧ Cond.selects yX8_comesEven.cls yX8_comesEven yX8_comesEven ∈ lw_g) := ⟨lw_w870, lw_w62, by decide +kernel, ⟨lw_w869, lw_w29⟩⟩
theorem cX8_comesEven_met (l : Launch) : ab_Met l yX8_comesEven cX8_comesEven 6 (some .boolean) 0 (ab_sp mX8_comesEven cX8_comesEven) := ab_met (M := mX8_comesEven) (d := 0) (by decide +kernel) (List.forall_mem_cons.mpr ⟨⟨by decide, by decide, lw_w694⟩, fun _ h => absurd h List.not_mem_nil⟩) (fun _ h => absurd h List.not_mem_nil) (fun _ h => absurd h List.not_mem_nil)
def mX8_common : ab_M := ([], [], [], 2, 10)
theorem mX8_common_r : ab_rk mX8_common = 2 := rfl
theorem mX8_common_n : ab_nL mX8_common = 10 := rfl
theorem mX8_common_mo : ab_mo mX8_common := fun _ h => absurd h List.not_mem_nil
theorem vX8_common : Cond.code yX8_common cX8_common 10 (some .long) ∈ lw_g ∧ Cond.initialized yX8_common.cls ∈ lw_g ∧ (yX8_common.cls ≠ "java/lang/invoke/MethodHandle" ∧ yX8_common.cls ≠ "java/lang/invoke/VarHandle") ∧ Cond.static yX8_common ∈ lw_g := ⟨lw_w854, lw_w62, by decide +kernel, lw_w853⟩
theorem cX8_common_met (l : Launch) : ab_Met l yX8_common cX8_common 10 (some .long) 0 (ab_sp mX8_common cX8_common) := ab_met (M := mX8_common) (d := 0) (by decide +kernel) (fun _ h => absurd h List.not_mem_nil) (fun _ h => absurd h List.not_mem_nil) (fun _ h => absurd h List.not_mem_nil)
def mX8_fill : ab_M := ([(7, 8, 0), (13, 8, 1), (16, 8, 2), (25, 8, 5)], [], [], 3, 7)
theorem mX8_fill_r : ab_rk mX8_fill = 3 := rfl
theorem mX8_fill_n : ab_nL mX8_fill = 7 := rfl
theorem mX8_fill_f7 : ab_fl mX8_fill 7 = some (8, 0) := rfl
theorem mX8_fill_f13 : ab_fl mX8_fill 13 = some (8, 1) := rfl
theorem mX8_fill_f16 : ab_fl mX8_fill 16 = some (8, 2) := rfl
theorem mX8_fill_f25 : ab_fl mX8_fill 25 = some (8, 5) := rfl
theorem mX8_fill_mo : ab_mo mX8_fill := fun _ h => absurd h List.not_mem_nil
theorem vX8_fill : Cond.code yX8_fill cX8_fill 7 none ∈ lw_g ∧ Cond.initialized yX8_fill.cls ∈ lw_g ∧ (yX8_fill.cls ≠ "java/lang/invoke/MethodHandle" ∧ yX8_fill.cls ≠ "java/lang/invoke/VarHandle") ∧ (Cond.instanceMethod yX8_fill ∈ lw_g ∧ Cond.selects yX8_fill.cls yX8_fill yX8_fill ∈ lw_g) := ⟨lw_w980, lw_w62, by decide +kernel, ⟨lw_w979, lw_w46⟩⟩
theorem cX8_fill_met (l : Launch) : ab_Met l yX8_fill cX8_fill 7 none 0 (ab_sp mX8_fill cX8_fill) := ab_met (M := mX8_fill) (d := 0) (by decide +kernel) (List.forall_mem_cons.mpr ⟨⟨by decide, by decide, lw_w680⟩, List.forall_mem_cons.mpr ⟨⟨by decide, by decide, lw_w681⟩, List.forall_mem_cons.mpr ⟨⟨by decide, by decide, lw_w682⟩, List.forall_mem_cons.mpr ⟨⟨by decide, by decide, lw_w685⟩, fun _ h => absurd h List.not_mem_nil⟩⟩⟩⟩) (fun _ h => absurd h List.not_mem_nil) (fun _ h => absurd h List.not_mem_nil)
def mX8_fillingsOf : ab_M := ([(7, 8, 0), (13, 8, 1), (16, 8, 2)], [], [], 2, 5)
theorem mX8_fillingsOf_r : ab_rk mX8_fillingsOf = 2 := rfl
theorem mX8_fillingsOf_n : ab_nL mX8_fillingsOf = 5 := rfl
theorem mX8_fillingsOf_f7 : ab_fl mX8_fillingsOf 7 = some (8, 0) := rfl
theorem mX8_fillingsOf_f13 : ab_fl mX8_fillingsOf 13 = some (8, 1) := rfl
theorem mX8_fillingsOf_f16 : ab_fl mX8_fillingsOf 16 = some (8, 2) := rfl
theorem mX8_fillingsOf_mo : ab_mo mX8_fillingsOf := fun _ h => absurd h List.not_mem_nil
theorem vX8_fillingsOf : Cond.code yX8_fillingsOf cX8_fillingsOf 5 (some .long) ∈ lw_g ∧ Cond.initialized yX8_fillingsOf.cls ∈ lw_g ∧ (yX8_fillingsOf.cls ≠ "java/lang/invoke/MethodHandle" ∧ yX8_fillingsOf.cls ≠ "java/lang/invoke/VarHandle") ∧ (Cond.instanceMethod yX8_fillingsOf ∈ lw_g ∧ Cond.selects yX8_fillingsOf.cls yX8_fillingsOf yX8_fillingsOf ∈ lw_g) := ⟨lw_w963, lw_w62, by decide +kernel, ⟨lw_w962, lw_w43⟩⟩
theorem cX8_fillingsOf_met (l : Launch) : ab_Met l yX8_fillingsOf cX8_fillingsOf 5 (some .long) 0 (ab_sp mX8_fillingsOf cX8_fillingsOf) := ab_met (M := mX8_fillingsOf) (d := 0) (by decide +kernel) (List.forall_mem_cons.mpr ⟨⟨by decide, by decide, lw_w680⟩, List.forall_mem_cons.mpr ⟨⟨by decide, by decide, lw_w681⟩, List.forall_mem_cons.mpr ⟨⟨by decide, by decide, lw_w682⟩, fun _ h => absurd h List.not_mem_nil⟩⟩⟩) (fun _ h => absurd h List.not_mem_nil) (fun _ h => absurd h List.not_mem_nil)
def mX8_fromBelow : ab_M := ([(28, 8, 6), (31, 8, 7), (35, 8, 8), (38, 8, 9)], [], [], 2, 11)
theorem mX8_fromBelow_r : ab_rk mX8_fromBelow = 2 := rfl
theorem mX8_fromBelow_n : ab_nL mX8_fromBelow = 11 := rfl
theorem mX8_fromBelow_f28 : ab_fl mX8_fromBelow 28 = some (8, 6) := rfl
theorem mX8_fromBelow_f31 : ab_fl mX8_fromBelow 31 = some (8, 7) := rfl
theorem mX8_fromBelow_f35 : ab_fl mX8_fromBelow 35 = some (8, 8) := rfl
theorem mX8_fromBelow_f38 : ab_fl mX8_fromBelow 38 = some (8, 9) := rfl
theorem mX8_fromBelow_mo : ab_mo mX8_fromBelow := fun _ h => absurd h List.not_mem_nil
theorem vX8_fromBelow : Cond.code yX8_fromBelow cX8_fromBelow 11 (some .long) ∈ lw_g ∧ Cond.initialized yX8_fromBelow.cls ∈ lw_g ∧ (yX8_fromBelow.cls ≠ "java/lang/invoke/MethodHandle" ∧ yX8_fromBelow.cls ≠ "java/lang/invoke/VarHandle") ∧ (Cond.instanceMethod yX8_fromBelow ∈ lw_g ∧ Cond.selects yX8_fromBelow.cls yX8_fromBelow yX8_fromBelow ∈ lw_g) := ⟨lw_w840, lw_w62, by decide +kernel, ⟨lw_w839, lw_w27⟩⟩
theorem cX8_fromBelow_met (l : Launch) : ab_Met l yX8_fromBelow cX8_fromBelow 11 (some .long) 0 (ab_sp mX8_fromBelow cX8_fromBelow) := ab_met (M := mX8_fromBelow) (d := 0) (by decide +kernel) (List.forall_mem_cons.mpr ⟨⟨by decide, by decide, lw_w686⟩, List.forall_mem_cons.mpr ⟨⟨by decide, by decide, lw_w687⟩, List.forall_mem_cons.mpr ⟨⟨by decide, by decide, lw_w688⟩, List.forall_mem_cons.mpr ⟨⟨by decide, by decide, lw_w689⟩, fun _ h => absurd h List.not_mem_nil⟩⟩⟩⟩) (fun _ h => absurd h List.not_mem_nil) (fun _ h => absurd h List.not_mem_nil)
def mX8_greatest : ab_M := ([(56, 8, 16), (165, 8, 17)], [], [], 0, 3)
theorem mX8_greatest_r : ab_rk mX8_greatest = 0 := rfl
theorem mX8_greatest_n : ab_nL mX8_greatest = 3 := rfl
theorem mX8_greatest_f56 : ab_fl mX8_greatest 56 = some (8, 16) := rfl
theorem mX8_greatest_f165 : ab_fl mX8_greatest 165 = some (8, 17) := rfl
theorem mX8_greatest_mo : ab_mo mX8_greatest := fun _ h => absurd h List.not_mem_nil
theorem vX8_greatest : Cond.code yX8_greatest cX8_greatest 3 (some .int) ∈ lw_g ∧ Cond.initialized yX8_greatest.cls ∈ lw_g ∧ (yX8_greatest.cls ≠ "java/lang/invoke/MethodHandle" ∧ yX8_greatest.cls ≠ "java/lang/invoke/VarHandle") ∧ (Cond.instanceMethod yX8_greatest ∈ lw_g ∧ Cond.selects yX8_greatest.cls yX8_greatest yX8_greatest ∈ lw_g) := ⟨lw_w903, lw_w62, by decide +kernel, ⟨lw_w902, lw_w33⟩⟩
theorem cX8_greatest_met (l : Launch) : ab_Met l yX8_greatest cX8_greatest 3 (some .int) 0 (ab_sp mX8_greatest cX8_greatest) := ab_met (M := mX8_greatest) (d := 0) (by decide +kernel) (List.forall_mem_cons.mpr ⟨⟨by decide, by decide, lw_w696⟩, List.forall_mem_cons.mpr ⟨⟨by decide, by decide, lw_w697⟩, fun _ h => absurd h List.not_mem_nil⟩⟩) (fun _ h => absurd h List.not_mem_nil) (fun _ h => absurd h List.not_mem_nil)
def mX8_in : ab_M := ([], [], [], 1, 6)
theorem mX8_in_r : ab_rk mX8_in = 1 := rfl
theorem mX8_in_n : ab_nL mX8_in = 6 := rfl
theorem mX8_in_mo : ab_mo mX8_in := fun _ h => absurd h List.not_mem_nil
theorem vX8_in : Cond.code yX8_in cX8_in 6 (some .boolean) ∈ lw_g ∧ Cond.initialized yX8_in.cls ∈ lw_g ∧ (yX8_in.cls ≠ "java/lang/invoke/MethodHandle" ∧ yX8_in.cls ≠ "java/lang/invoke/VarHandle") ∧ Cond.static yX8_in ∈ lw_g := ⟨lw_w766, lw_w62, by decide +kernel, lw_w765⟩
theorem cX8_in_met (l : Launch) : ab_Met l yX8_in cX8_in 6 (some .boolean) 0 (ab_sp mX8_in cX8_in) := ab_met (M := mX8_in) (d := 0) (by decide +kernel) (fun _ h => absurd h List.not_mem_nil) (fun _ h => absurd h List.not_mem_nil) (fun _ h => absurd h List.not_mem_nil)
def mX8_isKnown : ab_M := ([(7, 8, 0), (13, 8, 1), (16, 8, 2)], [], [], 1, 4)
theorem mX8_isKnown_r : ab_rk mX8_isKnown = 1 := rfl
theorem mX8_isKnown_n : ab_nL mX8_isKnown = 4 := rfl
theorem mX8_isKnown_f7 : ab_fl mX8_isKnown 7 = some (8, 0) := rfl
theorem mX8_isKnown_f13 : ab_fl mX8_isKnown 13 = some (8, 1) := rfl
theorem mX8_isKnown_f16 : ab_fl mX8_isKnown 16 = some (8, 2) := rfl
theorem mX8_isKnown_mo : ab_mo mX8_isKnown := fun _ h => absurd h List.not_mem_nil
theorem vX8_isKnown : Cond.code yX8_isKnown cX8_isKnown 4 (some .boolean) ∈ lw_g ∧ Cond.initialized yX8_isKnown.cls ∈ lw_g ∧ (yX8_isKnown.cls ≠ "java/lang/invoke/MethodHandle" ∧ yX8_isKnown.cls ≠ "java/lang/invoke/VarHandle") ∧ (Cond.instanceMethod yX8_isKnown ∈ lw_g ∧ Cond.selects yX8_isKnown.cls yX8_isKnown yX8_isKnown ∈ lw_g) := ⟨lw_w796, lw_w62, by decide +kernel, ⟨lw_w795, lw_w18⟩⟩
theorem cX8_isKnown_met (l : Launch) : ab_Met l yX8_isKnown cX8_isKnown 4 (some .boolean) 0 (ab_sp mX8_isKnown cX8_isKnown) := ab_met (M := mX8_isKnown) (d := 0) (by decide +kernel) (List.forall_mem_cons.mpr ⟨⟨by decide, by decide, lw_w680⟩, List.forall_mem_cons.mpr ⟨⟨by decide, by decide, lw_w681⟩, List.forall_mem_cons.mpr ⟨⟨by decide, by decide, lw_w682⟩, fun _ h => absurd h List.not_mem_nil⟩⟩⟩) (fun _ h => absurd h List.not_mem_nil) (fun _ h => absurd h List.not_mem_nil)
def mX8_lackOf : ab_M := ([(56, 8, 16), (165, 8, 17)], [], [], 0, 5)
theorem mX8_lackOf_r : ab_rk mX8_lackOf = 0 := rfl
theorem mX8_lackOf_n : ab_nL mX8_lackOf = 5 := rfl
theorem mX8_lackOf_f56 : ab_fl mX8_lackOf 56 = some (8, 16) := rfl
theorem mX8_lackOf_f165 : ab_fl mX8_lackOf 165 = some (8, 17) := rfl
theorem mX8_lackOf_mo : ab_mo mX8_lackOf := fun _ h => absurd h List.not_mem_nil
theorem vX8_lackOf : Cond.code yX8_lackOf cX8_lackOf 5 (some .int) ∈ lw_g ∧ Cond.initialized yX8_lackOf.cls ∈ lw_g ∧ (yX8_lackOf.cls ≠ "java/lang/invoke/MethodHandle" ∧ yX8_lackOf.cls ≠ "java/lang/invoke/VarHandle") ∧ (Cond.instanceMethod yX8_lackOf ∈ lw_g ∧ Cond.selects yX8_lackOf.cls yX8_lackOf yX8_lackOf ∈ lw_g) := ⟨lw_w923, lw_w62, by decide +kernel, ⟨lw_w922, lw_w38⟩⟩
theorem cX8_lackOf_met (l : Launch) : ab_Met l yX8_lackOf cX8_lackOf 5 (some .int) 0 (ab_sp mX8_lackOf cX8_lackOf) := ab_met (M := mX8_lackOf) (d := 0) (by decide +kernel) (List.forall_mem_cons.mpr ⟨⟨by decide, by decide, lw_w696⟩, List.forall_mem_cons.mpr ⟨⟨by decide, by decide, lw_w697⟩, fun _ h => absurd h List.not_mem_nil⟩⟩) (fun _ h => absurd h List.not_mem_nil) (fun _ h => absurd h List.not_mem_nil)
def mX8_lay : ab_M := ([(7, 8, 0), (19, 8, 3), (25, 8, 5), (28, 8, 6), (31, 8, 7), (35, 8, 8), (38, 8, 9), (41, 8, 10)], [], [(87, .inr (2)), (101, .inr (2520))], 3, 9)
theorem mX8_lay_r : ab_rk mX8_lay = 3 := rfl
theorem mX8_lay_n : ab_nL mX8_lay = 9 := rfl
theorem mX8_lay_f7 : ab_fl mX8_lay 7 = some (8, 0) := rfl
theorem mX8_lay_f19 : ab_fl mX8_lay 19 = some (8, 3) := rfl
theorem mX8_lay_f25 : ab_fl mX8_lay 25 = some (8, 5) := rfl
theorem mX8_lay_f28 : ab_fl mX8_lay 28 = some (8, 6) := rfl
theorem mX8_lay_f31 : ab_fl mX8_lay 31 = some (8, 7) := rfl
theorem mX8_lay_f35 : ab_fl mX8_lay 35 = some (8, 8) := rfl
theorem mX8_lay_f38 : ab_fl mX8_lay 38 = some (8, 9) := rfl
theorem mX8_lay_f41 : ab_fl mX8_lay 41 = some (8, 10) := rfl
theorem mX8_lay_k87 : ab_kl mX8_lay 87 = some (.inr (2)) := rfl
theorem mX8_lay_k101 : ab_kl mX8_lay 101 = some (.inr (2520)) := rfl
theorem mX8_lay_mo : ab_mo mX8_lay := fun _ h => absurd h List.not_mem_nil
theorem vX8_lay : Cond.code yX8_lay cX8_lay 9 none ∈ lw_g ∧ Cond.initialized yX8_lay.cls ∈ lw_g ∧ (yX8_lay.cls ≠ "java/lang/invoke/MethodHandle" ∧ yX8_lay.cls ≠ "java/lang/invoke/VarHandle") ∧ (Cond.instanceMethod yX8_lay ∈ lw_g ∧ Cond.selects yX8_lay.cls yX8_lay yX8_lay ∈ lw_g) := ⟨lw_w819, lw_w62, by decide +kernel, ⟨lw_w818, lw_w22⟩⟩
theorem cX8_lay_met (l : Launch) : ab_Met l yX8_lay cX8_lay 9 none 0 (ab_sp mX8_lay cX8_lay) := ab_met (M := mX8_lay) (d := 0) (by decide +kernel) (List.forall_mem_cons.mpr ⟨⟨by decide, by decide, lw_w680⟩, List.forall_mem_cons.mpr ⟨⟨by decide, by decide, lw_w683⟩, List.forall_mem_cons.mpr ⟨⟨by decide, by decide, lw_w685⟩, List.forall_mem_cons.mpr ⟨⟨by decide, by decide, lw_w686⟩, List.forall_mem_cons.mpr ⟨⟨by decide, by decide, lw_w687⟩, List.forall_mem_cons.mpr ⟨⟨by decide, by decide, lw_w688⟩, List.forall_mem_cons.mpr ⟨⟨by decide, by decide, lw_w689⟩, List.forall_mem_cons.mpr ⟨⟨by decide, by decide, lw_w690⟩, fun _ h => absurd h List.not_mem_nil⟩⟩⟩⟩⟩⟩⟩⟩) (List.forall_mem_cons.mpr ⟨lw_w767, List.forall_mem_cons.mpr ⟨lw_w820, fun _ h => absurd h List.not_mem_nil⟩⟩) (fun _ h => absurd h List.not_mem_nil)
def mX8_leastOfRow : ab_M := ([(56, 8, 16), (165, 8, 17)], [], [], 0, 3)
theorem mX8_leastOfRow_r : ab_rk mX8_leastOfRow = 0 := rfl
theorem mX8_leastOfRow_n : ab_nL mX8_leastOfRow = 3 := rfl
theorem mX8_leastOfRow_f56 : ab_fl mX8_leastOfRow 56 = some (8, 16) := rfl
theorem mX8_leastOfRow_f165 : ab_fl mX8_leastOfRow 165 = some (8, 17) := rfl
theorem mX8_leastOfRow_mo : ab_mo mX8_leastOfRow := fun _ h => absurd h List.not_mem_nil
theorem vX8_leastOfRow : Cond.code yX8_leastOfRow cX8_leastOfRow 3 (some .int) ∈ lw_g ∧ Cond.initialized yX8_leastOfRow.cls ∈ lw_g ∧ (yX8_leastOfRow.cls ≠ "java/lang/invoke/MethodHandle" ∧ yX8_leastOfRow.cls ≠ "java/lang/invoke/VarHandle") ∧ (Cond.instanceMethod yX8_leastOfRow ∈ lw_g ∧ Cond.selects yX8_leastOfRow.cls yX8_leastOfRow yX8_leastOfRow ∈ lw_g) := ⟨lw_w907, lw_w62, by decide +kernel, ⟨lw_w906, lw_w34⟩⟩
theorem cX8_leastOfRow_met (l : Launch) : ab_Met l yX8_leastOfRow cX8_leastOfRow 3 (some .int) 0 (ab_sp mX8_leastOfRow cX8_leastOfRow) := ab_met (M := mX8_leastOfRow) (d := 0) (by decide +kernel) (List.forall_mem_cons.mpr ⟨⟨by decide, by decide, lw_w696⟩, List.forall_mem_cons.mpr ⟨⟨by decide, by decide, lw_w697⟩, fun _ h => absurd h List.not_mem_nil⟩⟩) (fun _ h => absurd h List.not_mem_nil) (fun _ h => absurd h List.not_mem_nil)
def mX8_lessThan : ab_M := ([(7, 8, 0), (13, 8, 1)], [], [], 0, 5)
theorem mX8_lessThan_r : ab_rk mX8_lessThan = 0 := rfl
theorem mX8_lessThan_n : ab_nL mX8_lessThan = 5 := rfl
theorem mX8_lessThan_f7 : ab_fl mX8_lessThan 7 = some (8, 0) := rfl
theorem mX8_lessThan_f13 : ab_fl mX8_lessThan 13 = some (8, 1) := rfl
theorem mX8_lessThan_mo : ab_mo mX8_lessThan := fun _ h => absurd h List.not_mem_nil
theorem vX8_lessThan : Cond.code yX8_lessThan cX8_lessThan 5 (some .int) ∈ lw_g ∧ Cond.initialized yX8_lessThan.cls ∈ lw_g ∧ (yX8_lessThan.cls ≠ "java/lang/invoke/MethodHandle" ∧ yX8_lessThan.cls ≠ "java/lang/invoke/VarHandle") ∧ (Cond.instanceMethod yX8_lessThan ∈ lw_g ∧ Cond.selects yX8_lessThan.cls yX8_lessThan yX8_lessThan ∈ lw_g) := ⟨lw_w1029, lw_w62, by decide +kernel, ⟨lw_w1028, lw_w51⟩⟩
theorem cX8_lessThan_met (l : Launch) : ab_Met l yX8_lessThan cX8_lessThan 5 (some .int) 0 (ab_sp mX8_lessThan cX8_lessThan) := ab_met (M := mX8_lessThan) (d := 0) (by decide +kernel) (List.forall_mem_cons.mpr ⟨⟨by decide, by decide, lw_w680⟩, List.forall_mem_cons.mpr ⟨⟨by decide, by decide, lw_w681⟩, fun _ h => absurd h List.not_mem_nil⟩⟩) (fun _ h => absurd h List.not_mem_nil) (fun _ h => absurd h List.not_mem_nil)
def mX8_pairSum : ab_M := ([(56, 8, 16), (165, 8, 17)], [], [], 0, 4)
theorem mX8_pairSum_r : ab_rk mX8_pairSum = 0 := rfl
theorem mX8_pairSum_n : ab_nL mX8_pairSum = 4 := rfl
theorem mX8_pairSum_f56 : ab_fl mX8_pairSum 56 = some (8, 16) := rfl
theorem mX8_pairSum_f165 : ab_fl mX8_pairSum 165 = some (8, 17) := rfl
theorem mX8_pairSum_mo : ab_mo mX8_pairSum := fun _ h => absurd h List.not_mem_nil
theorem vX8_pairSum : Cond.code yX8_pairSum cX8_pairSum 4 (some .int) ∈ lw_g ∧ Cond.initialized yX8_pairSum.cls ∈ lw_g ∧ (yX8_pairSum.cls ≠ "java/lang/invoke/MethodHandle" ∧ yX8_pairSum.cls ≠ "java/lang/invoke/VarHandle") ∧ (Cond.instanceMethod yX8_pairSum ∈ lw_g ∧ Cond.selects yX8_pairSum.cls yX8_pairSum yX8_pairSum ∈ lw_g) := ⟨lw_w911, lw_w62, by decide +kernel, ⟨lw_w910, lw_w35⟩⟩
theorem cX8_pairSum_met (l : Launch) : ab_Met l yX8_pairSum cX8_pairSum 4 (some .int) 0 (ab_sp mX8_pairSum cX8_pairSum) := ab_met (M := mX8_pairSum) (d := 0) (by decide +kernel) (List.forall_mem_cons.mpr ⟨⟨by decide, by decide, lw_w696⟩, List.forall_mem_cons.mpr ⟨⟨by decide, by decide, lw_w697⟩, fun _ h => absurd h List.not_mem_nil⟩⟩) (fun _ h => absurd h List.not_mem_nil) (fun _ h => absurd h List.not_mem_nil)
def mX8_rateAbove : ab_M := ([(65, 8, 23), (68, 8, 24), (257, 8, 22)], [], [], 0, 4)
theorem mX8_rateAbove_r : ab_rk mX8_rateAbove = 0 := rfl
theorem mX8_rateAbove_n : ab_nL mX8_rateAbove = 4 := rfl
theorem mX8_rateAbove_f65 : ab_fl mX8_rateAbove 65 = some (8, 23) := rfl
theorem mX8_rateAbove_f68 : ab_fl mX8_rateAbove 68 = some (8, 24) := rfl
theorem mX8_rateAbove_f257 : ab_fl mX8_rateAbove 257 = some (8, 22) := rfl
theorem mX8_rateAbove_mo : ab_mo mX8_rateAbove := fun _ h => absurd h List.not_mem_nil
theorem vX8_rateAbove : Cond.code yX8_rateAbove cX8_rateAbove 4 (some .int) ∈ lw_g ∧ Cond.initialized yX8_rateAbove.cls ∈ lw_g ∧ (yX8_rateAbove.cls ≠ "java/lang/invoke/MethodHandle" ∧ yX8_rateAbove.cls ≠ "java/lang/invoke/VarHandle") ∧ (Cond.instanceMethod yX8_rateAbove ∈ lw_g ∧ Cond.selects yX8_rateAbove.cls yX8_rateAbove yX8_rateAbove ∈ lw_g) := ⟨lw_w1050, lw_w62, by decide +kernel, ⟨lw_w1049, lw_w53⟩⟩
theorem cX8_rateAbove_met (l : Launch) : ab_Met l yX8_rateAbove cX8_rateAbove 4 (some .int) 0 (ab_sp mX8_rateAbove cX8_rateAbove) := ab_met (M := mX8_rateAbove) (d := 0) (by decide +kernel) (List.forall_mem_cons.mpr ⟨⟨by decide, by decide, lw_w703⟩, List.forall_mem_cons.mpr ⟨⟨by decide, by decide, lw_w704⟩, List.forall_mem_cons.mpr ⟨⟨by decide, by decide, lw_w702⟩, fun _ h => absurd h List.not_mem_nil⟩⟩⟩) (fun _ h => absurd h List.not_mem_nil) (fun _ h => absurd h List.not_mem_nil)
def mX8_rowSum : ab_M := ([(56, 8, 16), (165, 8, 17)], [], [], 0, 3)
theorem mX8_rowSum_r : ab_rk mX8_rowSum = 0 := rfl
theorem mX8_rowSum_n : ab_nL mX8_rowSum = 3 := rfl
theorem mX8_rowSum_f56 : ab_fl mX8_rowSum 56 = some (8, 16) := rfl
theorem mX8_rowSum_f165 : ab_fl mX8_rowSum 165 = some (8, 17) := rfl
theorem mX8_rowSum_mo : ab_mo mX8_rowSum := fun _ h => absurd h List.not_mem_nil
theorem vX8_rowSum : Cond.code yX8_rowSum cX8_rowSum 3 (some .int) ∈ lw_g ∧ Cond.initialized yX8_rowSum.cls ∈ lw_g ∧ (yX8_rowSum.cls ≠ "java/lang/invoke/MethodHandle" ∧ yX8_rowSum.cls ≠ "java/lang/invoke/VarHandle") ∧ (Cond.instanceMethod yX8_rowSum ∈ lw_g ∧ Cond.selects yX8_rowSum.cls yX8_rowSum yX8_rowSum ∈ lw_g) := ⟨lw_w919, lw_w62, by decide +kernel, ⟨lw_w918, lw_w37⟩⟩
theorem cX8_rowSum_met (l : Launch) : ab_Met l yX8_rowSum cX8_rowSum 3 (some .int) 0 (ab_sp mX8_rowSum cX8_rowSum) := ab_met (M := mX8_rowSum) (d := 0) (by decide +kernel) (List.forall_mem_cons.mpr ⟨⟨by decide, by decide, lw_w696⟩, List.forall_mem_cons.mpr ⟨⟨by decide, by decide, lw_w697⟩, fun _ h => absurd h List.not_mem_nil⟩⟩) (fun _ h => absurd h List.not_mem_nil) (fun _ h => absurd h List.not_mem_nil)
def mX8_squares : ab_M := ([(56, 8, 16), (165, 8, 17)], [], [], 0, 3)
theorem mX8_squares_r : ab_rk mX8_squares = 0 := rfl
theorem mX8_squares_n : ab_nL mX8_squares = 3 := rfl
theorem mX8_squares_f56 : ab_fl mX8_squares 56 = some (8, 16) := rfl
theorem mX8_squares_f165 : ab_fl mX8_squares 165 = some (8, 17) := rfl
theorem mX8_squares_mo : ab_mo mX8_squares := fun _ h => absurd h List.not_mem_nil
theorem vX8_squares : Cond.code yX8_squares cX8_squares 3 (some .int) ∈ lw_g ∧ Cond.initialized yX8_squares.cls ∈ lw_g ∧ (yX8_squares.cls ≠ "java/lang/invoke/MethodHandle" ∧ yX8_squares.cls ≠ "java/lang/invoke/VarHandle") ∧ (Cond.instanceMethod yX8_squares ∈ lw_g ∧ Cond.selects yX8_squares.cls yX8_squares yX8_squares ∈ lw_g) := ⟨lw_w927, lw_w62, by decide +kernel, ⟨lw_w926, lw_w39⟩⟩
theorem cX8_squares_met (l : Launch) : ab_Met l yX8_squares cX8_squares 3 (some .int) 0 (ab_sp mX8_squares cX8_squares) := ab_met (M := mX8_squares) (d := 0) (by decide +kernel) (List.forall_mem_cons.mpr ⟨⟨by decide, by decide, lw_w696⟩, List.forall_mem_cons.mpr ⟨⟨by decide, by decide, lw_w697⟩, fun _ h => absurd h List.not_mem_nil⟩⟩) (fun _ h => absurd h List.not_mem_nil) (fun _ h => absurd h List.not_mem_nil)
def mX8_takeLows : ab_M := ([(7, 8, 0), (13, 8, 1), (25, 8, 5)], [], [], 3, 4)
theorem mX8_takeLows_r : ab_rk mX8_takeLows = 3 := rfl
theorem mX8_takeLows_n : ab_nL mX8_takeLows = 4 := rfl
theorem mX8_takeLows_f7 : ab_fl mX8_takeLows 7 = some (8, 0) := rfl
theorem mX8_takeLows_f13 : ab_fl mX8_takeLows 13 = some (8, 1) := rfl
theorem mX8_takeLows_f25 : ab_fl mX8_takeLows 25 = some (8, 5) := rfl
theorem mX8_takeLows_mo : ab_mo mX8_takeLows := fun _ h => absurd h List.not_mem_nil
theorem vX8_takeLows : Cond.code yX8_takeLows cX8_takeLows 4 none ∈ lw_g ∧ Cond.initialized yX8_takeLows.cls ∈ lw_g ∧ (yX8_takeLows.cls ≠ "java/lang/invoke/MethodHandle" ∧ yX8_takeLows.cls ≠ "java/lang/invoke/VarHandle") ∧ (Cond.instanceMethod yX8_takeLows ∈ lw_g ∧ Cond.selects yX8_takeLows.cls yX8_takeLows yX8_takeLows ∈ lw_g) := ⟨lw_w815, lw_w62, by decide +kernel, ⟨lw_w814, lw_w21⟩⟩
theorem cX8_takeLows_met (l : Launch) : ab_Met l yX8_takeLows cX8_takeLows 4 none 0 (ab_sp mX8_takeLows cX8_takeLows) := ab_met (M := mX8_takeLows) (d := 0) (by decide +kernel) (List.forall_mem_cons.mpr ⟨⟨by decide, by decide, lw_w680⟩, List.forall_mem_cons.mpr ⟨⟨by decide, by decide, lw_w681⟩, List.forall_mem_cons.mpr ⟨⟨by decide, by decide, lw_w685⟩, fun _ h => absurd h List.not_mem_nil⟩⟩⟩) (fun _ h => absurd h List.not_mem_nil) (fun _ h => absurd h List.not_mem_nil)
def mX8_takePart : ab_M := ([(7, 8, 0), (13, 8, 1), (22, 8, 4), (56, 8, 16), (165, 8, 17)], [], [], 3, 4)
theorem mX8_takePart_r : ab_rk mX8_takePart = 3 := rfl
theorem mX8_takePart_n : ab_nL mX8_takePart = 4 := rfl
theorem mX8_takePart_f7 : ab_fl mX8_takePart 7 = some (8, 0) := rfl
theorem mX8_takePart_f13 : ab_fl mX8_takePart 13 = some (8, 1) := rfl
theorem mX8_takePart_f22 : ab_fl mX8_takePart 22 = some (8, 4) := rfl
theorem mX8_takePart_f56 : ab_fl mX8_takePart 56 = some (8, 16) := rfl
theorem mX8_takePart_f165 : ab_fl mX8_takePart 165 = some (8, 17) := rfl
theorem mX8_takePart_mo : ab_mo mX8_takePart := fun _ h => absurd h List.not_mem_nil
theorem vX8_takePart : Cond.code yX8_takePart cX8_takePart 4 none ∈ lw_g ∧ Cond.initialized yX8_takePart.cls ∈ lw_g ∧ (yX8_takePart.cls ≠ "java/lang/invoke/MethodHandle" ∧ yX8_takePart.cls ≠ "java/lang/invoke/VarHandle") ∧ (Cond.instanceMethod yX8_takePart ∈ lw_g ∧ Cond.selects yX8_takePart.cls yX8_takePart yX8_takePart ∈ lw_g) := ⟨lw_w1012, lw_w62, by decide +kernel, ⟨lw_w1011, lw_w49⟩⟩
theorem cX8_takePart_met (l : Launch) : ab_Met l yX8_takePart cX8_takePart 4 none 0 (ab_sp mX8_takePart cX8_takePart) := ab_met (M := mX8_takePart) (d := 0) (by decide +kernel) (List.forall_mem_cons.mpr ⟨⟨by decide, by decide, lw_w680⟩, List.forall_mem_cons.mpr ⟨⟨by decide, by decide, lw_w681⟩, List.forall_mem_cons.mpr ⟨⟨by decide, by decide, lw_w684⟩, List.forall_mem_cons.mpr ⟨⟨by decide, by decide, lw_w696⟩, List.forall_mem_cons.mpr ⟨⟨by decide, by decide, lw_w697⟩, fun _ h => absurd h List.not_mem_nil⟩⟩⟩⟩⟩) (fun _ h => absurd h List.not_mem_nil) (fun _ h => absurd h List.not_mem_nil)
def mX8_takeRow : ab_M := ([(7, 8, 0), (13, 8, 1), (56, 8, 16), (165, 8, 17)], [], [], 3, 3)
theorem mX8_takeRow_r : ab_rk mX8_takeRow = 3 := rfl
theorem mX8_takeRow_n : ab_nL mX8_takeRow = 3 := rfl
theorem mX8_takeRow_f7 : ab_fl mX8_takeRow 7 = some (8, 0) := rfl
theorem mX8_takeRow_f13 : ab_fl mX8_takeRow 13 = some (8, 1) := rfl
theorem mX8_takeRow_f56 : ab_fl mX8_takeRow 56 = some (8, 16) := rfl
theorem mX8_takeRow_f165 : ab_fl mX8_takeRow 165 = some (8, 17) := rfl
theorem mX8_takeRow_mo : ab_mo mX8_takeRow := fun _ h => absurd h List.not_mem_nil
theorem vX8_takeRow : Cond.code yX8_takeRow cX8_takeRow 3 none ∈ lw_g ∧ Cond.initialized yX8_takeRow.cls ∈ lw_g ∧ (yX8_takeRow.cls ≠ "java/lang/invoke/MethodHandle" ∧ yX8_takeRow.cls ≠ "java/lang/invoke/VarHandle") ∧ (Cond.instanceMethod yX8_takeRow ∈ lw_g ∧ Cond.selects yX8_takeRow.cls yX8_takeRow yX8_takeRow ∈ lw_g) := ⟨lw_w895, lw_w62, by decide +kernel, ⟨lw_w894, lw_w31⟩⟩
theorem cX8_takeRow_met (l : Launch) : ab_Met l yX8_takeRow cX8_takeRow 3 none 0 (ab_sp mX8_takeRow cX8_takeRow) := ab_met (M := mX8_takeRow) (d := 0) (by decide +kernel) (List.forall_mem_cons.mpr ⟨⟨by decide, by decide, lw_w680⟩, List.forall_mem_cons.mpr ⟨⟨by decide, by decide, lw_w681⟩, List.forall_mem_cons.mpr ⟨⟨by decide, by decide, lw_w696⟩, List.forall_mem_cons.mpr ⟨⟨by decide, by decide, lw_w697⟩, fun _ h => absurd h List.not_mem_nil⟩⟩⟩⟩) (fun _ h => absurd h List.not_mem_nil) (fun _ h => absurd h List.not_mem_nil)
def mX8_topSum : ab_M := ([(56, 8, 16), (165, 8, 17)], [], [], 0, 6)
theorem mX8_topSum_r : ab_rk mX8_topSum = 0 := rfl
theorem mX8_topSum_n : ab_nL mX8_topSum = 6 := rfl
theorem mX8_topSum_f56 : ab_fl mX8_topSum 56 = some (8, 16) := rfl
theorem mX8_topSum_f165 : ab_fl mX8_topSum 165 = some (8, 17) := rfl
theorem mX8_topSum_mo : ab_mo mX8_topSum := fun _ h => absurd h List.not_mem_nil
theorem vX8_topSum : Cond.code yX8_topSum cX8_topSum 6 (some .int) ∈ lw_g ∧ Cond.initialized yX8_topSum.cls ∈ lw_g ∧ (yX8_topSum.cls ≠ "java/lang/invoke/MethodHandle" ∧ yX8_topSum.cls ≠ "java/lang/invoke/VarHandle") ∧ (Cond.instanceMethod yX8_topSum ∈ lw_g ∧ Cond.selects yX8_topSum.cls yX8_topSum yX8_topSum ∈ lw_g) := ⟨lw_w915, lw_w62, by decide +kernel, ⟨lw_w914, lw_w36⟩⟩
theorem cX8_topSum_met (l : Launch) : ab_Met l yX8_topSum cX8_topSum 6 (some .int) 0 (ab_sp mX8_topSum cX8_topSum) := ab_met (M := mX8_topSum) (d := 0) (by decide +kernel) (List.forall_mem_cons.mpr ⟨⟨by decide, by decide, lw_w696⟩, List.forall_mem_cons.mpr ⟨⟨by decide, by decide, lw_w697⟩, fun _ h => absurd h List.not_mem_nil⟩⟩) (fun _ h => absurd h List.not_mem_nil) (fun _ h => absurd h List.not_mem_nil)
def mX8_unband : ab_M := ([(257, 8, 22)], [], [], 0, 2)
theorem mX8_unband_r : ab_rk mX8_unband = 0 := rfl
theorem mX8_unband_n : ab_nL mX8_unband = 2 := rfl
theorem mX8_unband_f257 : ab_fl mX8_unband 257 = some (8, 22) := rfl
theorem mX8_unband_mo : ab_mo mX8_unband := fun _ h => absurd h List.not_mem_nil
theorem vX8_unband : Cond.code yX8_unband cX8_unband 2 (some .int) ∈ lw_g ∧ Cond.initialized yX8_unband.cls ∈ lw_g ∧ (yX8_unband.cls ≠ "java/lang/invoke/MethodHandle" ∧ yX8_unband.cls ≠ "java/lang/invoke/VarHandle") ∧ (Cond.instanceMethod yX8_unband ∈ lw_g ∧ Cond.selects yX8_unband.cls yX8_unband yX8_unband ∈ lw_g) := ⟨lw_w1038, lw_w62, by decide +kernel, ⟨lw_w1036, lw_w1037⟩⟩
theorem cX8_unband_met (l : Launch) : ab_Met l yX8_unband cX8_unband 2 (some .int) 0 (ab_sp mX8_unband cX8_unband) := ab_met (M := mX8_unband) (d := 0) (by decide +kernel) (List.forall_mem_cons.mpr ⟨⟨by decide, by decide, lw_w702⟩, fun _ h => absurd h List.not_mem_nil⟩) (fun _ h => absurd h List.not_mem_nil) (fun _ h => absurd h List.not_mem_nil)
def mX0_note : ab_M := ([(9, 0, 0), (15, 5, 0), (21, 5, 5)], [(24, 3, 0, ab_sp mX7_isWithin cX7_isWithin)], [], 3, 5)
theorem mX0_note_r : ab_rk mX0_note = 3 := rfl
theorem mX0_note_n : ab_nL mX0_note = 5 := rfl
theorem mX0_note_f9 : ab_fl mX0_note 9 = some (0, 0) := rfl
theorem mX0_note_f15 : ab_fl mX0_note 15 = some (5, 0) := rfl
theorem mX0_note_f21 : ab_fl mX0_note 21 = some (5, 5) := rfl
theorem mX0_note_c24 : ab_ml mX0_note 24 = some (3, 0, ab_sp mX7_isWithin cX7_isWithin) := rfl
theorem mX0_note_mo : ab_mo mX0_note := List.forall_mem_cons.mpr ⟨ab_sp_m mX7_isWithin_mo, fun _ h => absurd h List.not_mem_nil⟩
theorem vX0_note : Cond.code yX0_note cX0_note 5 none ∈ lw_g ∧ Cond.initialized yX0_note.cls ∈ lw_g ∧ (yX0_note.cls ≠ "java/lang/invoke/MethodHandle" ∧ yX0_note.cls ≠ "java/lang/invoke/VarHandle") ∧ (Cond.instanceMethod yX0_note ∈ lw_g ∧ Cond.selects yX0_note.cls yX0_note yX0_note ∈ lw_g) := ⟨lw_w557, lw_w60, by decide +kernel, ⟨lw_w555, lw_w556⟩⟩
theorem cX0_note_met (l : Launch) : ab_Met l yX0_note cX0_note 5 none 1 (ab_sp mX0_note cX0_note) := ab_met (M := mX0_note) (d := 1) (by decide +kernel) (List.forall_mem_cons.mpr ⟨⟨by decide, by decide, lw_w183⟩, List.forall_mem_cons.mpr ⟨⟨by decide, by decide, lw_w196⟩, List.forall_mem_cons.mpr ⟨⟨by decide, by decide, lw_w213⟩, fun _ h => absurd h List.not_mem_nil⟩⟩⟩) (fun _ h => absurd h List.not_mem_nil) (List.forall_mem_cons.mpr ⟨Or.inl ⟨yX7_isWithin, cX7_isWithin, 3, (some .boolean), 0, cX7_isWithin_met l, vX7_isWithin.1, vX7_isWithin.2.1, vX7_isWithin.2.2.1, by decide, by decide, by decide +kernel, vX7_isWithin.2.2.2, Or.inr ⟨RX7, fun U h => h.2.2⟩⟩, fun _ h => absurd h List.not_mem_nil⟩)
def mX0_settlingOf : ab_M := ([(9, 0, 0), (28, 5, 1), (31, 5, 2)], [(24, 3, 0, ab_sp mX7_isWithin cX7_isWithin), (38, 1, 0, ab_sp mJ6_bitCount_0f7a4 cJ6_bitCount_0f7a4)], [], 0, 6)
theorem mX0_settlingOf_r : ab_rk mX0_settlingOf = 0 := rfl
theorem mX0_settlingOf_n : ab_nL mX0_settlingOf = 6 := rfl
theorem mX0_settlingOf_f9 : ab_fl mX0_settlingOf 9 = some (0, 0) := rfl
theorem mX0_settlingOf_f28 : ab_fl mX0_settlingOf 28 = some (5, 1) := rfl
theorem mX0_settlingOf_f31 : ab_fl mX0_settlingOf 31 = some (5, 2) := rfl
theorem mX0_settlingOf_c24 : ab_ml mX0_settlingOf 24 = some (3, 0, ab_sp mX7_isWithin cX7_isWithin) := rfl
theorem mX0_settlingOf_c38 : ab_ml mX0_settlingOf 38 = some (1, 0, ab_sp mJ6_bitCount_0f7a4 cJ6_bitCount_0f7a4) := rfl
theorem mX0_settlingOf_mo : ab_mo mX0_settlingOf := List.forall_mem_cons.mpr ⟨ab_sp_m mX7_isWithin_mo, List.forall_mem_cons.mpr ⟨ab_sp_m mJ6_bitCount_0f7a4_mo, fun _ h => absurd h List.not_mem_nil⟩⟩
theorem vX0_settlingOf : Cond.code yX0_settlingOf cX0_settlingOf 6 (some .int) ∈ lw_g ∧ Cond.initialized yX0_settlingOf.cls ∈ lw_g ∧ (yX0_settlingOf.cls ≠ "java/lang/invoke/MethodHandle" ∧ yX0_settlingOf.cls ≠ "java/lang/invoke/VarHandle") ∧ (Cond.instanceMethod yX0_settlingOf ∈ lw_g ∧ Cond.selects yX0_settlingOf.cls yX0_settlingOf yX0_settlingOf ∈ lw_g) := ⟨lw_w566, lw_w60, by decide +kernel, ⟨lw_w565, lw_w12⟩⟩
theorem cX0_settlingOf_met (l : Launch) : ab_Met l yX0_settlingOf cX0_settlingOf 6 (some .int) 1 (ab_sp mX0_settlingOf cX0_settlingOf) := ab_met (M := mX0_settlingOf) (d := 1) (by decide +kernel) (List.forall_mem_cons.mpr ⟨⟨by decide, by decide, lw_w183⟩, List.forall_mem_cons.mpr ⟨⟨by decide, by decide, lw_w202⟩, List.forall_mem_cons.mpr ⟨⟨by decide, by decide, lw_w205⟩, fun _ h => absurd h List.not_mem_nil⟩⟩⟩) (fun _ h => absurd h List.not_mem_nil) (List.forall_mem_cons.mpr ⟨Or.inl ⟨yX7_isWithin, cX7_isWithin, 3, (some .boolean), 0, cX7_isWithin_met l, vX7_isWithin.1, vX7_isWithin.2.1, vX7_isWithin.2.2.1, by decide, by decide, by decide +kernel, vX7_isWithin.2.2.2, Or.inr ⟨RX7, fun U h => h.2.2⟩⟩, List.forall_mem_cons.mpr ⟨Or.inl ⟨yJ6_bitCount_0f7a4, cJ6_bitCount_0f7a4, 1, (some .int), 0, cJ6_bitCount_0f7a4_met l, vJ6_bitCount_0f7a4.1, vJ6_bitCount_0f7a4.2.1, vJ6_bitCount_0f7a4.2.2.1, by decide, by decide, by decide +kernel, vJ6_bitCount_0f7a4.2.2.2, Or.inl lw_w567⟩, fun _ h => absurd h List.not_mem_nil⟩⟩)
def mX1_nextFrom : ab_M := ([(9, 1, 1), (18, 1, 0)], [(26, 2, 0, ab_mi)], [], 0, 4)
theorem mX1_nextFrom_r : ab_rk mX1_nextFrom = 0 := rfl
theorem mX1_nextFrom_n : ab_nL mX1_nextFrom = 4 := rfl
theorem mX1_nextFrom_f9 : ab_fl mX1_nextFrom 9 = some (1, 1) := rfl
theorem mX1_nextFrom_f18 : ab_fl mX1_nextFrom 18 = some (1, 0) := rfl
theorem mX1_nextFrom_c26 : ab_ml mX1_nextFrom 26 = some (2, 0, ab_mi) := rfl
theorem mX1_nextFrom_mo : ab_mo mX1_nextFrom := List.forall_mem_cons.mpr ⟨ab_mi_m, fun _ h => absurd h List.not_mem_nil⟩
theorem vX1_nextFrom : Cond.code yX1_nextFrom cX1_nextFrom 4 (some .int) ∈ lw_g ∧ Cond.initialized yX1_nextFrom.cls ∈ lw_g ∧ (yX1_nextFrom.cls ≠ "java/lang/invoke/MethodHandle" ∧ yX1_nextFrom.cls ≠ "java/lang/invoke/VarHandle") ∧ (Cond.instanceMethod yX1_nextFrom ∈ lw_g ∧ Cond.selects yX1_nextFrom.cls yX1_nextFrom yX1_nextFrom ∈ lw_g) := ⟨lw_w648, lw_w56, by decide +kernel, ⟨lw_w647, lw_w13⟩⟩
theorem cX1_nextFrom_met (l : Launch) : ab_Met l yX1_nextFrom cX1_nextFrom 4 (some .int) 1 (ab_sp mX1_nextFrom cX1_nextFrom) := ab_met (M := mX1_nextFrom) (d := 1) (by decide +kernel) (List.forall_mem_cons.mpr ⟨⟨by decide, by decide, lw_w85⟩, List.forall_mem_cons.mpr ⟨⟨by decide, by decide, lw_w83⟩, fun _ h => absurd h List.not_mem_nil⟩⟩) (fun _ h => absurd h List.not_mem_nil) (List.forall_mem_cons.mpr ⟨Or.inr ⟨rfl, by decide, by decide, lw_mi, (Or.inr (Or.inl ⟨rfl, lw_w649, lw_mn.1, lw_mn.2⟩))⟩, fun _ h => absurd h List.not_mem_nil⟩)
def mX2_mostGroups : ab_M := ([(15, 2, 1), (18, 2, 2), (22, 2, 3)], [(56, 2, 0, ab_mx)], [], 0, 8)
theorem mX2_mostGroups_r : ab_rk mX2_mostGroups = 0 := rfl
theorem mX2_mostGroups_n : ab_nL mX2_mostGroups = 8 := rfl
theorem mX2_mostGroups_f15 : ab_fl mX2_mostGroups 15 = some (2, 1) := rfl
theorem mX2_mostGroups_f18 : ab_fl mX2_mostGroups 18 = some (2, 2) := rfl
theorem mX2_mostGroups_f22 : ab_fl mX2_mostGroups 22 = some (2, 3) := rfl
theorem mX2_mostGroups_c56 : ab_ml mX2_mostGroups 56 = some (2, 0, ab_mx) := rfl
theorem mX2_mostGroups_mo : ab_mo mX2_mostGroups := List.forall_mem_cons.mpr ⟨ab_mx_m, fun _ h => absurd h List.not_mem_nil⟩
theorem vX2_mostGroups : Cond.code yX2_mostGroups cX2_mostGroups 8 (some .int) ∈ lw_g ∧ Cond.initialized yX2_mostGroups.cls ∈ lw_g ∧ (yX2_mostGroups.cls ≠ "java/lang/invoke/MethodHandle" ∧ yX2_mostGroups.cls ≠ "java/lang/invoke/VarHandle") ∧ (Cond.instanceMethod yX2_mostGroups ∈ lw_g ∧ Cond.selects yX2_mostGroups.cls yX2_mostGroups yX2_mostGroups ∈ lw_g) := ⟨lw_w425, lw_w59, by decide +kernel, ⟨lw_w424, lw_w7⟩⟩
theorem cX2_mostGroups_met (l : Launch) : ab_Met l yX2_mostGroups cX2_mostGroups 8 (some .int) 1 (ab_sp mX2_mostGroups cX2_mostGroups) := ab_met (M := mX2_mostGroups) (d := 1) (by decide +kernel) (List.forall_mem_cons.mpr ⟨⟨by decide, by decide, lw_w164⟩, List.forall_mem_cons.mpr ⟨⟨by decide, by decide, lw_w165⟩, List.forall_mem_cons.mpr ⟨⟨by decide, by decide, lw_w166⟩, fun _ h => absurd h List.not_mem_nil⟩⟩⟩) (fun _ h => absurd h List.not_mem_nil) (List.forall_mem_cons.mpr ⟨Or.inr ⟨rfl, by decide, by decide, lw_mi, (Or.inl ⟨rfl, lw_w426, lw_mx.1, lw_mx.2⟩)⟩, fun _ h => absurd h List.not_mem_nil⟩)
def mX2_putDue : ab_M := ([(9, 2, 0), (53, 5, 1)], [(49, 2, 0, ab_sp mX2_placeOf cX2_placeOf)], [], 3, 5)
theorem mX2_putDue_r : ab_rk mX2_putDue = 3 := rfl
theorem mX2_putDue_n : ab_nL mX2_putDue = 5 := rfl
theorem mX2_putDue_f9 : ab_fl mX2_putDue 9 = some (2, 0) := rfl
theorem mX2_putDue_f53 : ab_fl mX2_putDue 53 = some (5, 1) := rfl
theorem mX2_putDue_c49 : ab_ml mX2_putDue 49 = some (2, 0, ab_sp mX2_placeOf cX2_placeOf) := rfl
theorem mX2_putDue_mo : ab_mo mX2_putDue := List.forall_mem_cons.mpr ⟨ab_sp_m mX2_placeOf_mo, fun _ h => absurd h List.not_mem_nil⟩
theorem vX2_putDue : Cond.code yX2_putDue cX2_putDue 5 none ∈ lw_g ∧ Cond.initialized yX2_putDue.cls ∈ lw_g ∧ (yX2_putDue.cls ≠ "java/lang/invoke/MethodHandle" ∧ yX2_putDue.cls ≠ "java/lang/invoke/VarHandle") ∧ (Cond.instanceMethod yX2_putDue ∈ lw_g ∧ Cond.selects yX2_putDue.cls yX2_putDue yX2_putDue ∈ lw_g) := ⟨lw_w414, lw_w59, by decide +kernel, ⟨lw_w413, lw_w5⟩⟩
theorem cX2_putDue_met (l : Launch) : ab_Met l yX2_putDue cX2_putDue 5 none 1 (ab_sp mX2_putDue cX2_putDue) := ab_met (M := mX2_putDue) (d := 1) (by decide +kernel) (List.forall_mem_cons.mpr ⟨⟨by decide, by decide, lw_w163⟩, List.forall_mem_cons.mpr ⟨⟨by decide, by decide, lw_w200⟩, fun _ h => absurd h List.not_mem_nil⟩⟩) (fun _ h => absurd h List.not_mem_nil) (List.forall_mem_cons.mpr ⟨Or.inl ⟨yX2_placeOf, cX2_placeOf, 4, (some .int), 0, cX2_placeOf_met l, vX2_placeOf.1, vX2_placeOf.2.1, vX2_placeOf.2.2.1, by decide, by decide, by decide +kernel, vX2_placeOf.2.2.2, Or.inl lw_w415⟩, fun _ h => absurd h List.not_mem_nil⟩)
def mX3_endOfPiece : ab_M := ([(9, 3, 6), (22, 3, 1), (58, 3, 3), (61, 3, 4)], [(67, 1, 4, ab_sp mX3_isWalked cX3_isWalked)], [], 2, 3)
theorem mX3_endOfPiece_r : ab_rk mX3_endOfPiece = 2 := rfl
theorem mX3_endOfPiece_n : ab_nL mX3_endOfPiece = 3 := rfl
theorem mX3_endOfPiece_f9 : ab_fl mX3_endOfPiece 9 = some (3, 6) := rfl
theorem mX3_endOfPiece_f22 : ab_fl mX3_endOfPiece 22 = some (3, 1) := rfl
theorem mX3_endOfPiece_f58 : ab_fl mX3_endOfPiece 58 = some (3, 3) := rfl
theorem mX3_endOfPiece_f61 : ab_fl mX3_endOfPiece 61 = some (3, 4) := rfl
theorem mX3_endOfPiece_c67 : ab_ml mX3_endOfPiece 67 = some (1, 4, ab_sp mX3_isWalked cX3_isWalked) := rfl
theorem mX3_endOfPiece_mo : ab_mo mX3_endOfPiece := List.forall_mem_cons.mpr ⟨ab_sp_m mX3_isWalked_mo, fun _ h => absurd h List.not_mem_nil⟩
theorem vX3_endOfPiece : Cond.code yX3_endOfPiece cX3_endOfPiece 3 (some .long) ∈ lw_g ∧ Cond.initialized yX3_endOfPiece.cls ∈ lw_g ∧ (yX3_endOfPiece.cls ≠ "java/lang/invoke/MethodHandle" ∧ yX3_endOfPiece.cls ≠ "java/lang/invoke/VarHandle") ∧ (Cond.instanceMethod yX3_endOfPiece ∈ lw_g ∧ Cond.selects yX3_endOfPiece.cls yX3_endOfPiece yX3_endOfPiece ∈ lw_g) := ⟨lw_w351, lw_w58, by decide +kernel, ⟨lw_w349, lw_w350⟩⟩
theorem cX3_endOfPiece_met (l : Launch) : ab_Met l yX3_endOfPiece cX3_endOfPiece 3 (some .long) 1 (ab_sp mX3_endOfPiece cX3_endOfPiece) := ab_met (M := mX3_endOfPiece) (d := 1) (by decide +kernel) (List.forall_mem_cons.mpr ⟨⟨by decide, by decide, lw_w116⟩, List.forall_mem_cons.mpr ⟨⟨by decide, by decide, lw_w109⟩, List.forall_mem_cons.mpr ⟨⟨by decide, by decide, lw_w113⟩, List.forall_mem_cons.mpr ⟨⟨by decide, by decide, lw_w114⟩, fun _ h => absurd h List.not_mem_nil⟩⟩⟩⟩) (fun _ h => absurd h List.not_mem_nil) (List.forall_mem_cons.mpr ⟨Or.inl ⟨yX3_isWalked, cX3_isWalked, 1, (some .boolean), 0, cX3_isWalked_met l, vX3_isWalked.1, vX3_isWalked.2.1, vX3_isWalked.2.2.1, by decide, by decide, by decide +kernel, rfl, by decide, vX3_isWalked.2.2.2.1, vX3_isWalked.2.2.2.2, lw_w352⟩, fun _ h => absurd h List.not_mem_nil⟩)
def mX3_heldByShare : ab_M := ([(9, 3, 6), (15, 3, 7), (18, 3, 0), (22, 3, 1)], [(52, 2, 0, ab_ml2)], [], 2, 10)
theorem mX3_heldByShare_r : ab_rk mX3_heldByShare = 2 := rfl
theorem mX3_heldByShare_n : ab_nL mX3_heldByShare = 10 := rfl
theorem mX3_heldByShare_f9 : ab_fl mX3_heldByShare 9 = some (3, 6) := rfl
theorem mX3_heldByShare_f15 : ab_fl mX3_heldByShare 15 = some (3, 7) := rfl
theorem mX3_heldByShare_f18 : ab_fl mX3_heldByShare 18 = some (3, 0) := rfl
theorem mX3_heldByShare_f22 : ab_fl mX3_heldByShare 22 = some (3, 1) := rfl
theorem mX3_heldByShare_c52 : ab_ml mX3_heldByShare 52 = some (2, 0, ab_ml2) := rfl
theorem mX3_heldByShare_mo : ab_mo mX3_heldByShare := List.forall_mem_cons.mpr ⟨ab_ml2_m, fun _ h => absurd h List.not_mem_nil⟩
theorem vX3_heldByShare : Cond.code yX3_heldByShare cX3_heldByShare 10 (some .long) ∈ lw_g ∧ Cond.initialized yX3_heldByShare.cls ∈ lw_g ∧ (yX3_heldByShare.cls ≠ "java/lang/invoke/MethodHandle" ∧ yX3_heldByShare.cls ≠ "java/lang/invoke/VarHandle") ∧ (Cond.instanceMethod yX3_heldByShare ∈ lw_g ∧ Cond.selects yX3_heldByShare.cls yX3_heldByShare yX3_heldByShare ∈ lw_g) := ⟨lw_w398, lw_w58, by decide +kernel, ⟨lw_w396, lw_w397⟩⟩
theorem cX3_heldByShare_met (l : Launch) : ab_Met l yX3_heldByShare cX3_heldByShare 10 (some .long) 1 (ab_sp mX3_heldByShare cX3_heldByShare) := ab_met (M := mX3_heldByShare) (d := 1) (by decide +kernel) (List.forall_mem_cons.mpr ⟨⟨by decide, by decide, lw_w116⟩, List.forall_mem_cons.mpr ⟨⟨by decide, by decide, lw_w117⟩, List.forall_mem_cons.mpr ⟨⟨by decide, by decide, lw_w107⟩, List.forall_mem_cons.mpr ⟨⟨by decide, by decide, lw_w109⟩, fun _ h => absurd h List.not_mem_nil⟩⟩⟩⟩) (fun _ h => absurd h List.not_mem_nil) (List.forall_mem_cons.mpr ⟨Or.inr ⟨rfl, by decide, by decide, lw_mi, (Or.inr (Or.inr (Or.inr ⟨rfl, lw_w399, lw_ml.1, lw_ml.2⟩)))⟩, fun _ h => absurd h List.not_mem_nil⟩)
def mX3_heldTo : ab_M := ([(15, 3, 7), (58, 3, 3), (61, 3, 4), (64, 3, 5)], [(67, 1, 4, ab_sp mX3_isWalked cX3_isWalked)], [], 2, 7)
theorem mX3_heldTo_r : ab_rk mX3_heldTo = 2 := rfl
theorem mX3_heldTo_n : ab_nL mX3_heldTo = 7 := rfl
theorem mX3_heldTo_f15 : ab_fl mX3_heldTo 15 = some (3, 7) := rfl
theorem mX3_heldTo_f58 : ab_fl mX3_heldTo 58 = some (3, 3) := rfl
theorem mX3_heldTo_f61 : ab_fl mX3_heldTo 61 = some (3, 4) := rfl
theorem mX3_heldTo_f64 : ab_fl mX3_heldTo 64 = some (3, 5) := rfl
theorem mX3_heldTo_c67 : ab_ml mX3_heldTo 67 = some (1, 4, ab_sp mX3_isWalked cX3_isWalked) := rfl
theorem mX3_heldTo_mo : ab_mo mX3_heldTo := List.forall_mem_cons.mpr ⟨ab_sp_m mX3_isWalked_mo, fun _ h => absurd h List.not_mem_nil⟩
theorem vX3_heldTo : Cond.code yX3_heldTo cX3_heldTo 7 (some .long) ∈ lw_g ∧ Cond.initialized yX3_heldTo.cls ∈ lw_g ∧ (yX3_heldTo.cls ≠ "java/lang/invoke/MethodHandle" ∧ yX3_heldTo.cls ≠ "java/lang/invoke/VarHandle") ∧ (Cond.instanceMethod yX3_heldTo ∈ lw_g ∧ Cond.selects yX3_heldTo.cls yX3_heldTo yX3_heldTo ∈ lw_g) := ⟨lw_w359, lw_w58, by decide +kernel, ⟨lw_w357, lw_w358⟩⟩
theorem cX3_heldTo_met (l : Launch) : ab_Met l yX3_heldTo cX3_heldTo 7 (some .long) 1 (ab_sp mX3_heldTo cX3_heldTo) := ab_met (M := mX3_heldTo) (d := 1) (by decide +kernel) (List.forall_mem_cons.mpr ⟨⟨by decide, by decide, lw_w117⟩, List.forall_mem_cons.mpr ⟨⟨by decide, by decide, lw_w113⟩, List.forall_mem_cons.mpr ⟨⟨by decide, by decide, lw_w114⟩, List.forall_mem_cons.mpr ⟨⟨by decide, by decide, lw_w115⟩, fun _ h => absurd h List.not_mem_nil⟩⟩⟩⟩) (fun _ h => absurd h List.not_mem_nil) (List.forall_mem_cons.mpr ⟨Or.inl ⟨yX3_isWalked, cX3_isWalked, 1, (some .boolean), 0, cX3_isWalked_met l, vX3_isWalked.1, vX3_isWalked.2.1, vX3_isWalked.2.2.1, by decide, by decide, by decide +kernel, rfl, by decide, vX3_isWalked.2.2.2.1, vX3_isWalked.2.2.2.2, lw_w352⟩, fun _ h => absurd h List.not_mem_nil⟩)
def mX3_leavePiece : ab_M := ([(9, 3, 6), (15, 3, 7), (58, 3, 3), (61, 3, 4), (64, 3, 5)], [(67, 1, 4, ab_sp mX3_isWalked cX3_isWalked)], [], 3, 1)
theorem mX3_leavePiece_r : ab_rk mX3_leavePiece = 3 := rfl
theorem mX3_leavePiece_n : ab_nL mX3_leavePiece = 1 := rfl
theorem mX3_leavePiece_f9 : ab_fl mX3_leavePiece 9 = some (3, 6) := rfl
theorem mX3_leavePiece_f15 : ab_fl mX3_leavePiece 15 = some (3, 7) := rfl
theorem mX3_leavePiece_f58 : ab_fl mX3_leavePiece 58 = some (3, 3) := rfl
theorem mX3_leavePiece_f61 : ab_fl mX3_leavePiece 61 = some (3, 4) := rfl
theorem mX3_leavePiece_f64 : ab_fl mX3_leavePiece 64 = some (3, 5) := rfl
theorem mX3_leavePiece_c67 : ab_ml mX3_leavePiece 67 = some (1, 4, ab_sp mX3_isWalked cX3_isWalked) := rfl
theorem mX3_leavePiece_mo : ab_mo mX3_leavePiece := List.forall_mem_cons.mpr ⟨ab_sp_m mX3_isWalked_mo, fun _ h => absurd h List.not_mem_nil⟩
theorem vX3_leavePiece : Cond.code yX3_leavePiece cX3_leavePiece 1 none ∈ lw_g ∧ Cond.initialized yX3_leavePiece.cls ∈ lw_g ∧ (yX3_leavePiece.cls ≠ "java/lang/invoke/MethodHandle" ∧ yX3_leavePiece.cls ≠ "java/lang/invoke/VarHandle") ∧ (Cond.instanceMethod yX3_leavePiece ∈ lw_g ∧ Cond.selects yX3_leavePiece.cls yX3_leavePiece yX3_leavePiece ∈ lw_g) := ⟨lw_w366, lw_w58, by decide +kernel, ⟨lw_w364, lw_w365⟩⟩
theorem cX3_leavePiece_met (l : Launch) : ab_Met l yX3_leavePiece cX3_leavePiece 1 none 1 (ab_sp mX3_leavePiece cX3_leavePiece) := ab_met (M := mX3_leavePiece) (d := 1) (by decide +kernel) (List.forall_mem_cons.mpr ⟨⟨by decide, by decide, lw_w116⟩, List.forall_mem_cons.mpr ⟨⟨by decide, by decide, lw_w117⟩, List.forall_mem_cons.mpr ⟨⟨by decide, by decide, lw_w113⟩, List.forall_mem_cons.mpr ⟨⟨by decide, by decide, lw_w114⟩, List.forall_mem_cons.mpr ⟨⟨by decide, by decide, lw_w115⟩, fun _ h => absurd h List.not_mem_nil⟩⟩⟩⟩⟩) (fun _ h => absurd h List.not_mem_nil) (List.forall_mem_cons.mpr ⟨Or.inl ⟨yX3_isWalked, cX3_isWalked, 1, (some .boolean), 0, cX3_isWalked_met l, vX3_isWalked.1, vX3_isWalked.2.1, vX3_isWalked.2.2.1, by decide, by decide, by decide +kernel, rfl, by decide, vX3_isWalked.2.2.2.1, vX3_isWalked.2.2.2.2, lw_w352⟩, fun _ h => absurd h List.not_mem_nil⟩)
def mX3_look : ab_M := ([(18, 3, 0), (22, 3, 1), (26, 3, 2), (29, 5, 0), (38, 5, 3)], [(34, 3, 0, ab_sp mX3_headHas cX3_headHas), (42, 3, 4, ab_sp mX3_insert cX3_insert), (46, 1, 4, ab_sp mX3_giveEachOne cX3_giveEachOne)], [], 3, 5)
theorem mX3_look_r : ab_rk mX3_look = 3 := rfl
theorem mX3_look_n : ab_nL mX3_look = 5 := rfl
theorem mX3_look_f18 : ab_fl mX3_look 18 = some (3, 0) := rfl
theorem mX3_look_f22 : ab_fl mX3_look 22 = some (3, 1) := rfl
theorem mX3_look_f26 : ab_fl mX3_look 26 = some (3, 2) := rfl
theorem mX3_look_f29 : ab_fl mX3_look 29 = some (5, 0) := rfl
theorem mX3_look_f38 : ab_fl mX3_look 38 = some (5, 3) := rfl
theorem mX3_look_c34 : ab_ml mX3_look 34 = some (3, 0, ab_sp mX3_headHas cX3_headHas) := rfl
theorem mX3_look_c42 : ab_ml mX3_look 42 = some (3, 4, ab_sp mX3_insert cX3_insert) := rfl
theorem mX3_look_c46 : ab_ml mX3_look 46 = some (1, 4, ab_sp mX3_giveEachOne cX3_giveEachOne) := rfl
theorem mX3_look_mo : ab_mo mX3_look := List.forall_mem_cons.mpr ⟨ab_sp_m mX3_headHas_mo, List.forall_mem_cons.mpr ⟨ab_sp_m mX3_insert_mo, List.forall_mem_cons.mpr ⟨ab_sp_m mX3_giveEachOne_mo, fun _ h => absurd h List.not_mem_nil⟩⟩⟩
theorem vX3_look : Cond.code yX3_look cX3_look 5 none ∈ lw_g ∧ Cond.initialized yX3_look.cls ∈ lw_g ∧ (yX3_look.cls ≠ "java/lang/invoke/MethodHandle" ∧ yX3_look.cls ≠ "java/lang/invoke/VarHandle") ∧ (Cond.instanceMethod yX3_look ∈ lw_g ∧ Cond.selects yX3_look.cls yX3_look yX3_look ∈ lw_g) := ⟨lw_w316, lw_w58, by decide +kernel, ⟨lw_w314, lw_w315⟩⟩
theorem cX3_look_met (l : Launch) : ab_Met l yX3_look cX3_look 5 none 1 (ab_sp mX3_look cX3_look) := ab_met (M := mX3_look) (d := 1) (by decide +kernel) (List.forall_mem_cons.mpr ⟨⟨by decide, by decide, lw_w107⟩, List.forall_mem_cons.mpr ⟨⟨by decide, by decide, lw_w109⟩, List.forall_mem_cons.mpr ⟨⟨by decide, by decide, lw_w110⟩, List.forall_mem_cons.mpr ⟨⟨by decide, by decide, lw_w194⟩, List.forall_mem_cons.mpr ⟨⟨by decide, by decide, lw_w207⟩, fun _ h => absurd h List.not_mem_nil⟩⟩⟩⟩⟩) (fun _ h => absurd h List.not_mem_nil) (List.forall_mem_cons.mpr ⟨Or.inl ⟨yX3_headHas, cX3_headHas, 4, (some .long), 0, cX3_headHas_met l, vX3_headHas.1, vX3_headHas.2.1, vX3_headHas.2.2.1, by decide, by decide, by decide +kernel, vX3_headHas.2.2.2, Or.inl lw_w317⟩, List.forall_mem_cons.mpr ⟨Or.inl ⟨yX3_insert, cX3_insert, 6, none, 0, cX3_insert_met l, vX3_insert.1, vX3_insert.2.1, vX3_insert.2.2.1, by decide, by decide, by decide +kernel, rfl, by decide, vX3_insert.2.2.2.1, vX3_insert.2.2.2.2, lw_w320⟩, List.forall_mem_cons.mpr ⟨Or.inl ⟨yX3_giveEachOne, cX3_giveEachOne, 2, none, 0, cX3_giveEachOne_met l, vX3_giveEachOne.1, vX3_giveEachOne.2.1, vX3_giveEachOne.2.2.1, by decide, by decide, by decide +kernel, rfl, by decide, vX3_giveEachOne.2.2.2.1, vX3_giveEachOne.2.2.2.2, lw_w324⟩, fun _ h => absurd h List.not_mem_nil⟩⟩⟩)
