theorem lw_mi : Cond.initialized "java/lang/Math" ∈ lw_g := by decide +kernel
theorem lw_mx : Cond.static Lib.Math.max.name ∈ lw_g ∧ Cond.code Lib.Math.max.name Lib.Math.max.code 2 (some .int) ∈ lw_g := by decide +kernel
theorem lw_mn : Cond.static Lib.Math.min.name ∈ lw_g ∧ Cond.code Lib.Math.min.name Lib.Math.min.code 2 (some .int) ∈ lw_g := by decide +kernel
theorem lw_mb : Cond.static Lib.Math.abs.name ∈ lw_g ∧ Cond.code Lib.Math.abs.name Lib.Math.abs.code 1 (some .int) ∈ lw_g := by decide +kernel
theorem lw_ml : Cond.static Lib.MathLoose.min_long.x ∈ lw_g ∧ Cond.code Lib.MathLoose.min_long.x Lib.MathLoose.min_long.code 4 (some .long) ∈ lw_g := by decide +kernel
def mJ13_compare_74951 : ab_M := ([], [], [], 0, 4)
theorem mJ13_compare_74951_r : ab_rk mJ13_compare_74951 = 0 := rfl
theorem mJ13_compare_74951_n : ab_nL mJ13_compare_74951 = 4 := rfl
theorem mJ13_compare_74951_mo : ab_mo mJ13_compare_74951 := fun _ h => absurd h List.not_mem_nil
theorem vJ13_compare_74951 : Cond.code yJ13_compare_74951 cJ13_compare_74951 4 (some .int) ∈ lw_g ∧ Cond.initialized yJ13_compare_74951.cls ∈ lw_g ∧ (yJ13_compare_74951.cls ≠ "java/lang/invoke/MethodHandle" ∧ yJ13_compare_74951.cls ≠ "java/lang/invoke/VarHandle") ∧ Cond.static yJ13_compare_74951 ∈ lw_g := ⟨lw_w362, lw_w64, by decide +kernel, lw_w361⟩
theorem cJ13_compare_74951_met (l : Launch) : ab_Met l yJ13_compare_74951 cJ13_compare_74951 4 (some .int) 0 (ab_sp mJ13_compare_74951 cJ13_compare_74951) := ab_met (M := mJ13_compare_74951) (d := 0) (by decide +kernel) (fun _ h => absurd h List.not_mem_nil) (fun _ h => absurd h List.not_mem_nil) (fun _ h => absurd h List.not_mem_nil)
def mJ6_bitCount_0f7a4 : ab_M := ([], [], [(265, .inl (1431655765)), (266, .inl (858993459)), (267, .inl (252645135))], 0, 1)
theorem mJ6_bitCount_0f7a4_r : ab_rk mJ6_bitCount_0f7a4 = 0 := rfl
theorem mJ6_bitCount_0f7a4_n : ab_nL mJ6_bitCount_0f7a4 = 1 := rfl
theorem mJ6_bitCount_0f7a4_k265 : ab_kl mJ6_bitCount_0f7a4 265 = some (.inl (1431655765)) := rfl
theorem mJ6_bitCount_0f7a4_k266 : ab_kl mJ6_bitCount_0f7a4 266 = some (.inl (858993459)) := rfl
theorem mJ6_bitCount_0f7a4_k267 : ab_kl mJ6_bitCount_0f7a4 267 = some (.inl (252645135)) := rfl
theorem mJ6_bitCount_0f7a4_mo : ab_mo mJ6_bitCount_0f7a4 := fun _ h => absurd h List.not_mem_nil
theorem vJ6_bitCount_0f7a4 : Cond.code yJ6_bitCount_0f7a4 cJ6_bitCount_0f7a4 1 (some .int) ∈ lw_g ∧ Cond.initialized yJ6_bitCount_0f7a4.cls ∈ lw_g ∧ (yJ6_bitCount_0f7a4.cls ≠ "java/lang/invoke/MethodHandle" ∧ yJ6_bitCount_0f7a4.cls ≠ "java/lang/invoke/VarHandle") ∧ Cond.static yJ6_bitCount_0f7a4 ∈ lw_g := ⟨lw_w569, lw_w66, by decide +kernel, lw_w568⟩
theorem cJ6_bitCount_0f7a4_met (l : Launch) : ab_Met l yJ6_bitCount_0f7a4 cJ6_bitCount_0f7a4 1 (some .int) 0 (ab_sp mJ6_bitCount_0f7a4 cJ6_bitCount_0f7a4) := ab_met (M := mJ6_bitCount_0f7a4) (d := 0) (by decide +kernel) (fun _ h => absurd h List.not_mem_nil) (List.forall_mem_cons.mpr ⟨lw_w570, List.forall_mem_cons.mpr ⟨lw_w571, List.forall_mem_cons.mpr ⟨lw_w572, fun _ h => absurd h List.not_mem_nil⟩⟩⟩) (fun _ h => absurd h List.not_mem_nil)
def mJ6_compare_7cf53 : ab_M := ([], [], [], 0, 2)
theorem mJ6_compare_7cf53_r : ab_rk mJ6_compare_7cf53 = 0 := rfl
theorem mJ6_compare_7cf53_n : ab_nL mJ6_compare_7cf53 = 2 := rfl
theorem mJ6_compare_7cf53_mo : ab_mo mJ6_compare_7cf53 := fun _ h => absurd h List.not_mem_nil
theorem vJ6_compare_7cf53 : Cond.code yJ6_compare_7cf53 cJ6_compare_7cf53 2 (some .int) ∈ lw_g ∧ Cond.initialized yJ6_compare_7cf53.cls ∈ lw_g ∧ (yJ6_compare_7cf53.cls ≠ "java/lang/invoke/MethodHandle" ∧ yJ6_compare_7cf53.cls ≠ "java/lang/invoke/VarHandle") ∧ Cond.static yJ6_compare_7cf53 ∈ lw_g := ⟨lw_w620, lw_w66, by decide +kernel, lw_w619⟩
theorem cJ6_compare_7cf53_met (l : Launch) : ab_Met l yJ6_compare_7cf53 cJ6_compare_7cf53 2 (some .int) 0 (ab_sp mJ6_compare_7cf53 cJ6_compare_7cf53) := ab_met (M := mJ6_compare_7cf53) (d := 0) (by decide +kernel) (fun _ h => absurd h List.not_mem_nil) (fun _ h => absurd h List.not_mem_nil) (fun _ h => absurd h List.not_mem_nil)
def mX0_forget : ab_M := ([(9, 0, 0)], [], [], 3, 2)
theorem mX0_forget_r : ab_rk mX0_forget = 3 := rfl
theorem mX0_forget_n : ab_nL mX0_forget = 2 := rfl
theorem mX0_forget_f9 : ab_fl mX0_forget 9 = some (0, 0) := rfl
theorem mX0_forget_mo : ab_mo mX0_forget := fun _ h => absurd h List.not_mem_nil
theorem vX0_forget : Cond.code yX0_forget cX0_forget 2 none ∈ lw_g ∧ Cond.initialized yX0_forget.cls ∈ lw_g ∧ (yX0_forget.cls ≠ "java/lang/invoke/MethodHandle" ∧ yX0_forget.cls ≠ "java/lang/invoke/VarHandle") ∧ (Cond.instanceMethod yX0_forget ∈ lw_g ∧ Cond.selects yX0_forget.cls yX0_forget yX0_forget ∈ lw_g) := ⟨lw_w549, lw_w60, by decide +kernel, ⟨lw_w547, lw_w548⟩⟩
theorem cX0_forget_met (l : Launch) : ab_Met l yX0_forget cX0_forget 2 none 0 (ab_sp mX0_forget cX0_forget) := ab_met (M := mX0_forget) (d := 0) (by decide +kernel) (List.forall_mem_cons.mpr ⟨⟨by decide, by decide, lw_w183⟩, fun _ h => absurd h List.not_mem_nil⟩) (fun _ h => absurd h List.not_mem_nil) (fun _ h => absurd h List.not_mem_nil)
def mX1_add : ab_M := ([(9, 1, 1), (15, 1, 2), (18, 1, 0)], [], [], 3, 3)
theorem mX1_add_r : ab_rk mX1_add = 3 := rfl
theorem mX1_add_n : ab_nL mX1_add = 3 := rfl
theorem mX1_add_f9 : ab_fl mX1_add 9 = some (1, 1) := rfl
theorem mX1_add_f15 : ab_fl mX1_add 15 = some (1, 2) := rfl
theorem mX1_add_f18 : ab_fl mX1_add 18 = some (1, 0) := rfl
theorem mX1_add_mo : ab_mo mX1_add := fun _ h => absurd h List.not_mem_nil
theorem vX1_add : Cond.code yX1_add cX1_add 3 none ∈ lw_g ∧ Cond.initialized yX1_add.cls ∈ lw_g ∧ (yX1_add.cls ≠ "java/lang/invoke/MethodHandle" ∧ yX1_add.cls ≠ "java/lang/invoke/VarHandle") ∧ (Cond.instanceMethod yX1_add ∈ lw_g ∧ Cond.selects yX1_add.cls yX1_add yX1_add ∈ lw_g) := ⟨lw_w632, lw_w56, by decide +kernel, ⟨lw_w630, lw_w631⟩⟩
theorem cX1_add_met (l : Launch) : ab_Met l yX1_add cX1_add 3 none 0 (ab_sp mX1_add cX1_add) := ab_met (M := mX1_add) (d := 0) (by decide +kernel) (List.forall_mem_cons.mpr ⟨⟨by decide, by decide, lw_w85⟩, List.forall_mem_cons.mpr ⟨⟨by decide, by decide, lw_w86⟩, List.forall_mem_cons.mpr ⟨⟨by decide, by decide, lw_w83⟩, fun _ h => absurd h List.not_mem_nil⟩⟩⟩) (fun _ h => absurd h List.not_mem_nil) (fun _ h => absurd h List.not_mem_nil)
def mX1_isToldAgain : ab_M := ([(9, 1, 1), (18, 1, 0)], [], [], 1, 3)
theorem mX1_isToldAgain_r : ab_rk mX1_isToldAgain = 1 := rfl
theorem mX1_isToldAgain_n : ab_nL mX1_isToldAgain = 3 := rfl
theorem mX1_isToldAgain_f9 : ab_fl mX1_isToldAgain 9 = some (1, 1) := rfl
theorem mX1_isToldAgain_f18 : ab_fl mX1_isToldAgain 18 = some (1, 0) := rfl
theorem mX1_isToldAgain_mo : ab_mo mX1_isToldAgain := fun _ h => absurd h List.not_mem_nil
theorem vX1_isToldAgain : Cond.code yX1_isToldAgain cX1_isToldAgain 3 (some .boolean) ∈ lw_g ∧ Cond.initialized yX1_isToldAgain.cls ∈ lw_g ∧ (yX1_isToldAgain.cls ≠ "java/lang/invoke/MethodHandle" ∧ yX1_isToldAgain.cls ≠ "java/lang/invoke/VarHandle") ∧ (Cond.instanceMethod yX1_isToldAgain ∈ lw_g ∧ Cond.selects yX1_isToldAgain.cls yX1_isToldAgain yX1_isToldAgain ∈ lw_g) := ⟨lw_w653, lw_w56, by decide +kernel, ⟨lw_w652, lw_w14⟩⟩
theorem cX1_isToldAgain_met (l : Launch) : ab_Met l yX1_isToldAgain cX1_isToldAgain 3 (some .boolean) 0 (ab_sp mX1_isToldAgain cX1_isToldAgain) := ab_met (M := mX1_isToldAgain) (d := 0) (by decide +kernel) (List.forall_mem_cons.mpr ⟨⟨by decide, by decide, lw_w85⟩, List.forall_mem_cons.mpr ⟨⟨by decide, by decide, lw_w83⟩, fun _ h => absurd h List.not_mem_nil⟩⟩) (fun _ h => absurd h List.not_mem_nil) (fun _ h => absurd h List.not_mem_nil)
def mX2_findSums : ab_M := ([(9, 2, 0), (15, 2, 1), (18, 2, 2)], [], [], 3, 5)
theorem mX2_findSums_r : ab_rk mX2_findSums = 3 := rfl
theorem mX2_findSums_n : ab_nL mX2_findSums = 5 := rfl
theorem mX2_findSums_f9 : ab_fl mX2_findSums 9 = some (2, 0) := rfl
theorem mX2_findSums_f15 : ab_fl mX2_findSums 15 = some (2, 1) := rfl
theorem mX2_findSums_f18 : ab_fl mX2_findSums 18 = some (2, 2) := rfl
theorem mX2_findSums_mo : ab_mo mX2_findSums := fun _ h => absurd h List.not_mem_nil
theorem vX2_findSums : Cond.code yX2_findSums cX2_findSums 5 none ∈ lw_g ∧ Cond.initialized yX2_findSums.cls ∈ lw_g ∧ (yX2_findSums.cls ≠ "java/lang/invoke/MethodHandle" ∧ yX2_findSums.cls ≠ "java/lang/invoke/VarHandle") ∧ (Cond.instanceMethod yX2_findSums ∈ lw_g ∧ Cond.selects yX2_findSums.cls yX2_findSums yX2_findSums ∈ lw_g) := ⟨lw_w421, lw_w59, by decide +kernel, ⟨lw_w420, lw_w6⟩⟩
theorem cX2_findSums_met (l : Launch) : ab_Met l yX2_findSums cX2_findSums 5 none 0 (ab_sp mX2_findSums cX2_findSums) := ab_met (M := mX2_findSums) (d := 0) (by decide +kernel) (List.forall_mem_cons.mpr ⟨⟨by decide, by decide, lw_w163⟩, List.forall_mem_cons.mpr ⟨⟨by decide, by decide, lw_w164⟩, List.forall_mem_cons.mpr ⟨⟨by decide, by decide, lw_w165⟩, fun _ h => absurd h List.not_mem_nil⟩⟩⟩) (fun _ h => absurd h List.not_mem_nil) (fun _ h => absurd h List.not_mem_nil)
def mX2_placeOf : ab_M := ([(25, 5, 0), (53, 5, 1)], [], [], 0, 4)
theorem mX2_placeOf_r : ab_rk mX2_placeOf = 0 := rfl
theorem mX2_placeOf_n : ab_nL mX2_placeOf = 4 := rfl
theorem mX2_placeOf_f25 : ab_fl mX2_placeOf 25 = some (5, 0) := rfl
theorem mX2_placeOf_f53 : ab_fl mX2_placeOf 53 = some (5, 1) := rfl
theorem mX2_placeOf_mo : ab_mo mX2_placeOf := fun _ h => absurd h List.not_mem_nil
theorem vX2_placeOf : Cond.code yX2_placeOf cX2_placeOf 4 (some .int) ∈ lw_g ∧ Cond.initialized yX2_placeOf.cls ∈ lw_g ∧ (yX2_placeOf.cls ≠ "java/lang/invoke/MethodHandle" ∧ yX2_placeOf.cls ≠ "java/lang/invoke/VarHandle") ∧ Cond.static yX2_placeOf ∈ lw_g := ⟨lw_w417, lw_w59, by decide +kernel, lw_w416⟩
theorem cX2_placeOf_met (l : Launch) : ab_Met l yX2_placeOf cX2_placeOf 4 (some .int) 0 (ab_sp mX2_placeOf cX2_placeOf) := ab_met (M := mX2_placeOf) (d := 0) (by decide +kernel) (List.forall_mem_cons.mpr ⟨⟨by decide, by decide, lw_w192⟩, List.forall_mem_cons.mpr ⟨⟨by decide, by decide, lw_w200⟩, fun _ h => absurd h List.not_mem_nil⟩⟩) (fun _ h => absurd h List.not_mem_nil) (fun _ h => absurd h List.not_mem_nil)
def mX3_giveEachOne : ab_M := ([(15, 3, 7), (18, 3, 0), (22, 3, 1), (26, 3, 2)], [], [], 3, 2)
theorem mX3_giveEachOne_r : ab_rk mX3_giveEachOne = 3 := rfl
theorem mX3_giveEachOne_n : ab_nL mX3_giveEachOne = 2 := rfl
theorem mX3_giveEachOne_f15 : ab_fl mX3_giveEachOne 15 = some (3, 7) := rfl
theorem mX3_giveEachOne_f18 : ab_fl mX3_giveEachOne 18 = some (3, 0) := rfl
theorem mX3_giveEachOne_f22 : ab_fl mX3_giveEachOne 22 = some (3, 1) := rfl
theorem mX3_giveEachOne_f26 : ab_fl mX3_giveEachOne 26 = some (3, 2) := rfl
theorem mX3_giveEachOne_mo : ab_mo mX3_giveEachOne := fun _ h => absurd h List.not_mem_nil
theorem vX3_giveEachOne : Cond.code yX3_giveEachOne cX3_giveEachOne 2 none ∈ lw_g ∧ Cond.initialized yX3_giveEachOne.cls ∈ lw_g ∧ (yX3_giveEachOne.cls ≠ "java/lang/invoke/MethodHandle" ∧ yX3_giveEachOne.cls ≠ "java/lang/invoke/VarHandle") ∧ (Cond.instanceMethod yX3_giveEachOne ∈ lw_g ∧ Cond.selects yX3_giveEachOne.cls yX3_giveEachOne yX3_giveEachOne ∈ lw_g) := ⟨lw_w327, lw_w58, by decide +kernel, ⟨lw_w326, lw_w2⟩⟩
theorem cX3_giveEachOne_met (l : Launch) : ab_Met l yX3_giveEachOne cX3_giveEachOne 2 none 0 (ab_sp mX3_giveEachOne cX3_giveEachOne) := ab_met (M := mX3_giveEachOne) (d := 0) (by decide +kernel) (List.forall_mem_cons.mpr ⟨⟨by decide, by decide, lw_w117⟩, List.forall_mem_cons.mpr ⟨⟨by decide, by decide, lw_w107⟩, List.forall_mem_cons.mpr ⟨⟨by decide, by decide, lw_w109⟩, List.forall_mem_cons.mpr ⟨⟨by decide, by decide, lw_w110⟩, fun _ h => absurd h List.not_mem_nil⟩⟩⟩⟩) (fun _ h => absurd h List.not_mem_nil) (fun _ h => absurd h List.not_mem_nil)
def mX3_headHas : ab_M := ([(38, 5, 3), (49, 5, 5)], [], [], 2, 4)
theorem mX3_headHas_r : ab_rk mX3_headHas = 2 := rfl
theorem mX3_headHas_n : ab_nL mX3_headHas = 4 := rfl
theorem mX3_headHas_f38 : ab_fl mX3_headHas 38 = some (5, 3) := rfl
theorem mX3_headHas_f49 : ab_fl mX3_headHas 49 = some (5, 5) := rfl
theorem mX3_headHas_mo : ab_mo mX3_headHas := fun _ h => absurd h List.not_mem_nil
theorem vX3_headHas : Cond.code yX3_headHas cX3_headHas 4 (some .long) ∈ lw_g ∧ Cond.initialized yX3_headHas.cls ∈ lw_g ∧ (yX3_headHas.cls ≠ "java/lang/invoke/MethodHandle" ∧ yX3_headHas.cls ≠ "java/lang/invoke/VarHandle") ∧ Cond.static yX3_headHas ∈ lw_g := ⟨lw_w319, lw_w58, by decide +kernel, lw_w318⟩
theorem cX3_headHas_met (l : Launch) : ab_Met l yX3_headHas cX3_headHas 4 (some .long) 0 (ab_sp mX3_headHas cX3_headHas) := ab_met (M := mX3_headHas) (d := 0) (by decide +kernel) (List.forall_mem_cons.mpr ⟨⟨by decide, by decide, lw_w207⟩, List.forall_mem_cons.mpr ⟨⟨by decide, by decide, lw_w212⟩, fun _ h => absurd h List.not_mem_nil⟩⟩) (fun _ h => absurd h List.not_mem_nil) (fun _ h => absurd h List.not_mem_nil)
def mX3_insert : ab_M := ([(9, 3, 6), (15, 3, 7), (18, 3, 0), (22, 3, 1), (26, 3, 2)], [], [], 3, 6)
theorem mX3_insert_r : ab_rk mX3_insert = 3 := rfl
theorem mX3_insert_n : ab_nL mX3_insert = 6 := rfl
theorem mX3_insert_f9 : ab_fl mX3_insert 9 = some (3, 6) := rfl
theorem mX3_insert_f15 : ab_fl mX3_insert 15 = some (3, 7) := rfl
theorem mX3_insert_f18 : ab_fl mX3_insert 18 = some (3, 0) := rfl
theorem mX3_insert_f22 : ab_fl mX3_insert 22 = some (3, 1) := rfl
theorem mX3_insert_f26 : ab_fl mX3_insert 26 = some (3, 2) := rfl
theorem mX3_insert_mo : ab_mo mX3_insert := fun _ h => absurd h List.not_mem_nil
theorem vX3_insert : Cond.code yX3_insert cX3_insert 6 none ∈ lw_g ∧ Cond.initialized yX3_insert.cls ∈ lw_g ∧ (yX3_insert.cls ≠ "java/lang/invoke/MethodHandle" ∧ yX3_insert.cls ≠ "java/lang/invoke/VarHandle") ∧ (Cond.instanceMethod yX3_insert ∈ lw_g ∧ Cond.selects yX3_insert.cls yX3_insert yX3_insert ∈ lw_g) := ⟨lw_w323, lw_w58, by decide +kernel, ⟨lw_w322, lw_w1⟩⟩
theorem cX3_insert_met (l : Launch) : ab_Met l yX3_insert cX3_insert 6 none 0 (ab_sp mX3_insert cX3_insert) := ab_met (M := mX3_insert) (d := 0) (by decide +kernel) (List.forall_mem_cons.mpr ⟨⟨by decide, by decide, lw_w116⟩, List.forall_mem_cons.mpr ⟨⟨by decide, by decide, lw_w117⟩, List.forall_mem_cons.mpr ⟨⟨by decide, by decide, lw_w107⟩, List.forall_mem_cons.mpr ⟨⟨by decide, by decide, lw_w109⟩, List.forall_mem_cons.mpr ⟨⟨by decide, by decide, lw_w110⟩, fun _ h => absurd h List.not_mem_nil⟩⟩⟩⟩⟩) (fun _ h => absurd h List.not_mem_nil) (fun _ h => absurd h List.not_mem_nil)
def mX3_isWalked : ab_M := ([(18, 3, 0), (58, 3, 3)], [], [], 1, 1)
theorem mX3_isWalked_r : ab_rk mX3_isWalked = 1 := rfl
theorem mX3_isWalked_n : ab_nL mX3_isWalked = 1 := rfl
theorem mX3_isWalked_f18 : ab_fl mX3_isWalked 18 = some (3, 0) := rfl
theorem mX3_isWalked_f58 : ab_fl mX3_isWalked 58 = some (3, 3) := rfl
theorem mX3_isWalked_mo : ab_mo mX3_isWalked := fun _ h => absurd h List.not_mem_nil
theorem vX3_isWalked : Cond.code yX3_isWalked cX3_isWalked 1 (some .boolean) ∈ lw_g ∧ Cond.initialized yX3_isWalked.cls ∈ lw_g ∧ (yX3_isWalked.cls ≠ "java/lang/invoke/MethodHandle" ∧ yX3_isWalked.cls ≠ "java/lang/invoke/VarHandle") ∧ (Cond.instanceMethod yX3_isWalked ∈ lw_g ∧ Cond.selects yX3_isWalked.cls yX3_isWalked yX3_isWalked ∈ lw_g) := ⟨lw_w347, lw_w58, by decide +kernel, ⟨lw_w345, lw_w346⟩⟩
theorem cX3_isWalked_met (l : Launch) : ab_Met l yX3_isWalked cX3_isWalked 1 (some .boolean) 0 (ab_sp mX3_isWalked cX3_isWalked) := ab_met (M := mX3_isWalked) (d := 0) (by decide +kernel) (List.forall_mem_cons.mpr ⟨⟨by decide, by decide, lw_w107⟩, List.forall_mem_cons.mpr ⟨⟨by decide, by decide, lw_w113⟩, fun _ h => absurd h List.not_mem_nil⟩⟩) (fun _ h => absurd h List.not_mem_nil) (fun _ h => absurd h List.not_mem_nil)
def mX3_rewind : ab_M := ([(58, 3, 3), (61, 3, 4), (64, 3, 5)], [], [], 3, 1)
theorem mX3_rewind_r : ab_rk mX3_rewind = 3 := rfl
theorem mX3_rewind_n : ab_nL mX3_rewind = 1 := rfl
theorem mX3_rewind_f58 : ab_fl mX3_rewind 58 = some (3, 3) := rfl
theorem mX3_rewind_f61 : ab_fl mX3_rewind 61 = some (3, 4) := rfl
theorem mX3_rewind_f64 : ab_fl mX3_rewind 64 = some (3, 5) := rfl
theorem mX3_rewind_mo : ab_mo mX3_rewind := fun _ h => absurd h List.not_mem_nil
theorem vX3_rewind : Cond.code yX3_rewind cX3_rewind 1 none ∈ lw_g ∧ Cond.initialized yX3_rewind.cls ∈ lw_g ∧ (yX3_rewind.cls ≠ "java/lang/invoke/MethodHandle" ∧ yX3_rewind.cls ≠ "java/lang/invoke/VarHandle") ∧ (Cond.instanceMethod yX3_rewind ∈ lw_g ∧ Cond.selects yX3_rewind.cls yX3_rewind yX3_rewind ∈ lw_g) := ⟨lw_w339, lw_w58, by decide +kernel, ⟨lw_w337, lw_w338⟩⟩
theorem cX3_rewind_met (l : Launch) : ab_Met l yX3_rewind cX3_rewind 1 none 0 (ab_sp mX3_rewind cX3_rewind) := ab_met (M := mX3_rewind) (d := 0) (by decide +kernel) (List.forall_mem_cons.mpr ⟨⟨by decide, by decide, lw_w113⟩, List.forall_mem_cons.mpr ⟨⟨by decide, by decide, lw_w114⟩, List.forall_mem_cons.mpr ⟨⟨by decide, by decide, lw_w115⟩, fun _ h => absurd h List.not_mem_nil⟩⟩⟩) (fun _ h => absurd h List.not_mem_nil) (fun _ h => absurd h List.not_mem_nil)
def mX4_hasNumber : ab_M := ([], [], [], 1, 1)
theorem mX4_hasNumber_r : ab_rk mX4_hasNumber = 1 := rfl
theorem mX4_hasNumber_n : ab_nL mX4_hasNumber = 1 := rfl
theorem mX4_hasNumber_mo : ab_mo mX4_hasNumber := fun _ h => absurd h List.not_mem_nil
theorem vX4_hasNumber : Cond.code yX4_hasNumber cX4_hasNumber 1 (some .boolean) ∈ lw_g ∧ Cond.initialized yX4_hasNumber.cls ∈ lw_g ∧ (yX4_hasNumber.cls ≠ "java/lang/invoke/MethodHandle" ∧ yX4_hasNumber.cls ≠ "java/lang/invoke/VarHandle") ∧ Cond.static yX4_hasNumber ∈ lw_g := ⟨lw_w453, lw_w65, by decide +kernel, lw_w452⟩
theorem cX4_hasNumber_met (l : Launch) : ab_Met l yX4_hasNumber cX4_hasNumber 1 (some .boolean) 0 (ab_sp mX4_hasNumber cX4_hasNumber) := ab_met (M := mX4_hasNumber) (d := 0) (by decide +kernel) (fun _ h => absurd h List.not_mem_nil) (fun _ h => absurd h List.not_mem_nil) (fun _ h => absurd h List.not_mem_nil)
def mX4_heldByMost : ab_M := ([], [], [], 2, 8)
theorem mX4_heldByMost_r : ab_rk mX4_heldByMost = 2 := rfl
theorem mX4_heldByMost_n : ab_nL mX4_heldByMost = 8 := rfl
theorem mX4_heldByMost_mo : ab_mo mX4_heldByMost := fun _ h => absurd h List.not_mem_nil
theorem vX4_heldByMost : Cond.code yX4_heldByMost cX4_heldByMost 8 (some .long) ∈ lw_g ∧ Cond.initialized yX4_heldByMost.cls ∈ lw_g ∧ (yX4_heldByMost.cls ≠ "java/lang/invoke/MethodHandle" ∧ yX4_heldByMost.cls ≠ "java/lang/invoke/VarHandle") ∧ Cond.static yX4_heldByMost ∈ lw_g := ⟨lw_w470, lw_w65, by decide +kernel, lw_w469⟩
theorem cX4_heldByMost_met (l : Launch) : ab_Met l yX4_heldByMost cX4_heldByMost 8 (some .long) 0 (ab_sp mX4_heldByMost cX4_heldByMost) := ab_met (M := mX4_heldByMost) (d := 0) (by decide +kernel) (fun _ h => absurd h List.not_mem_nil) (fun _ h => absurd h List.not_mem_nil) (fun _ h => absurd h List.not_mem_nil)
def mX4_lessThan : ab_M := ([], [], [], 2, 6)
theorem mX4_lessThan_r : ab_rk mX4_lessThan = 2 := rfl
theorem mX4_lessThan_n : ab_nL mX4_lessThan = 6 := rfl
theorem mX4_lessThan_mo : ab_mo mX4_lessThan := fun _ h => absurd h List.not_mem_nil
theorem vX4_lessThan : Cond.code yX4_lessThan cX4_lessThan 6 (some .long) ∈ lw_g ∧ Cond.initialized yX4_lessThan.cls ∈ lw_g ∧ (yX4_lessThan.cls ≠ "java/lang/invoke/MethodHandle" ∧ yX4_lessThan.cls ≠ "java/lang/invoke/VarHandle") ∧ Cond.static yX4_lessThan ∈ lw_g := ⟨lw_w473, lw_w65, by decide +kernel, lw_w472⟩
theorem cX4_lessThan_met (l : Launch) : ab_Met l yX4_lessThan cX4_lessThan 6 (some .long) 0 (ab_sp mX4_lessThan cX4_lessThan) := ab_met (M := mX4_lessThan) (d := 0) (by decide +kernel) (fun _ h => absurd h List.not_mem_nil) (fun _ h => absurd h List.not_mem_nil) (fun _ h => absurd h List.not_mem_nil)
def mX4_squaresLessSquare : ab_M := ([], [], [], 2, 7)
theorem mX4_squaresLessSquare_r : ab_rk mX4_squaresLessSquare = 2 := rfl
theorem mX4_squaresLessSquare_n : ab_nL mX4_squaresLessSquare = 7 := rfl
theorem mX4_squaresLessSquare_mo : ab_mo mX4_squaresLessSquare := fun _ h => absurd h List.not_mem_nil
theorem vX4_squaresLessSquare : Cond.code yX4_squaresLessSquare cX4_squaresLessSquare 7 (some .long) ∈ lw_g ∧ Cond.initialized yX4_squaresLessSquare.cls ∈ lw_g ∧ (yX4_squaresLessSquare.cls ≠ "java/lang/invoke/MethodHandle" ∧ yX4_squaresLessSquare.cls ≠ "java/lang/invoke/VarHandle") ∧ Cond.static yX4_squaresLessSquare ∈ lw_g := ⟨lw_w479, lw_w65, by decide +kernel, lw_w478⟩
theorem cX4_squaresLessSquare_met (l : Launch) : ab_Met l yX4_squaresLessSquare cX4_squaresLessSquare 7 (some .long) 0 (ab_sp mX4_squaresLessSquare cX4_squaresLessSquare) := ab_met (M := mX4_squaresLessSquare) (d := 0) (by decide +kernel) (fun _ h => absurd h List.not_mem_nil) (fun _ h => absurd h List.not_mem_nil) (fun _ h => absurd h List.not_mem_nil)
def mX5_add : ab_M := ([(9, 5, 1), (15, 5, 2), (18, 5, 3), (21, 5, 4), (27, 5, 0)], [], [], 3, 5)
theorem mX5_add_r : ab_rk mX5_add = 3 := rfl
theorem mX5_add_n : ab_nL mX5_add = 5 := rfl
theorem mX5_add_f9 : ab_fl mX5_add 9 = some (5, 1) := rfl
theorem mX5_add_f15 : ab_fl mX5_add 15 = some (5, 2) := rfl
theorem mX5_add_f18 : ab_fl mX5_add 18 = some (5, 3) := rfl
theorem mX5_add_f21 : ab_fl mX5_add 21 = some (5, 4) := rfl
theorem mX5_add_f27 : ab_fl mX5_add 27 = some (5, 0) := rfl
theorem mX5_add_mo : ab_mo mX5_add := fun _ h => absurd h List.not_mem_nil
theorem vX5_add : Cond.code yX5_add cX5_add 5 none ∈ lw_g ∧ Cond.initialized yX5_add.cls ∈ lw_g ∧ (yX5_add.cls ≠ "java/lang/invoke/MethodHandle" ∧ yX5_add.cls ≠ "java/lang/invoke/VarHandle") ∧ (Cond.instanceMethod yX5_add ∈ lw_g ∧ Cond.selects yX5_add.cls yX5_add yX5_add ∈ lw_g) := ⟨lw_w266, lw_w61, by decide +kernel, ⟨lw_w264, lw_w265⟩⟩
theorem cX5_add_met (l : Launch) : ab_Met l yX5_add cX5_add 5 none 0 (ab_sp mX5_add cX5_add) := ab_met (M := mX5_add) (d := 0) (by decide +kernel) (List.forall_mem_cons.mpr ⟨⟨by decide, by decide, lw_w198⟩, List.forall_mem_cons.mpr ⟨⟨by decide, by decide, lw_w203⟩, List.forall_mem_cons.mpr ⟨⟨by decide, by decide, lw_w206⟩, List.forall_mem_cons.mpr ⟨⟨by decide, by decide, lw_w209⟩, List.forall_mem_cons.mpr ⟨⟨by decide, by decide, lw_w193⟩, fun _ h => absurd h List.not_mem_nil⟩⟩⟩⟩⟩) (fun _ h => absurd h List.not_mem_nil) (fun _ h => absurd h List.not_mem_nil)
def mX5_familiesOf : ab_M := ([(21, 5, 4), (27, 5, 0)], [], [], 0, 4)
theorem mX5_familiesOf_r : ab_rk mX5_familiesOf = 0 := rfl
theorem mX5_familiesOf_n : ab_nL mX5_familiesOf = 4 := rfl
theorem mX5_familiesOf_f21 : ab_fl mX5_familiesOf 21 = some (5, 4) := rfl
theorem mX5_familiesOf_f27 : ab_fl mX5_familiesOf 27 = some (5, 0) := rfl
theorem mX5_familiesOf_mo : ab_mo mX5_familiesOf := fun _ h => absurd h List.not_mem_nil
theorem vX5_familiesOf : Cond.code yX5_familiesOf cX5_familiesOf 4 (some .int) ∈ lw_g ∧ Cond.initialized yX5_familiesOf.cls ∈ lw_g ∧ (yX5_familiesOf.cls ≠ "java/lang/invoke/MethodHandle" ∧ yX5_familiesOf.cls ≠ "java/lang/invoke/VarHandle") ∧ (Cond.instanceMethod yX5_familiesOf ∈ lw_g ∧ Cond.selects yX5_familiesOf.cls yX5_familiesOf yX5_familiesOf ∈ lw_g) := ⟨lw_w603, lw_w61, by decide +kernel, ⟨lw_w601, lw_w602⟩⟩
theorem cX5_familiesOf_met (l : Launch) : ab_Met l yX5_familiesOf cX5_familiesOf 4 (some .int) 0 (ab_sp mX5_familiesOf cX5_familiesOf) := ab_met (M := mX5_familiesOf) (d := 0) (by decide +kernel) (List.forall_mem_cons.mpr ⟨⟨by decide, by decide, lw_w209⟩, List.forall_mem_cons.mpr ⟨⟨by decide, by decide, lw_w193⟩, fun _ h => absurd h List.not_mem_nil⟩⟩) (fun _ h => absurd h List.not_mem_nil) (fun _ h => absurd h List.not_mem_nil)
def mX5_holds : ab_M := ([(27, 5, 0)], [], [], 1, 2)
theorem mX5_holds_r : ab_rk mX5_holds = 1 := rfl
theorem mX5_holds_n : ab_nL mX5_holds = 2 := rfl
theorem mX5_holds_f27 : ab_fl mX5_holds 27 = some (5, 0) := rfl
theorem mX5_holds_mo : ab_mo mX5_holds := fun _ h => absurd h List.not_mem_nil
theorem vX5_holds : Cond.code yX5_holds cX5_holds 2 (some .boolean) ∈ lw_g ∧ Cond.initialized yX5_holds.cls ∈ lw_g ∧ (yX5_holds.cls ≠ "java/lang/invoke/MethodHandle" ∧ yX5_holds.cls ≠ "java/lang/invoke/VarHandle") ∧ (Cond.instanceMethod yX5_holds ∈ lw_g ∧ Cond.selects yX5_holds.cls yX5_holds yX5_holds ∈ lw_g) := ⟨lw_w274, lw_w61, by decide +kernel, ⟨lw_w272, lw_w273⟩⟩
theorem cX5_holds_met (l : Launch) : ab_Met l yX5_holds cX5_holds 2 (some .boolean) 0 (ab_sp mX5_holds cX5_holds) := ab_met (M := mX5_holds) (d := 0) (by decide +kernel) (List.forall_mem_cons.mpr ⟨⟨by decide, by decide, lw_w193⟩, fun _ h => absurd h List.not_mem_nil⟩) (fun _ h => absurd h List.not_mem_nil) (fun _ h => absurd h List.not_mem_nil)
def mX5_isKnown : ab_M := ([(9, 5, 1), (15, 5, 2), (27, 5, 0)], [], [], 1, 2)
theorem mX5_isKnown_r : ab_rk mX5_isKnown = 1 := rfl
theorem mX5_isKnown_n : ab_nL mX5_isKnown = 2 := rfl
theorem mX5_isKnown_f9 : ab_fl mX5_isKnown 9 = some (5, 1) := rfl
theorem mX5_isKnown_f15 : ab_fl mX5_isKnown 15 = some (5, 2) := rfl
theorem mX5_isKnown_f27 : ab_fl mX5_isKnown 27 = some (5, 0) := rfl
theorem mX5_isKnown_mo : ab_mo mX5_isKnown := fun _ h => absurd h List.not_mem_nil
theorem vX5_isKnown : Cond.code yX5_isKnown cX5_isKnown 2 (some .boolean) ∈ lw_g ∧ Cond.initialized yX5_isKnown.cls ∈ lw_g ∧ (yX5_isKnown.cls ≠ "java/lang/invoke/MethodHandle" ∧ yX5_isKnown.cls ≠ "java/lang/invoke/VarHandle") ∧ (Cond.instanceMethod yX5_isKnown ∈ lw_g ∧ Cond.selects yX5_isKnown.cls yX5_isKnown yX5_isKnown ∈ lw_g) := ⟨lw_w290, lw_w61, by decide +kernel, ⟨lw_w288, lw_w289⟩⟩
theorem cX5_isKnown_met (l : Launch) : ab_Met l yX5_isKnown cX5_isKnown 2 (some .boolean) 0 (ab_sp mX5_isKnown cX5_isKnown) := ab_met (M := mX5_isKnown) (d := 0) (by decide +kernel) (List.forall_mem_cons.mpr ⟨⟨by decide, by decide, lw_w198⟩, List.forall_mem_cons.mpr ⟨⟨by decide, by decide, lw_w203⟩, List.forall_mem_cons.mpr ⟨⟨by decide, by decide, lw_w193⟩, fun _ h => absurd h List.not_mem_nil⟩⟩⟩) (fun _ h => absurd h List.not_mem_nil) (fun _ h => absurd h List.not_mem_nil)
def mX5_nextFilling : ab_M := ([(9, 5, 1), (15, 5, 2), (24, 5, 5), (27, 5, 0)], [], [], 3, 2)
theorem mX5_nextFilling_r : ab_rk mX5_nextFilling = 3 := rfl
theorem mX5_nextFilling_n : ab_nL mX5_nextFilling = 2 := rfl
theorem mX5_nextFilling_f9 : ab_fl mX5_nextFilling 9 = some (5, 1) := rfl
theorem mX5_nextFilling_f15 : ab_fl mX5_nextFilling 15 = some (5, 2) := rfl
theorem mX5_nextFilling_f24 : ab_fl mX5_nextFilling 24 = some (5, 5) := rfl
theorem mX5_nextFilling_f27 : ab_fl mX5_nextFilling 27 = some (5, 0) := rfl
theorem mX5_nextFilling_mo : ab_mo mX5_nextFilling := fun _ h => absurd h List.not_mem_nil
theorem vX5_nextFilling : Cond.code yX5_nextFilling cX5_nextFilling 2 none ∈ lw_g ∧ Cond.initialized yX5_nextFilling.cls ∈ lw_g ∧ (yX5_nextFilling.cls ≠ "java/lang/invoke/MethodHandle" ∧ yX5_nextFilling.cls ≠ "java/lang/invoke/VarHandle") ∧ (Cond.instanceMethod yX5_nextFilling ∈ lw_g ∧ Cond.selects yX5_nextFilling.cls yX5_nextFilling yX5_nextFilling ∈ lw_g) := ⟨lw_w541, lw_w61, by decide +kernel, ⟨lw_w539, lw_w540⟩⟩
theorem cX5_nextFilling_met (l : Launch) : ab_Met l yX5_nextFilling cX5_nextFilling 2 none 0 (ab_sp mX5_nextFilling cX5_nextFilling) := ab_met (M := mX5_nextFilling) (d := 0) (by decide +kernel) (List.forall_mem_cons.mpr ⟨⟨by decide, by decide, lw_w198⟩, List.forall_mem_cons.mpr ⟨⟨by decide, by decide, lw_w203⟩, List.forall_mem_cons.mpr ⟨⟨by decide, by decide, lw_w211⟩, List.forall_mem_cons.mpr ⟨⟨by decide, by decide, lw_w193⟩, fun _ h => absurd h List.not_mem_nil⟩⟩⟩⟩) (fun _ h => absurd h List.not_mem_nil) (fun _ h => absurd h List.not_mem_nil)
def mX5_startFillings : ab_M := ([(9, 5, 1), (24, 5, 5), (27, 5, 0)], [], [], 3, 2)
theorem mX5_startFillings_r : ab_rk mX5_startFillings = 3 := rfl
theorem mX5_startFillings_n : ab_nL mX5_startFillings = 2 := rfl
theorem mX5_startFillings_f9 : ab_fl mX5_startFillings 9 = some (5, 1) := rfl
theorem mX5_startFillings_f24 : ab_fl mX5_startFillings 24 = some (5, 5) := rfl
theorem mX5_startFillings_f27 : ab_fl mX5_startFillings 27 = some (5, 0) := rfl
theorem mX5_startFillings_mo : ab_mo mX5_startFillings := fun _ h => absurd h List.not_mem_nil
theorem vX5_startFillings : Cond.code yX5_startFillings cX5_startFillings 2 none ∈ lw_g ∧ Cond.initialized yX5_startFillings.cls ∈ lw_g ∧ (yX5_startFillings.cls ≠ "java/lang/invoke/MethodHandle" ∧ yX5_startFillings.cls ≠ "java/lang/invoke/VarHandle") ∧ (Cond.instanceMethod yX5_startFillings ∈ lw_g ∧ Cond.selects yX5_startFillings.cls yX5_startFillings yX5_startFillings ∈ lw_g) := ⟨lw_w312, lw_w61, by decide +kernel, ⟨lw_w310, lw_w311⟩⟩
theorem cX5_startFillings_met (l : Launch) : ab_Met l yX5_startFillings cX5_startFillings 2 none 0 (ab_sp mX5_startFillings cX5_startFillings) := ab_met (M := mX5_startFillings) (d := 0) (by decide +kernel) (List.forall_mem_cons.mpr ⟨⟨by decide, by decide, lw_w198⟩, List.forall_mem_cons.mpr ⟨⟨by decide, by decide, lw_w211⟩, List.forall_mem_cons.mpr ⟨⟨by decide, by decide, lw_w193⟩, fun _ h => absurd h List.not_mem_nil⟩⟩⟩) (fun _ h => absurd h List.not_mem_nil) (fun _ h => absurd h List.not_mem_nil)
def mX5_sumOfPart : ab_M := ([(9, 5, 1), (21, 5, 4), (27, 5, 0)], [], [], 0, 4)
theorem mX5_sumOfPart_r : ab_rk mX5_sumOfPart = 0 := rfl
theorem mX5_sumOfPart_n : ab_nL mX5_sumOfPart = 4 := rfl
theorem mX5_sumOfPart_f9 : ab_fl mX5_sumOfPart 9 = some (5, 1) := rfl
theorem mX5_sumOfPart_f21 : ab_fl mX5_sumOfPart 21 = some (5, 4) := rfl
theorem mX5_sumOfPart_f27 : ab_fl mX5_sumOfPart 27 = some (5, 0) := rfl
theorem mX5_sumOfPart_mo : ab_mo mX5_sumOfPart := fun _ h => absurd h List.not_mem_nil
theorem vX5_sumOfPart : Cond.code yX5_sumOfPart cX5_sumOfPart 4 (some .int) ∈ lw_g ∧ Cond.initialized yX5_sumOfPart.cls ∈ lw_g ∧ (yX5_sumOfPart.cls ≠ "java/lang/invoke/MethodHandle" ∧ yX5_sumOfPart.cls ≠ "java/lang/invoke/VarHandle") ∧ (Cond.instanceMethod yX5_sumOfPart ∈ lw_g ∧ Cond.selects yX5_sumOfPart.cls yX5_sumOfPart yX5_sumOfPart ∈ lw_g) := ⟨lw_w607, lw_w61, by decide +kernel, ⟨lw_w605, lw_w606⟩⟩
theorem cX5_sumOfPart_met (l : Launch) : ab_Met l yX5_sumOfPart cX5_sumOfPart 4 (some .int) 0 (ab_sp mX5_sumOfPart cX5_sumOfPart) := ab_met (M := mX5_sumOfPart) (d := 0) (by decide +kernel) (List.forall_mem_cons.mpr ⟨⟨by decide, by decide, lw_w198⟩, List.forall_mem_cons.mpr ⟨⟨by decide, by decide, lw_w209⟩, List.forall_mem_cons.mpr ⟨⟨by decide, by decide, lw_w193⟩, fun _ h => absurd h List.not_mem_nil⟩⟩⟩) (fun _ h => absurd h List.not_mem_nil) (fun _ h => absurd h List.not_mem_nil)
def mX5_ways : ab_M := ([(9, 5, 1), (15, 5, 2), (27, 5, 0)], [], [], 2, 4)
theorem mX5_ways_r : ab_rk mX5_ways = 2 := rfl
theorem mX5_ways_n : ab_nL mX5_ways = 4 := rfl
theorem mX5_ways_f9 : ab_fl mX5_ways 9 = some (5, 1) := rfl
theorem mX5_ways_f15 : ab_fl mX5_ways 15 = some (5, 2) := rfl
theorem mX5_ways_f27 : ab_fl mX5_ways 27 = some (5, 0) := rfl
theorem mX5_ways_mo : ab_mo mX5_ways := fun _ h => absurd h List.not_mem_nil
theorem vX5_ways : Cond.code yX5_ways cX5_ways 4 (some .long) ∈ lw_g ∧ Cond.initialized yX5_ways.cls ∈ lw_g ∧ (yX5_ways.cls ≠ "java/lang/invoke/MethodHandle" ∧ yX5_ways.cls ≠ "java/lang/invoke/VarHandle") ∧ (Cond.instanceMethod yX5_ways ∈ lw_g ∧ Cond.selects yX5_ways.cls yX5_ways yX5_ways ∈ lw_g) := ⟨lw_w525, lw_w61, by decide +kernel, ⟨lw_w523, lw_w524⟩⟩
theorem cX5_ways_met (l : Launch) : ab_Met l yX5_ways cX5_ways 4 (some .long) 0 (ab_sp mX5_ways cX5_ways) := ab_met (M := mX5_ways) (d := 0) (by decide +kernel) (List.forall_mem_cons.mpr ⟨⟨by decide, by decide, lw_w198⟩, List.forall_mem_cons.mpr ⟨⟨by decide, by decide, lw_w203⟩, List.forall_mem_cons.mpr ⟨⟨by decide, by decide, lw_w193⟩, fun _ h => absurd h List.not_mem_nil⟩⟩⟩) (fun _ h => absurd h List.not_mem_nil) (fun _ h => absurd h List.not_mem_nil)
def mX6_atEnd : ab_M := ([(12, 6, 0), (18, 6, 1), (21, 3, 1)], [], [], 2, 1)
theorem mX6_atEnd_r : ab_rk mX6_atEnd = 2 := rfl
theorem mX6_atEnd_n : ab_nL mX6_atEnd = 1 := rfl
theorem mX6_atEnd_f12 : ab_fl mX6_atEnd 12 = some (6, 0) := rfl
theorem mX6_atEnd_f18 : ab_fl mX6_atEnd 18 = some (6, 1) := rfl
theorem mX6_atEnd_f21 : ab_fl mX6_atEnd 21 = some (3, 1) := rfl
theorem mX6_atEnd_mo : ab_mo mX6_atEnd := fun _ h => absurd h List.not_mem_nil
theorem vX6_atEnd : Cond.code yX6_atEnd cX6_atEnd 1 (some .long) ∈ lw_g ∧ Cond.initialized yX6_atEnd.cls ∈ lw_g ∧ (yX6_atEnd.cls ≠ "java/lang/invoke/MethodHandle" ∧ yX6_atEnd.cls ≠ "java/lang/invoke/VarHandle") ∧ (Cond.instanceMethod yX6_atEnd ∈ lw_g ∧ Cond.selects yX6_atEnd.cls yX6_atEnd yX6_atEnd ∈ lw_g) := ⟨lw_w381, lw_w57, by decide +kernel, ⟨lw_w379, lw_w380⟩⟩
theorem cX6_atEnd_met (l : Launch) : ab_Met l yX6_atEnd cX6_atEnd 1 (some .long) 0 (ab_sp mX6_atEnd cX6_atEnd) := ab_met (M := mX6_atEnd) (d := 0) (by decide +kernel) (List.forall_mem_cons.mpr ⟨⟨by decide, by decide, lw_w136⟩, List.forall_mem_cons.mpr ⟨⟨by decide, by decide, lw_w138⟩, List.forall_mem_cons.mpr ⟨⟨by decide, by decide, lw_w108⟩, fun _ h => absurd h List.not_mem_nil⟩⟩⟩) (fun _ h => absurd h List.not_mem_nil) (fun _ h => absurd h List.not_mem_nil)
def mX7_commonDivisor : ab_M := ([], [], [], 2, 7)
theorem mX7_commonDivisor_r : ab_rk mX7_commonDivisor = 2 := rfl
theorem mX7_commonDivisor_n : ab_nL mX7_commonDivisor = 7 := rfl
theorem mX7_commonDivisor_mo : ab_mo mX7_commonDivisor := fun _ h => absurd h List.not_mem_nil
theorem vX7_commonDivisor : Cond.code yX7_commonDivisor cX7_commonDivisor 7 (some .long) ∈ lw_g ∧ Cond.initialized yX7_commonDivisor.cls ∈ lw_g ∧ (yX7_commonDivisor.cls ≠ "java/lang/invoke/MethodHandle" ∧ yX7_commonDivisor.cls ≠ "java/lang/invoke/VarHandle") ∧ Cond.static yX7_commonDivisor ∈ lw_g := ⟨lw_w387, lw_w55, by decide +kernel, lw_w386⟩
theorem cX7_commonDivisor_met (l : Launch) : ab_Met l yX7_commonDivisor cX7_commonDivisor 7 (some .long) 0 (ab_sp mX7_commonDivisor cX7_commonDivisor) := ab_met (M := mX7_commonDivisor) (d := 0) (by decide +kernel) (fun _ h => absurd h List.not_mem_nil) (fun _ h => absurd h List.not_mem_nil) (fun _ h => absurd h List.not_mem_nil)
def mX7_isWithin : ab_M := ([], [], [], 1, 3)
theorem mX7_isWithin_r : ab_rk mX7_isWithin = 1 := rfl
theorem mX7_isWithin_n : ab_nL mX7_isWithin = 3 := rfl
theorem mX7_isWithin_mo : ab_mo mX7_isWithin := fun _ h => absurd h List.not_mem_nil
theorem vX7_isWithin : Cond.code yX7_isWithin cX7_isWithin 3 (some .boolean) ∈ lw_g ∧ Cond.initialized yX7_isWithin.cls ∈ lw_g ∧ (yX7_isWithin.cls ≠ "java/lang/invoke/MethodHandle" ∧ yX7_isWithin.cls ≠ "java/lang/invoke/VarHandle") ∧ Cond.static yX7_isWithin ∈ lw_g := ⟨lw_w259, lw_w55, by decide +kernel, lw_w258⟩
theorem cX7_isWithin_met (l : Launch) : ab_Met l yX7_isWithin cX7_isWithin 3 (some .boolean) 0 (ab_sp mX7_isWithin cX7_isWithin) := ab_met (M := mX7_isWithin) (d := 0) (by decide +kernel) (fun _ h => absurd h List.not_mem_nil) (fun _ h => absurd h List.not_mem_nil) (fun _ h => absurd h List.not_mem_nil)
def mX7_poorBelow : ab_M := ([(63, 5, 0), (75, 5, 1)], [], [], 0, 4)
theorem mX7_poorBelow_r : ab_rk mX7_poorBelow = 0 := rfl
theorem mX7_poorBelow_n : ab_nL mX7_poorBelow = 4 := rfl
theorem mX7_poorBelow_f63 : ab_fl mX7_poorBelow 63 = some (5, 0) := rfl
theorem mX7_poorBelow_f75 : ab_fl mX7_poorBelow 75 = some (5, 1) := rfl
theorem mX7_poorBelow_mo : ab_mo mX7_poorBelow := fun _ h => absurd h List.not_mem_nil
theorem vX7_poorBelow : Cond.code yX7_poorBelow cX7_poorBelow 4 (some .int) ∈ lw_g ∧ Cond.initialized yX7_poorBelow.cls ∈ lw_g ∧ (yX7_poorBelow.cls ≠ "java/lang/invoke/MethodHandle" ∧ yX7_poorBelow.cls ≠ "java/lang/invoke/VarHandle") ∧ Cond.static yX7_poorBelow ∈ lw_g := ⟨lw_w583, lw_w55, by decide +kernel, lw_w582⟩
theorem cX7_poorBelow_met (l : Launch) : ab_Met l yX7_poorBelow cX7_poorBelow 4 (some .int) 0 (ab_sp mX7_poorBelow cX7_poorBelow) := ab_met (M := mX7_poorBelow) (d := 0) (by decide +kernel) (List.forall_mem_cons.mpr ⟨⟨by decide, by decide, lw_w195⟩, List.forall_mem_cons.mpr ⟨⟨by decide, by decide, lw_w199⟩, fun _ h => absurd h List.not_mem_nil⟩⟩) (fun _ h => absurd h List.not_mem_nil) (fun _ h => absurd h List.not_mem_nil)
def mX7_sumOf : ab_M := ([], [], [], 0, 4)
theorem mX7_sumOf_r : ab_rk mX7_sumOf = 0 := rfl
theorem mX7_sumOf_n : ab_nL mX7_sumOf = 4 := rfl
theorem mX7_sumOf_mo : ab_mo mX7_sumOf := fun _ h => absurd h List.not_mem_nil
theorem vX7_sumOf : Cond.code yX7_sumOf cX7_sumOf 4 (some .int) ∈ lw_g ∧ Cond.initialized yX7_sumOf.cls ∈ lw_g ∧ (yX7_sumOf.cls ≠ "java/lang/invoke/MethodHandle" ∧ yX7_sumOf.cls ≠ "java/lang/invoke/VarHandle") ∧ Cond.static yX7_sumOf ∈ lw_g := ⟨lw_w293, lw_w55, by decide +kernel, lw_w292⟩
theorem cX7_sumOf_met (l : Launch) : ab_Met l yX7_sumOf cX7_sumOf 4 (some .int) 0 (ab_sp mX7_sumOf cX7_sumOf) := ab_met (M := mX7_sumOf) (d := 0) (by decide +kernel) (fun _ h => absurd h List.not_mem_nil) (fun _ h => absurd h List.not_mem_nil) (fun _ h => absurd h List.not_mem_nil)
def mX7_unband : ab_M := ([(18, 7, 1), (250, 1, 0)], [], [], 0, 2)
theorem mX7_unband_r : ab_rk mX7_unband = 0 := rfl
theorem mX7_unband_n : ab_nL mX7_unband = 2 := rfl
theorem mX7_unband_f18 : ab_fl mX7_unband 18 = some (7, 1) := rfl
theorem mX7_unband_f250 : ab_fl mX7_unband 250 = some (1, 0) := rfl
theorem mX7_unband_mo : ab_mo mX7_unband := fun _ h => absurd h List.not_mem_nil
theorem vX7_unband : Cond.code yX7_unband cX7_unband 2 (some .int) ∈ lw_g ∧ Cond.initialized yX7_unband.cls ∈ lw_g ∧ (yX7_unband.cls ≠ "java/lang/invoke/MethodHandle" ∧ yX7_unband.cls ≠ "java/lang/invoke/VarHandle") ∧ (Cond.instanceMethod yX7_unband ∈ lw_g ∧ Cond.selects yX7_unband.cls yX7_unband yX7_unband ∈ lw_g) := ⟨lw_w636, lw_w55, by decide +kernel, ⟨lw_w634, lw_w635⟩⟩
theorem cX7_unband_met (l : Launch) : ab_Met l yX7_unband cX7_unband 2 (some .int) 0 (ab_sp mX7_unband cX7_unband) := ab_met (M := mX7_unband) (d := 0) (by decide +kernel) (List.forall_mem_cons.mpr ⟨⟨by decide, by decide, lw_w228⟩, List.forall_mem_cons.mpr ⟨⟨by decide, by decide, lw_w84⟩, fun _ h => absurd h List.not_mem_nil⟩⟩) (fun _ h => absurd h List.not_mem_nil) (fun _ h => absurd h List.not_mem_nil)
def mX8_addBreak : ab_M := ([(44, 8, 12), (47, 8, 13), (103, 8, 11)], [], [], 3, 4)
theorem mX8_addBreak_r : ab_rk mX8_addBreak = 3 := rfl
theorem mX8_addBreak_n : ab_nL mX8_addBreak = 4 := rfl
theorem mX8_addBreak_f44 : ab_fl mX8_addBreak 44 = some (8, 12) := rfl
theorem mX8_addBreak_f47 : ab_fl mX8_addBreak 47 = some (8, 13) := rfl
theorem mX8_addBreak_f103 : ab_fl mX8_addBreak 103 = some (8, 11) := rfl
theorem mX8_addBreak_mo : ab_mo mX8_addBreak := fun _ h => absurd h List.not_mem_nil
theorem vX8_addBreak : Cond.code yX8_addBreak cX8_addBreak 4 none ∈ lw_g ∧ Cond.initialized yX8_addBreak.cls ∈ lw_g ∧ (yX8_addBreak.cls ≠ "java/lang/invoke/MethodHandle" ∧ yX8_addBreak.cls ≠ "java/lang/invoke/VarHandle") ∧ (Cond.instanceMethod yX8_addBreak ∈ lw_g ∧ Cond.selects yX8_addBreak.cls yX8_addBreak yX8_addBreak ∈ lw_g) := ⟨lw_w832, lw_w62, by decide +kernel, ⟨lw_w831, lw_w25⟩⟩
theorem cX8_addBreak_met (l : Launch) : ab_Met l yX8_addBreak cX8_addBreak 4 none 0 (ab_sp mX8_addBreak cX8_addBreak) := ab_met (M := mX8_addBreak) (d := 0) (by decide +kernel) (List.forall_mem_cons.mpr ⟨⟨by decide, by decide, lw_w692⟩, List.forall_mem_cons.mpr ⟨⟨by decide, by decide, lw_w693⟩, List.forall_mem_cons.mpr ⟨⟨by decide, by decide, lw_w691⟩, fun _ h => absurd h List.not_mem_nil⟩⟩⟩) (fun _ h => absurd h List.not_mem_nil) (fun _ h => absurd h List.not_mem_nil)
