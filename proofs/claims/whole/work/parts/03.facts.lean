set_option maxRecDepth 100000 in
theorem tb_cls : ∀ ci, ci < 11 → ∀ k, k < clN ci → ew_is ((clLl.getD ci []).getD k 0) (u_lay (oY ci) (clT ci) k) = true := by decide +kernel
set_option maxRecDepth 100000 in
theorem tb_ty : ∀ ci, ci < 11 → ∀ k, k < clN ci → parseFieldDescriptor (clT ci k).2.2.1 = some (xT ci k) := by decide +kernel
set_option maxRecDepth 100000 in
theorem tb_nm : ∀ ci, ci < 11 → ∀ a, a < clN ci → ∀ b, b < clN ci → a ≠ b → (clT ci a).2.1 ≠ (clT ci b).2.1 := by decide +kernel
set_option maxRecDepth 100000 in
theorem tb_in : ∀ ci, ci < 11 → ew_is (clIl.getD ci 0) (.instantiable (oY ci) (clN ci)) = true ∧ ew_is (clJl.getD ci 0) (.initialized (oY ci)) = true := by decide +kernel
def tb_k4 (t : FieldType) : Bool := match t with
  | .int => true
  | .boolean => true
  | .object _ => true
  | .array _ => true
  | _ => false
set_option maxRecDepth 100000 in
theorem tb_t4 : ∀ ci, ci < 11 → ∀ k, k < clN ci → tb_k4 (xT ci k) = true := by decide +kernel
def ck_F (q : Nat × Nat × Nat × Nat × Bool × Nat) : Bool := decide (q.2.2.1 < 11) && decide (q.2.2.2.1 < clN q.2.2.1) && (bif q.2.2.2.2.1 then decide (nWF[q.2.2.2.2.2]? = some (oY q.1, q.2.1, oY q.2.2.1, (clT q.2.2.1 q.2.2.2.1).2.1, (clT q.2.2.1 q.2.2.2.1).2.2.1, "EndorsedLedger")) else ew_is q.2.2.2.2.2 (.fieldLink (oY q.1) q.2.1 (oY q.2.2.1) (clT q.2.2.1 q.2.2.2.1).2.1 (clT q.2.2.1 q.2.2.2.1).2.2.1))
set_option maxRecDepth 100000 in
theorem ck_F_ok : kFl.all ck_F = true := by decide +kernel
theorem tb_F (q : Nat × Nat × Nat × Nat × Bool × Nat) (hq : q ∈ kFl) : q.2.2.1 < 11 ∧ q.2.2.2.1 < clN q.2.2.1 ∧ (q.2.2.2.2.1 = true → nWF[q.2.2.2.2.2]? = some (oY q.1, q.2.1, oY q.2.2.1, (clT q.2.2.1 q.2.2.2.1).2.1, (clT q.2.2.1 q.2.2.2.1).2.2.1, "EndorsedLedger")) ∧ (q.2.2.2.2.1 = false → ew_is q.2.2.2.2.2 (.fieldLink (oY q.1) q.2.1 (oY q.2.2.1) (clT q.2.2.1 q.2.2.2.1).2.1 (clT q.2.2.1 q.2.2.2.1).2.2.1) = true) := by
  have h := List.all_eq_true.mp ck_F_ok q hq
  unfold ck_F at h
  simp only [Bool.and_eq_true, decide_eq_true_eq] at h
  obtain ⟨⟨h1, h2⟩, h3⟩ := h
  refine ⟨h1, h2, fun hb => ?_, fun hb => ?_⟩
  · rw [hb] at h3
    exact of_decide_eq_true h3
  · rw [hb] at h3
    exact h3
def tm_P (j : Nat) : Prop := Cond.code (mY j) (mB j) (mL j) (mR j) ∈ ew
set_option maxRecDepth 100000 in
theorem tm_0 : tm_P 0 := List.mem_filter.mpr ⟨List.mem_append_right _ (show _ ∈ tables_1_1 ++ (tables_1_2 ++ (tables_1_3 ++ tables_1_4)) from List.mem_append_left _ (List.mem_of_getElem? (i := 18) (show tables_1_1[18]? = _ from rfl))), rfl⟩
set_option maxRecDepth 100000 in
theorem tm_1 : tm_P 1 := List.mem_filter.mpr ⟨List.mem_append_right _ (show _ ∈ tables_1_1 ++ (tables_1_2 ++ (tables_1_3 ++ tables_1_4)) from List.mem_append_right _ (List.mem_append_left _ (List.mem_of_getElem? (i := 34) (show tables_1_2[34]? = _ from rfl)))), rfl⟩
set_option maxRecDepth 100000 in
theorem tm_2 : tm_P 2 := List.mem_filter.mpr ⟨List.mem_append_right _ (show _ ∈ tables_1_1 ++ (tables_1_2 ++ (tables_1_3 ++ tables_1_4)) from List.mem_append_right _ (List.mem_append_left _ (List.mem_of_getElem? (i := 45) (show tables_1_2[45]? = _ from rfl)))), rfl⟩
set_option maxRecDepth 100000 in
theorem tm_3 : tm_P 3 := List.mem_filter.mpr ⟨List.mem_append_right _ (show _ ∈ tables_1_1 ++ (tables_1_2 ++ (tables_1_3 ++ tables_1_4)) from List.mem_append_right _ (List.mem_append_left _ (List.mem_of_getElem? (i := 65) (show tables_1_2[65]? = _ from rfl)))), rfl⟩
set_option maxRecDepth 100000 in
theorem tm_4 : tm_P 4 := List.mem_filter.mpr ⟨List.mem_append_right _ (show _ ∈ tables_1_1 ++ (tables_1_2 ++ (tables_1_3 ++ tables_1_4)) from List.mem_append_right _ (List.mem_append_left _ (List.mem_of_getElem? (i := 69) (show tables_1_2[69]? = _ from rfl)))), rfl⟩
set_option maxRecDepth 100000 in
theorem tm_5 : tm_P 5 := List.mem_filter.mpr ⟨List.mem_append_right _ (show _ ∈ tables_1_1 ++ (tables_1_2 ++ (tables_1_3 ++ tables_1_4)) from List.mem_append_right _ (List.mem_append_left _ (List.mem_of_getElem? (i := 145) (show tables_1_2[145]? = _ from rfl)))), rfl⟩
set_option maxRecDepth 100000 in
theorem tm_6 : tm_P 6 := List.mem_filter.mpr ⟨List.mem_append_right _ (show _ ∈ tables_1_1 ++ (tables_1_2 ++ (tables_1_3 ++ tables_1_4)) from List.mem_append_right _ (List.mem_append_left _ (List.mem_of_getElem? (i := 149) (show tables_1_2[149]? = _ from rfl)))), rfl⟩
set_option maxRecDepth 100000 in
theorem tm_7 : tm_P 7 := List.mem_filter.mpr ⟨List.mem_append_right _ (show _ ∈ tables_1_1 ++ (tables_1_2 ++ (tables_1_3 ++ tables_1_4)) from List.mem_append_right _ (List.mem_append_left _ (List.mem_of_getElem? (i := 172) (show tables_1_2[172]? = _ from rfl)))), rfl⟩
set_option maxRecDepth 100000 in
theorem tm_8 : tm_P 8 := List.mem_filter.mpr ⟨List.mem_append_right _ (show _ ∈ tables_1_1 ++ (tables_1_2 ++ (tables_1_3 ++ tables_1_4)) from List.mem_append_right _ (List.mem_append_left _ (List.mem_of_getElem? (i := 197) (show tables_1_2[197]? = _ from rfl)))), rfl⟩
set_option maxRecDepth 100000 in
theorem tm_9 : tm_P 9 := List.mem_filter.mpr ⟨List.mem_append_right _ (show _ ∈ tables_1_1 ++ (tables_1_2 ++ (tables_1_3 ++ tables_1_4)) from List.mem_append_right _ (List.mem_append_left _ (List.mem_of_getElem? (i := 222) (show tables_1_2[222]? = _ from rfl)))), rfl⟩
set_option maxRecDepth 100000 in
theorem tm_10 : tm_P 10 := List.mem_filter.mpr ⟨List.mem_append_right _ (show _ ∈ tables_1_1 ++ (tables_1_2 ++ (tables_1_3 ++ tables_1_4)) from List.mem_append_right _ (List.mem_append_right _ (List.mem_append_left _ (List.mem_of_getElem? (i := 48) (show tables_1_3[48]? = _ from rfl))))), rfl⟩
set_option maxRecDepth 100000 in
theorem tm_11 : tm_P 11 := List.mem_filter.mpr ⟨List.mem_append_right _ (show _ ∈ tables_1_1 ++ (tables_1_2 ++ (tables_1_3 ++ tables_1_4)) from List.mem_append_right _ (List.mem_append_right _ (List.mem_append_left _ (List.mem_of_getElem? (i := 56) (show tables_1_3[56]? = _ from rfl))))), rfl⟩
set_option maxRecDepth 100000 in
theorem tm_12 : tm_P 12 := List.mem_filter.mpr ⟨List.mem_append_right _ (show _ ∈ tables_1_1 ++ (tables_1_2 ++ (tables_1_3 ++ tables_1_4)) from List.mem_append_right _ (List.mem_append_right _ (List.mem_append_left _ (List.mem_of_getElem? (i := 60) (show tables_1_3[60]? = _ from rfl))))), rfl⟩
set_option maxRecDepth 100000 in
theorem tm_13 : tm_P 13 := List.mem_filter.mpr ⟨List.mem_append_right _ (show _ ∈ tables_1_1 ++ (tables_1_2 ++ (tables_1_3 ++ tables_1_4)) from List.mem_append_right _ (List.mem_append_right _ (List.mem_append_left _ (List.mem_of_getElem? (i := 76) (show tables_1_3[76]? = _ from rfl))))), rfl⟩
set_option maxRecDepth 100000 in
theorem tm_14 : tm_P 14 := List.mem_filter.mpr ⟨List.mem_append_right _ (show _ ∈ tables_1_1 ++ (tables_1_2 ++ (tables_1_3 ++ tables_1_4)) from List.mem_append_right _ (List.mem_append_right _ (List.mem_append_left _ (List.mem_of_getElem? (i := 80) (show tables_1_3[80]? = _ from rfl))))), rfl⟩
set_option maxRecDepth 100000 in
theorem tm_15 : tm_P 15 := List.mem_filter.mpr ⟨List.mem_append_right _ (show _ ∈ tables_1_1 ++ (tables_1_2 ++ (tables_1_3 ++ tables_1_4)) from List.mem_append_right _ (List.mem_append_right _ (List.mem_append_left _ (List.mem_of_getElem? (i := 84) (show tables_1_3[84]? = _ from rfl))))), rfl⟩
set_option maxRecDepth 100000 in
theorem tm_16 : tm_P 16 := List.mem_filter.mpr ⟨List.mem_append_right _ (show _ ∈ tables_1_1 ++ (tables_1_2 ++ (tables_1_3 ++ tables_1_4)) from List.mem_append_right _ (List.mem_append_right _ (List.mem_append_left _ (List.mem_of_getElem? (i := 88) (show tables_1_3[88]? = _ from rfl))))), rfl⟩
set_option maxRecDepth 100000 in
theorem tm_17 : tm_P 17 := List.mem_filter.mpr ⟨List.mem_append_right _ (show _ ∈ tables_1_1 ++ (tables_1_2 ++ (tables_1_3 ++ tables_1_4)) from List.mem_append_right _ (List.mem_append_right _ (List.mem_append_left _ (List.mem_of_getElem? (i := 97) (show tables_1_3[97]? = _ from rfl))))), rfl⟩
set_option maxRecDepth 100000 in
theorem tm_18 : tm_P 18 := List.mem_filter.mpr ⟨List.mem_append_right _ (show _ ∈ tables_1_1 ++ (tables_1_2 ++ (tables_1_3 ++ tables_1_4)) from List.mem_append_right _ (List.mem_append_right _ (List.mem_append_left _ (List.mem_of_getElem? (i := 101) (show tables_1_3[101]? = _ from rfl))))), rfl⟩
set_option maxRecDepth 100000 in
theorem tm_19 : tm_P 19 := List.mem_filter.mpr ⟨List.mem_append_right _ (show _ ∈ tables_1_1 ++ (tables_1_2 ++ (tables_1_3 ++ tables_1_4)) from List.mem_append_right _ (List.mem_append_left _ (List.mem_of_getElem? (i := 37) (show tables_1_2[37]? = _ from rfl)))), rfl⟩
set_option maxRecDepth 100000 in
theorem tm_20 : tm_P 20 := List.mem_filter.mpr ⟨List.mem_append_right _ (show _ ∈ tables_1_1 ++ (tables_1_2 ++ (tables_1_3 ++ tables_1_4)) from List.mem_append_right _ (List.mem_append_left _ (List.mem_of_getElem? (i := 73) (show tables_1_2[73]? = _ from rfl)))), rfl⟩
set_option maxRecDepth 100000 in
theorem tm_21 : tm_P 21 := List.mem_filter.mpr ⟨List.mem_append_right _ (show _ ∈ tables_1_1 ++ (tables_1_2 ++ (tables_1_3 ++ tables_1_4)) from List.mem_append_right _ (List.mem_append_left _ (List.mem_of_getElem? (i := 176) (show tables_1_2[176]? = _ from rfl)))), rfl⟩
set_option maxRecDepth 100000 in
theorem tm_22 : tm_P 22 := List.mem_filter.mpr ⟨List.mem_append_right _ (show _ ∈ tables_1_1 ++ (tables_1_2 ++ (tables_1_3 ++ tables_1_4)) from List.mem_append_right _ (List.mem_append_right _ (List.mem_append_left _ (List.mem_of_getElem? (i := 105) (show tables_1_3[105]? = _ from rfl))))), rfl⟩
set_option maxRecDepth 100000 in
theorem tm_23 : tm_P 23 := List.mem_filter.mpr ⟨List.mem_append_right _ (show _ ∈ tables_1_1 ++ (tables_1_2 ++ (tables_1_3 ++ tables_1_4)) from List.mem_append_right _ (List.mem_append_left _ (List.mem_of_getElem? (i := 153) (show tables_1_2[153]? = _ from rfl)))), rfl⟩
set_option maxRecDepth 100000 in
theorem tm_24 : tm_P 24 := List.mem_filter.mpr ⟨List.mem_append_right _ (show _ ∈ tables_1_1 ++ (tables_1_2 ++ (tables_1_3 ++ tables_1_4)) from List.mem_append_right _ (List.mem_append_left _ (List.mem_of_getElem? (i := 157) (show tables_1_2[157]? = _ from rfl)))), rfl⟩
set_option maxRecDepth 100000 in
theorem tm_25 : tm_P 25 := List.mem_filter.mpr ⟨List.mem_append_right _ (show _ ∈ tables_1_1 ++ (tables_1_2 ++ (tables_1_3 ++ tables_1_4)) from List.mem_append_right _ (List.mem_append_left _ (List.mem_of_getElem? (i := 161) (show tables_1_2[161]? = _ from rfl)))), rfl⟩
set_option maxRecDepth 100000 in
theorem tm_26 : tm_P 26 := List.mem_filter.mpr ⟨List.mem_append_right _ (show _ ∈ tables_1_1 ++ (tables_1_2 ++ (tables_1_3 ++ tables_1_4)) from List.mem_append_right _ (List.mem_append_left _ (List.mem_of_getElem? (i := 165) (show tables_1_2[165]? = _ from rfl)))), rfl⟩
set_option maxRecDepth 100000 in
theorem tm_27 : tm_P 27 := List.mem_filter.mpr ⟨List.mem_append_right _ (show _ ∈ tables_1_1 ++ (tables_1_2 ++ (tables_1_3 ++ tables_1_4)) from List.mem_append_right _ (List.mem_append_left _ (List.mem_of_getElem? (i := 188) (show tables_1_2[188]? = _ from rfl)))), rfl⟩
set_option maxRecDepth 100000 in
theorem tm_28 : tm_P 28 := List.mem_filter.mpr ⟨List.mem_append_right _ (show _ ∈ tables_1_1 ++ (tables_1_2 ++ (tables_1_3 ++ tables_1_4)) from List.mem_append_right _ (List.mem_append_left _ (List.mem_of_getElem? (i := 200) (show tables_1_2[200]? = _ from rfl)))), rfl⟩
set_option maxRecDepth 100000 in
theorem tm_29 : tm_P 29 := List.mem_filter.mpr ⟨List.mem_append_right _ (show _ ∈ tables_1_1 ++ (tables_1_2 ++ (tables_1_3 ++ tables_1_4)) from List.mem_append_right _ (List.mem_append_left _ (List.mem_of_getElem? (i := 209) (show tables_1_2[209]? = _ from rfl)))), rfl⟩
set_option maxRecDepth 100000 in
theorem tm_30 : tm_P 30 := List.mem_filter.mpr ⟨List.mem_append_right _ (show _ ∈ tables_1_1 ++ (tables_1_2 ++ (tables_1_3 ++ tables_1_4)) from List.mem_append_right _ (List.mem_append_left _ (List.mem_of_getElem? (i := 213) (show tables_1_2[213]? = _ from rfl)))), rfl⟩
set_option maxRecDepth 100000 in
theorem tm_31 : tm_P 31 := List.mem_filter.mpr ⟨List.mem_append_right _ (show _ ∈ tables_1_1 ++ (tables_1_2 ++ (tables_1_3 ++ tables_1_4)) from List.mem_append_right _ (List.mem_append_left _ (List.mem_of_getElem? (i := 226) (show tables_1_2[226]? = _ from rfl)))), rfl⟩
set_option maxRecDepth 100000 in
theorem tm_32 : tm_P 32 := List.mem_filter.mpr ⟨List.mem_append_right _ (show _ ∈ tables_1_1 ++ (tables_1_2 ++ (tables_1_3 ++ tables_1_4)) from List.mem_append_right _ (List.mem_append_left _ (List.mem_of_getElem? (i := 230) (show tables_1_2[230]? = _ from rfl)))), rfl⟩
set_option maxRecDepth 100000 in
theorem tm_33 : tm_P 33 := List.mem_filter.mpr ⟨List.mem_append_right _ (show _ ∈ tables_1_1 ++ (tables_1_2 ++ (tables_1_3 ++ tables_1_4)) from List.mem_append_right _ (List.mem_append_left _ (List.mem_of_getElem? (i := 234) (show tables_1_2[234]? = _ from rfl)))), rfl⟩
set_option maxRecDepth 100000 in
theorem tm_34 : tm_P 34 := List.mem_filter.mpr ⟨List.mem_append_right _ (show _ ∈ tables_1_1 ++ (tables_1_2 ++ (tables_1_3 ++ tables_1_4)) from List.mem_append_right _ (List.mem_append_right _ (List.mem_append_left _ (List.mem_of_getElem? (i := 52) (show tables_1_3[52]? = _ from rfl))))), rfl⟩
set_option maxRecDepth 100000 in
theorem tm_35 : tm_P 35 := List.mem_filter.mpr ⟨List.mem_append_right _ (show _ ∈ tables_1_1 ++ (tables_1_2 ++ (tables_1_3 ++ tables_1_4)) from List.mem_append_right _ (List.mem_append_right _ (List.mem_append_left _ (List.mem_of_getElem? (i := 7) (show tables_1_3[7]? = _ from rfl))))), rfl⟩
set_option maxRecDepth 100000 in
theorem tm_36 : tm_P 36 := List.mem_filter.mpr ⟨List.mem_append_right _ (show _ ∈ tables_1_1 ++ (tables_1_2 ++ (tables_1_3 ++ tables_1_4)) from List.mem_append_right _ (List.mem_append_right _ (List.mem_append_left _ (List.mem_of_getElem? (i := 3) (show tables_1_3[3]? = _ from rfl))))), rfl⟩
set_option maxRecDepth 100000 in
theorem tm_37 : tm_P 37 := List.mem_filter.mpr ⟨List.mem_append_right _ (show _ ∈ tables_1_1 ++ (tables_1_2 ++ (tables_1_3 ++ tables_1_4)) from List.mem_append_right _ (List.mem_append_right _ (List.mem_append_left _ (List.mem_of_getElem? (i := 11) (show tables_1_3[11]? = _ from rfl))))), rfl⟩
set_option maxRecDepth 100000 in
theorem tm_38 : tm_P 38 := List.mem_filter.mpr ⟨List.mem_append_right _ (show _ ∈ tables_1_1 ++ (tables_1_2 ++ (tables_1_3 ++ tables_1_4)) from List.mem_append_right _ (List.mem_append_right _ (List.mem_append_left _ (List.mem_of_getElem? (i := 15) (show tables_1_3[15]? = _ from rfl))))), rfl⟩
set_option maxRecDepth 100000 in
theorem tm_39 : tm_P 39 := List.mem_filter.mpr ⟨List.mem_append_right _ (show _ ∈ tables_1_1 ++ (tables_1_2 ++ (tables_1_3 ++ tables_1_4)) from List.mem_append_left _ (List.mem_of_getElem? (i := 94) (show tables_1_1[94]? = _ from rfl))), rfl⟩
set_option maxRecDepth 100000 in
theorem tm_40 : tm_P 40 := List.mem_filter.mpr ⟨List.mem_append_right _ (show _ ∈ tables_1_1 ++ (tables_1_2 ++ (tables_1_3 ++ tables_1_4)) from List.mem_append_right _ (List.mem_append_left _ (List.mem_of_getElem? (i := 41) (show tables_1_2[41]? = _ from rfl)))), rfl⟩
set_option maxRecDepth 100000 in
theorem tm_41 : tm_P 41 := List.mem_filter.mpr ⟨List.mem_append_right _ (show _ ∈ tables_1_1 ++ (tables_1_2 ++ (tables_1_3 ++ tables_1_4)) from List.mem_append_right _ (List.mem_append_left _ (List.mem_of_getElem? (i := 49) (show tables_1_2[49]? = _ from rfl)))), rfl⟩
set_option maxRecDepth 100000 in
theorem tm_42 : tm_P 42 := List.mem_filter.mpr ⟨List.mem_append_right _ (show _ ∈ tables_1_1 ++ (tables_1_2 ++ (tables_1_3 ++ tables_1_4)) from List.mem_append_right _ (List.mem_append_left _ (List.mem_of_getElem? (i := 57) (show tables_1_2[57]? = _ from rfl)))), rfl⟩
set_option maxRecDepth 100000 in
theorem tm_43 : tm_P 43 := List.mem_filter.mpr ⟨List.mem_append_right _ (show _ ∈ tables_1_1 ++ (tables_1_2 ++ (tables_1_3 ++ tables_1_4)) from List.mem_append_right _ (List.mem_append_left _ (List.mem_of_getElem? (i := 61) (show tables_1_2[61]? = _ from rfl)))), rfl⟩
set_option maxRecDepth 100000 in
theorem tm_44 : tm_P 44 := List.mem_filter.mpr ⟨List.mem_append_right _ (show _ ∈ tables_1_1 ++ (tables_1_2 ++ (tables_1_3 ++ tables_1_4)) from List.mem_append_right _ (List.mem_append_left _ (List.mem_of_getElem? (i := 53) (show tables_1_2[53]? = _ from rfl)))), rfl⟩
set_option maxRecDepth 100000 in
theorem tm_45 : tm_P 45 := List.mem_filter.mpr ⟨List.mem_append_right _ (show _ ∈ tables_1_1 ++ (tables_1_2 ++ (tables_1_3 ++ tables_1_4)) from List.mem_append_right _ (List.mem_append_right _ (List.mem_append_left _ (List.mem_of_getElem? (i := 23) (show tables_1_3[23]? = _ from rfl))))), rfl⟩
set_option maxRecDepth 100000 in
theorem tm_46 : tm_P 46 := List.mem_filter.mpr ⟨List.mem_append_right _ (show _ ∈ tables_1_1 ++ (tables_1_2 ++ (tables_1_3 ++ tables_1_4)) from List.mem_append_left _ (List.mem_of_getElem? (i := 52) (show tables_1_1[52]? = _ from rfl))), rfl⟩
set_option maxRecDepth 100000 in
theorem tm_47 : tm_P 47 := List.mem_filter.mpr ⟨List.mem_append_right _ (show _ ∈ tables_1_1 ++ (tables_1_2 ++ (tables_1_3 ++ tables_1_4)) from List.mem_append_right _ (List.mem_append_left _ (List.mem_of_getElem? (i := 81) (show tables_1_2[81]? = _ from rfl)))), rfl⟩
set_option maxRecDepth 100000 in
theorem tm_48 : tm_P 48 := List.mem_filter.mpr ⟨List.mem_append_right _ (show _ ∈ tables_1_1 ++ (tables_1_2 ++ (tables_1_3 ++ tables_1_4)) from List.mem_append_right _ (List.mem_append_left _ (List.mem_of_getElem? (i := 86) (show tables_1_2[86]? = _ from rfl)))), rfl⟩
set_option maxRecDepth 100000 in
theorem tm_49 : tm_P 49 := List.mem_filter.mpr ⟨List.mem_append_right _ (show _ ∈ tables_1_1 ++ (tables_1_2 ++ (tables_1_3 ++ tables_1_4)) from List.mem_append_right _ (List.mem_append_left _ (List.mem_of_getElem? (i := 94) (show tables_1_2[94]? = _ from rfl)))), rfl⟩
set_option maxRecDepth 100000 in
theorem tm_50 : tm_P 50 := List.mem_filter.mpr ⟨List.mem_append_right _ (show _ ∈ tables_1_1 ++ (tables_1_2 ++ (tables_1_3 ++ tables_1_4)) from List.mem_append_right _ (List.mem_append_left _ (List.mem_of_getElem? (i := 102) (show tables_1_2[102]? = _ from rfl)))), rfl⟩
set_option maxRecDepth 100000 in
theorem tm_51 : tm_P 51 := List.mem_filter.mpr ⟨List.mem_append_right _ (show _ ∈ tables_1_1 ++ (tables_1_2 ++ (tables_1_3 ++ tables_1_4)) from List.mem_append_right _ (List.mem_append_left _ (List.mem_of_getElem? (i := 106) (show tables_1_2[106]? = _ from rfl)))), rfl⟩
set_option maxRecDepth 100000 in
theorem tm_52 : tm_P 52 := List.mem_filter.mpr ⟨List.mem_append_right _ (show _ ∈ tables_1_1 ++ (tables_1_2 ++ (tables_1_3 ++ tables_1_4)) from List.mem_append_right _ (List.mem_append_left _ (List.mem_of_getElem? (i := 110) (show tables_1_2[110]? = _ from rfl)))), rfl⟩
set_option maxRecDepth 100000 in
theorem tm_53 : tm_P 53 := List.mem_filter.mpr ⟨List.mem_append_right _ (show _ ∈ tables_1_1 ++ (tables_1_2 ++ (tables_1_3 ++ tables_1_4)) from List.mem_append_right _ (List.mem_append_left _ (List.mem_of_getElem? (i := 126) (show tables_1_2[126]? = _ from rfl)))), rfl⟩
set_option maxRecDepth 100000 in
theorem tm_54 : tm_P 54 := List.mem_filter.mpr ⟨List.mem_append_right _ (show _ ∈ tables_1_1 ++ (tables_1_2 ++ (tables_1_3 ++ tables_1_4)) from List.mem_append_right _ (List.mem_append_left _ (List.mem_of_getElem? (i := 90) (show tables_1_2[90]? = _ from rfl)))), rfl⟩
set_option maxRecDepth 100000 in
theorem tm_55 : tm_P 55 := List.mem_filter.mpr ⟨List.mem_append_right _ (show _ ∈ tables_1_1 ++ (tables_1_2 ++ (tables_1_3 ++ tables_1_4)) from List.mem_append_right _ (List.mem_append_left _ (List.mem_of_getElem? (i := 98) (show tables_1_2[98]? = _ from rfl)))), rfl⟩
set_option maxRecDepth 100000 in
theorem tm_56 : tm_P 56 := List.mem_filter.mpr ⟨List.mem_append_right _ (show _ ∈ tables_1_1 ++ (tables_1_2 ++ (tables_1_3 ++ tables_1_4)) from List.mem_append_right _ (List.mem_append_left _ (List.mem_of_getElem? (i := 114) (show tables_1_2[114]? = _ from rfl)))), rfl⟩
set_option maxRecDepth 100000 in
theorem tm_57 : tm_P 57 := List.mem_filter.mpr ⟨List.mem_append_right _ (show _ ∈ tables_1_1 ++ (tables_1_2 ++ (tables_1_3 ++ tables_1_4)) from List.mem_append_left _ (List.mem_of_getElem? (i := 58) (show tables_1_1[58]? = _ from rfl))), rfl⟩
set_option maxRecDepth 100000 in
theorem tm_58 : tm_P 58 := List.mem_filter.mpr ⟨List.mem_append_right _ (show _ ∈ tables_1_1 ++ (tables_1_2 ++ (tables_1_3 ++ tables_1_4)) from List.mem_append_left _ (List.mem_of_getElem? (i := 63) (show tables_1_1[63]? = _ from rfl))), rfl⟩
set_option maxRecDepth 100000 in
theorem tm_59 : tm_P 59 := List.mem_filter.mpr ⟨List.mem_append_right _ (show _ ∈ tables_1_1 ++ (tables_1_2 ++ (tables_1_3 ++ tables_1_4)) from List.mem_append_right _ (List.mem_append_left _ (List.mem_of_getElem? (i := 138) (show tables_1_2[138]? = _ from rfl)))), rfl⟩
set_option maxRecDepth 100000 in
theorem tm_60 : tm_P 60 := List.mem_filter.mpr ⟨List.mem_append_right _ (show _ ∈ tables_1_1 ++ (tables_1_2 ++ (tables_1_3 ++ tables_1_4)) from List.mem_append_right _ (List.mem_append_left _ (List.mem_of_getElem? (i := 134) (show tables_1_2[134]? = _ from rfl)))), rfl⟩
set_option maxRecDepth 100000 in
theorem tm_61 : tm_P 61 := List.mem_filter.mpr ⟨List.mem_append_right _ (show _ ∈ tables_1_1 ++ (tables_1_2 ++ (tables_1_3 ++ tables_1_4)) from List.mem_append_right _ (List.mem_append_left _ (List.mem_of_getElem? (i := 118) (show tables_1_2[118]? = _ from rfl)))), rfl⟩
set_option maxRecDepth 100000 in
theorem tm_62 : tm_P 62 := List.mem_filter.mpr ⟨List.mem_append_right _ (show _ ∈ tables_1_1 ++ (tables_1_2 ++ (tables_1_3 ++ tables_1_4)) from List.mem_append_right _ (List.mem_append_left _ (List.mem_of_getElem? (i := 122) (show tables_1_2[122]? = _ from rfl)))), rfl⟩
set_option maxRecDepth 100000 in
theorem tm_63 : tm_P 63 := List.mem_filter.mpr ⟨List.mem_append_right _ (show _ ∈ tables_1_1 ++ (tables_1_2 ++ (tables_1_3 ++ tables_1_4)) from List.mem_append_right _ (List.mem_append_right _ (List.mem_append_left _ (List.mem_of_getElem? (i := 64) (show tables_1_3[64]? = _ from rfl))))), rfl⟩
set_option maxRecDepth 100000 in
theorem tm_64 : tm_P 64 := List.mem_filter.mpr ⟨List.mem_append_right _ (show _ ∈ tables_1_1 ++ (tables_1_2 ++ (tables_1_3 ++ tables_1_4)) from List.mem_append_right _ (List.mem_append_right _ (List.mem_append_left _ (List.mem_of_getElem? (i := 72) (show tables_1_3[72]? = _ from rfl))))), rfl⟩
set_option maxRecDepth 100000 in
theorem tm_65 : tm_P 65 := List.mem_filter.mpr ⟨List.mem_append_right _ (show _ ∈ tables_1_1 ++ (tables_1_2 ++ (tables_1_3 ++ tables_1_4)) from List.mem_append_right _ (List.mem_append_right _ (List.mem_append_left _ (List.mem_of_getElem? (i := 68) (show tables_1_3[68]? = _ from rfl))))), rfl⟩
set_option maxRecDepth 100000 in
theorem tm_66 : tm_P 66 := List.mem_filter.mpr ⟨List.mem_append_right _ (show _ ∈ tables_1_1 ++ (tables_1_2 ++ (tables_1_3 ++ tables_1_4)) from List.mem_append_right _ (List.mem_append_right _ (List.mem_append_left _ (List.mem_of_getElem? (i := 27) (show tables_1_3[27]? = _ from rfl))))), rfl⟩
set_option maxRecDepth 100000 in
theorem tm_67 : tm_P 67 := List.mem_filter.mpr ⟨List.mem_append_right _ (show _ ∈ tables_1_1 ++ (tables_1_2 ++ (tables_1_3 ++ tables_1_4)) from List.mem_append_right _ (List.mem_append_right _ (List.mem_append_left _ (List.mem_of_getElem? (i := 35) (show tables_1_3[35]? = _ from rfl))))), rfl⟩
set_option maxRecDepth 100000 in
theorem tm_68 : tm_P 68 := List.mem_filter.mpr ⟨List.mem_append_right _ (show _ ∈ tables_1_1 ++ (tables_1_2 ++ (tables_1_3 ++ tables_1_4)) from List.mem_append_right _ (List.mem_append_right _ (List.mem_append_left _ (List.mem_of_getElem? (i := 31) (show tables_1_3[31]? = _ from rfl))))), rfl⟩
set_option maxRecDepth 100000 in
theorem tm_69 : tm_P 69 := List.mem_filter.mpr ⟨List.mem_append_right _ (show _ ∈ tables_1_1 ++ (tables_1_2 ++ (tables_1_3 ++ tables_1_4)) from List.mem_append_right _ (List.mem_append_right _ (List.mem_append_left _ (List.mem_of_getElem? (i := 39) (show tables_1_3[39]? = _ from rfl))))), rfl⟩
set_option maxRecDepth 100000 in
theorem tm_70 : tm_P 70 := List.mem_filter.mpr ⟨List.mem_append_right _ (show _ ∈ tables_1_1 ++ (tables_1_2 ++ (tables_1_3 ++ tables_1_4)) from List.mem_append_left _ (List.mem_of_getElem? (i := 121) (show tables_1_1[121]? = _ from rfl))), rfl⟩
set_option maxRecDepth 100000 in
theorem tm_71 : tm_P 71 := List.mem_filter.mpr ⟨List.mem_append_right _ (show _ ∈ tables_1_1 ++ (tables_1_2 ++ (tables_1_3 ++ tables_1_4)) from List.mem_append_right _ (List.mem_append_left _ (List.mem_of_getElem? (i := 77) (show tables_1_2[77]? = _ from rfl)))), rfl⟩
set_option maxRecDepth 100000 in
theorem tm_72 : tm_P 72 := List.mem_filter.mpr ⟨List.mem_append_right _ (show _ ∈ tables_1_1 ++ (tables_1_2 ++ (tables_1_3 ++ tables_1_4)) from List.mem_append_right _ (List.mem_append_left _ (List.mem_of_getElem? (i := 130) (show tables_1_2[130]? = _ from rfl)))), rfl⟩
set_option maxRecDepth 100000 in
theorem tm_73 : tm_P 73 := List.mem_filter.mpr ⟨List.mem_append_right _ (show _ ∈ tables_1_1 ++ (tables_1_2 ++ (tables_1_3 ++ tables_1_4)) from List.mem_append_left _ (List.mem_of_getElem? (i := 149) (show tables_1_1[149]? = _ from rfl))), rfl⟩
set_option maxRecDepth 100000 in
theorem tm_74 : tm_P 74 := List.mem_filter.mpr ⟨List.mem_append_right _ (show _ ∈ tables_1_1 ++ (tables_1_2 ++ (tables_1_3 ++ tables_1_4)) from List.mem_append_right _ (List.mem_append_left _ (List.mem_of_getElem? (i := 183) (show tables_1_2[183]? = _ from rfl)))), rfl⟩
set_option maxRecDepth 100000 in
theorem tm_75 : tm_P 75 := List.mem_filter.mpr ⟨List.mem_append_right _ (show _ ∈ tables_1_1 ++ (tables_1_2 ++ (tables_1_3 ++ tables_1_4)) from List.mem_append_right _ (List.mem_append_right _ (List.mem_append_left _ (List.mem_of_getElem? (i := 92) (show tables_1_3[92]? = _ from rfl))))), rfl⟩
set_option maxRecDepth 100000 in
theorem tm_76 : tm_P 76 := List.mem_filter.mpr ⟨List.mem_append_right _ (show _ ∈ tables_1_1 ++ (tables_1_2 ++ (tables_1_3 ++ tables_1_4)) from List.mem_append_right _ (List.mem_append_right _ (List.mem_append_left _ (List.mem_of_getElem? (i := 19) (show tables_1_3[19]? = _ from rfl))))), rfl⟩
set_option maxRecDepth 100000 in
theorem tm_77 : tm_P 77 := List.mem_filter.mpr ⟨List.mem_append_right _ (show _ ∈ tables_1_1 ++ (tables_1_2 ++ (tables_1_3 ++ tables_1_4)) from List.mem_append_left _ (List.mem_of_getElem? (i := 34) (show tables_1_1[34]? = _ from rfl))), rfl⟩
set_option maxRecDepth 100000 in
theorem tm_78 : tm_P 78 := List.mem_filter.mpr ⟨List.mem_append_right _ (show _ ∈ tables_1_1 ++ (tables_1_2 ++ (tables_1_3 ++ tables_1_4)) from List.mem_append_right _ (List.mem_append_left _ (List.mem_of_getElem? (i := 193) (show tables_1_2[193]? = _ from rfl)))), rfl⟩
set_option maxRecDepth 100000 in
theorem tm_79 : tm_P 79 := List.mem_filter.mpr ⟨List.mem_append_right _ (show _ ∈ tables_1_1 ++ (tables_1_2 ++ (tables_1_3 ++ tables_1_4)) from List.mem_append_right _ (List.mem_append_left _ (List.mem_of_getElem? (i := 204) (show tables_1_2[204]? = _ from rfl)))), rfl⟩
set_option maxRecDepth 100000 in
theorem tm_80 : tm_P 80 := List.mem_filter.mpr ⟨List.mem_append_right _ (show _ ∈ tables_1_1 ++ (tables_1_2 ++ (tables_1_3 ++ tables_1_4)) from List.mem_append_right _ (List.mem_append_left _ (List.mem_of_getElem? (i := 217) (show tables_1_2[217]? = _ from rfl)))), rfl⟩
set_option maxRecDepth 100000 in
theorem tm_81 : tm_P 81 := List.mem_filter.mpr ⟨List.mem_append_right _ (show _ ∈ tables_1_1 ++ (tables_1_2 ++ (tables_1_3 ++ tables_1_4)) from List.mem_append_left _ (List.mem_of_getElem? (i := 167) (show tables_1_1[167]? = _ from rfl))), rfl⟩
set_option maxRecDepth 100000 in
theorem tm_82 : tm_P 82 := List.mem_filter.mpr ⟨List.mem_append_right _ (show _ ∈ tables_1_1 ++ (tables_1_2 ++ (tables_1_3 ++ tables_1_4)) from List.mem_append_left _ (List.mem_of_getElem? (i := 193) (show tables_1_1[193]? = _ from rfl))), rfl⟩
set_option maxRecDepth 100000 in
theorem tm_83 : tm_P 83 := List.mem_filter.mpr ⟨List.mem_append_right _ (show _ ∈ tables_1_1 ++ (tables_1_2 ++ (tables_1_3 ++ tables_1_4)) from List.mem_append_right _ (List.mem_append_left _ (List.mem_of_getElem? (i := 238) (show tables_1_2[238]? = _ from rfl)))), rfl⟩
set_option maxRecDepth 100000 in
theorem tm_84 : tm_P 84 := List.mem_filter.mpr ⟨List.mem_append_right _ (show _ ∈ tables_1_1 ++ (tables_1_2 ++ (tables_1_3 ++ tables_1_4)) from List.mem_append_left _ (List.mem_of_getElem? (i := 187) (show tables_1_1[187]? = _ from rfl))), rfl⟩
set_option maxRecDepth 100000 in
theorem tm_85 : tm_P 85 := List.mem_filter.mpr ⟨List.mem_append_right _ (show _ ∈ tables_1_1 ++ (tables_1_2 ++ (tables_1_3 ++ tables_1_4)) from List.mem_append_right _ (List.mem_append_right _ (List.mem_append_left _ (List.mem_of_getElem? (i := 43) (show tables_1_3[43]? = _ from rfl))))), rfl⟩
set_option maxRecDepth 100000 in
theorem tm_86 : tm_P 86 := List.mem_filter.mpr ⟨List.mem_append_right _ (show _ ∈ tables_1_1 ++ (tables_1_2 ++ (tables_1_3 ++ tables_1_4)) from List.mem_append_right _ (List.mem_append_right _ (List.mem_append_left _ (List.mem_of_getElem? (i := 110) (show tables_1_3[110]? = _ from rfl))))), rfl⟩
set_option maxRecDepth 100000 in
theorem tm_87 : tm_P 87 := List.mem_filter.mpr ⟨List.mem_append_right _ (show _ ∈ tables_1_1 ++ (tables_1_2 ++ (tables_1_3 ++ tables_1_4)) from List.mem_append_right _ (List.mem_append_right _ (List.mem_append_right _ (List.mem_of_getElem? (i := 15) (show tables_1_4[15]? = _ from rfl))))), rfl⟩
set_option maxRecDepth 100000 in
theorem tm_88 : tm_P 88 := List.mem_filter.mpr ⟨List.mem_append_right _ (show _ ∈ tables_1_1 ++ (tables_1_2 ++ (tables_1_3 ++ tables_1_4)) from List.mem_append_right _ (List.mem_append_right _ (List.mem_append_right _ (List.mem_of_getElem? (i := 12) (show tables_1_4[12]? = _ from rfl))))), rfl⟩
set_option maxRecDepth 100000 in
theorem tm_89 : tm_P 89 := List.mem_filter.mpr ⟨List.mem_append_right _ (show _ ∈ tables_1_1 ++ (tables_1_2 ++ (tables_1_3 ++ tables_1_4)) from List.mem_append_right _ (List.mem_append_right _ (List.mem_append_right _ (List.mem_of_getElem? (i := 19) (show tables_1_4[19]? = _ from rfl))))), rfl⟩
set_option maxRecDepth 100000 in
theorem tm_90 : tm_P 90 := List.mem_filter.mpr ⟨List.mem_append_right _ (show _ ∈ tables_1_1 ++ (tables_1_2 ++ (tables_1_3 ++ tables_1_4)) from List.mem_append_right _ (List.mem_append_right _ (List.mem_append_right _ (List.mem_of_getElem? (i := 47) (show tables_1_4[47]? = _ from rfl))))), rfl⟩
set_option maxRecDepth 100000 in
theorem tm_91 : tm_P 91 := List.mem_filter.mpr ⟨List.mem_append_right _ (show _ ∈ tables_1_1 ++ (tables_1_2 ++ (tables_1_3 ++ tables_1_4)) from List.mem_append_right _ (List.mem_append_right _ (List.mem_append_right _ (List.mem_of_getElem? (i := 39) (show tables_1_4[39]? = _ from rfl))))), rfl⟩
set_option maxRecDepth 100000 in
theorem tm_92 : tm_P 92 := List.mem_filter.mpr ⟨List.mem_append_right _ (show _ ∈ tables_1_1 ++ (tables_1_2 ++ (tables_1_3 ++ tables_1_4)) from List.mem_append_right _ (List.mem_append_right _ (List.mem_append_right _ (List.mem_of_getElem? (i := 43) (show tables_1_4[43]? = _ from rfl))))), rfl⟩
set_option maxRecDepth 100000 in
theorem tm_93 : tm_P 93 := List.mem_filter.mpr ⟨List.mem_append_right _ (show _ ∈ tables_1_1 ++ (tables_1_2 ++ (tables_1_3 ++ tables_1_4)) from List.mem_append_right _ (List.mem_append_right _ (List.mem_append_right _ (List.mem_of_getElem? (i := 63) (show tables_1_4[63]? = _ from rfl))))), rfl⟩
set_option maxRecDepth 100000 in
theorem tm_94 : tm_P 94 := List.mem_filter.mpr ⟨List.mem_append_right _ (show _ ∈ tables_1_1 ++ (tables_1_2 ++ (tables_1_3 ++ tables_1_4)) from List.mem_append_right _ (List.mem_append_right _ (List.mem_append_right _ (List.mem_of_getElem? (i := 59) (show tables_1_4[59]? = _ from rfl))))), rfl⟩
set_option maxRecDepth 100000 in
theorem tm_95 : tm_P 95 := List.mem_filter.mpr ⟨List.mem_append_right _ (show _ ∈ tables_1_1 ++ (tables_1_2 ++ (tables_1_3 ++ tables_1_4)) from List.mem_append_right _ (List.mem_append_right _ (List.mem_append_right _ (List.mem_of_getElem? (i := 51) (show tables_1_4[51]? = _ from rfl))))), rfl⟩
set_option maxRecDepth 100000 in
theorem tm_96 : tm_P 96 := List.mem_filter.mpr ⟨List.mem_append_right _ (show _ ∈ tables_1_1 ++ (tables_1_2 ++ (tables_1_3 ++ tables_1_4)) from List.mem_append_right _ (List.mem_append_right _ (List.mem_append_right _ (List.mem_of_getElem? (i := 55) (show tables_1_4[55]? = _ from rfl))))), rfl⟩
set_option maxRecDepth 100000 in
theorem tm_97 : tm_P 97 := List.mem_filter.mpr ⟨List.mem_append_right _ (show _ ∈ tables_1_1 ++ (tables_1_2 ++ (tables_1_3 ++ tables_1_4)) from List.mem_append_right _ (List.mem_append_right _ (List.mem_append_right _ (List.mem_of_getElem? (i := 67) (show tables_1_4[67]? = _ from rfl))))), rfl⟩
set_option maxRecDepth 100000 in
theorem tm_98 : tm_P 98 := List.mem_filter.mpr ⟨List.mem_append_right _ (show _ ∈ tables_1_1 ++ (tables_1_2 ++ (tables_1_3 ++ tables_1_4)) from List.mem_append_right _ (List.mem_append_right _ (List.mem_append_right _ (List.mem_of_getElem? (i := 71) (show tables_1_4[71]? = _ from rfl))))), rfl⟩
set_option maxRecDepth 100000 in
theorem tm_99 : tm_P 99 := List.mem_filter.mpr ⟨List.mem_append_right _ (show _ ∈ tables_1_1 ++ (tables_1_2 ++ (tables_1_3 ++ tables_1_4)) from List.mem_append_right _ (List.mem_append_right _ (List.mem_append_right _ (List.mem_of_getElem? (i := 75) (show tables_1_4[75]? = _ from rfl))))), rfl⟩
set_option maxRecDepth 100000 in
theorem tm_100 : tm_P 100 := List.mem_filter.mpr ⟨List.mem_append_right _ (show _ ∈ tables_1_1 ++ (tables_1_2 ++ (tables_1_3 ++ tables_1_4)) from List.mem_append_right _ (List.mem_append_right _ (List.mem_append_right _ (List.mem_of_getElem? (i := 79) (show tables_1_4[79]? = _ from rfl))))), rfl⟩
set_option maxRecDepth 100000 in
theorem tm_101 : tm_P 101 := List.mem_filter.mpr ⟨List.mem_append_right _ (show _ ∈ tables_1_1 ++ (tables_1_2 ++ (tables_1_3 ++ tables_1_4)) from List.mem_append_right _ (List.mem_append_right _ (List.mem_append_right _ (List.mem_of_getElem? (i := 31) (show tables_1_4[31]? = _ from rfl))))), rfl⟩
set_option maxRecDepth 100000 in
theorem tm_102 : tm_P 102 := List.mem_filter.mpr ⟨List.mem_append_right _ (show _ ∈ tables_1_1 ++ (tables_1_2 ++ (tables_1_3 ++ tables_1_4)) from List.mem_append_right _ (List.mem_append_right _ (List.mem_append_right _ (List.mem_of_getElem? (i := 35) (show tables_1_4[35]? = _ from rfl))))), rfl⟩
set_option maxRecDepth 100000 in
theorem tm_103 : tm_P 103 := List.mem_filter.mpr ⟨List.mem_append_right _ (show _ ∈ tables_1_1 ++ (tables_1_2 ++ (tables_1_3 ++ tables_1_4)) from List.mem_append_right _ (List.mem_append_right _ (List.mem_append_right _ (List.mem_of_getElem? (i := 23) (show tables_1_4[23]? = _ from rfl))))), rfl⟩
set_option maxRecDepth 100000 in
theorem tm_104 : tm_P 104 := List.mem_filter.mpr ⟨List.mem_append_right _ (show _ ∈ tables_1_1 ++ (tables_1_2 ++ (tables_1_3 ++ tables_1_4)) from List.mem_append_right _ (List.mem_append_right _ (List.mem_append_right _ (List.mem_of_getElem? (i := 27) (show tables_1_4[27]? = _ from rfl))))), rfl⟩
set_option maxRecDepth 100000 in
theorem tm_105 : tm_P 105 := List.mem_filter.mpr ⟨List.mem_append_right _ (show _ ∈ tables_1_1 ++ (tables_1_2 ++ (tables_1_3 ++ tables_1_4)) from List.mem_append_right _ (List.mem_append_right _ (List.mem_append_right _ (List.mem_of_getElem? (i := 83) (show tables_1_4[83]? = _ from rfl))))), rfl⟩
set_option maxRecDepth 100000 in
theorem tm_106 : tm_P 106 := List.mem_filter.mpr ⟨List.mem_append_right _ (show _ ∈ tables_1_1 ++ (tables_1_2 ++ (tables_1_3 ++ tables_1_4)) from List.mem_append_right _ (List.mem_append_right _ (List.mem_append_right _ (List.mem_of_getElem? (i := 91) (show tables_1_4[91]? = _ from rfl))))), rfl⟩
set_option maxRecDepth 100000 in
theorem tm_107 : tm_P 107 := List.mem_filter.mpr ⟨List.mem_append_right _ (show _ ∈ tables_1_1 ++ (tables_1_2 ++ (tables_1_3 ++ tables_1_4)) from List.mem_append_right _ (List.mem_append_right _ (List.mem_append_right _ (List.mem_of_getElem? (i := 99) (show tables_1_4[99]? = _ from rfl))))), rfl⟩
set_option maxRecDepth 100000 in
theorem tm_108 : tm_P 108 := List.mem_filter.mpr ⟨List.mem_append_right _ (show _ ∈ tables_1_1 ++ (tables_1_2 ++ (tables_1_3 ++ tables_1_4)) from List.mem_append_right _ (List.mem_append_right _ (List.mem_append_right _ (List.mem_of_getElem? (i := 95) (show tables_1_4[95]? = _ from rfl))))), rfl⟩
set_option maxRecDepth 100000 in
theorem tm_109 : tm_P 109 := List.mem_filter.mpr ⟨List.mem_append_right _ (show _ ∈ tables_1_1 ++ (tables_1_2 ++ (tables_1_3 ++ tables_1_4)) from List.mem_append_right _ (List.mem_append_right _ (List.mem_append_right _ (List.mem_of_getElem? (i := 87) (show tables_1_4[87]? = _ from rfl))))), rfl⟩
set_option maxRecDepth 100000 in
theorem tm_110 : tm_P 110 := List.mem_filter.mpr ⟨List.mem_append_right _ (show _ ∈ tables_1_1 ++ (tables_1_2 ++ (tables_1_3 ++ tables_1_4)) from List.mem_append_right _ (List.mem_append_right _ (List.mem_append_right _ (List.mem_of_getElem? (i := 103) (show tables_1_4[103]? = _ from rfl))))), rfl⟩
set_option maxRecDepth 100000 in
theorem tm_111 : tm_P 111 := List.mem_filter.mpr ⟨List.mem_append_right _ (show _ ∈ tables_1_1 ++ (tables_1_2 ++ (tables_1_3 ++ tables_1_4)) from List.mem_append_right _ (List.mem_append_right _ (List.mem_append_right _ (List.mem_of_getElem? (i := 107) (show tables_1_4[107]? = _ from rfl))))), rfl⟩
set_option maxRecDepth 100000 in
theorem tm_112 : tm_P 112 := List.mem_filter.mpr ⟨List.mem_append_right _ (show _ ∈ tables_1_1 ++ (tables_1_2 ++ (tables_1_3 ++ tables_1_4)) from List.mem_append_right _ (List.mem_append_right _ (List.mem_append_right _ (List.mem_of_getElem? (i := 111) (show tables_1_4[111]? = _ from rfl))))), rfl⟩
set_option maxRecDepth 100000 in
theorem tm_113 : tm_P 113 := List.mem_filter.mpr ⟨List.mem_append_right _ (show _ ∈ tables_1_1 ++ (tables_1_2 ++ (tables_1_3 ++ tables_1_4)) from List.mem_append_right _ (List.mem_append_right _ (List.mem_append_right _ (List.mem_of_getElem? (i := 115) (show tables_1_4[115]? = _ from rfl))))), rfl⟩
set_option maxRecDepth 100000 in
theorem tm_114 : tm_P 114 := List.mem_filter.mpr ⟨List.mem_append_right _ (show _ ∈ tables_1_1 ++ (tables_1_2 ++ (tables_1_3 ++ tables_1_4)) from List.mem_append_right _ (List.mem_append_right _ (List.mem_append_right _ (List.mem_of_getElem? (i := 119) (show tables_1_4[119]? = _ from rfl))))), rfl⟩
set_option maxRecDepth 100000 in
theorem tm_115 : tm_P 115 := List.mem_filter.mpr ⟨List.mem_append_right _ (show _ ∈ tables_1_1 ++ (tables_1_2 ++ (tables_1_3 ++ tables_1_4)) from List.mem_append_right _ (List.mem_append_right _ (List.mem_append_right _ (List.mem_of_getElem? (i := 123) (show tables_1_4[123]? = _ from rfl))))), rfl⟩
set_option maxRecDepth 100000 in
theorem tm_116 : tm_P 116 := List.mem_filter.mpr ⟨List.mem_append_right _ (show _ ∈ tables_1_1 ++ (tables_1_2 ++ (tables_1_3 ++ tables_1_4)) from List.mem_append_right _ (List.mem_append_right _ (List.mem_append_right _ (List.mem_of_getElem? (i := 127) (show tables_1_4[127]? = _ from rfl))))), rfl⟩
set_option maxRecDepth 100000 in
theorem tm_117 : tm_P 117 := List.mem_filter.mpr ⟨List.mem_append_right _ (show _ ∈ tables_1_1 ++ (tables_1_2 ++ (tables_1_3 ++ tables_1_4)) from List.mem_append_right _ (List.mem_append_right _ (List.mem_append_right _ (List.mem_of_getElem? (i := 131) (show tables_1_4[131]? = _ from rfl))))), rfl⟩
set_option maxRecDepth 100000 in
theorem tm_118 : tm_P 118 := List.mem_filter.mpr ⟨List.mem_append_right _ (show _ ∈ tables_1_1 ++ (tables_1_2 ++ (tables_1_3 ++ tables_1_4)) from List.mem_append_right _ (List.mem_append_right _ (List.mem_append_right _ (List.mem_of_getElem? (i := 135) (show tables_1_4[135]? = _ from rfl))))), rfl⟩
set_option maxRecDepth 100000 in
theorem tm_119 : tm_P 119 := List.mem_filter.mpr ⟨List.mem_append_right _ (show _ ∈ tables_1_1 ++ (tables_1_2 ++ (tables_1_3 ++ tables_1_4)) from List.mem_append_right _ (List.mem_append_right _ (List.mem_append_right _ (List.mem_of_getElem? (i := 143) (show tables_1_4[143]? = _ from rfl))))), rfl⟩
set_option maxRecDepth 100000 in
theorem tm_120 : tm_P 120 := List.mem_filter.mpr ⟨List.mem_append_right _ (show _ ∈ tables_1_1 ++ (tables_1_2 ++ (tables_1_3 ++ tables_1_4)) from List.mem_append_right _ (List.mem_append_right _ (List.mem_append_right _ (List.mem_of_getElem? (i := 139) (show tables_1_4[139]? = _ from rfl))))), rfl⟩
set_option maxRecDepth 100000 in
theorem tm_121 : tm_P 121 := List.mem_filter.mpr ⟨List.mem_append_right _ (show _ ∈ tables_1_1 ++ (tables_1_2 ++ (tables_1_3 ++ tables_1_4)) from List.mem_append_right _ (List.mem_append_right _ (List.mem_append_right _ (List.mem_of_getElem? (i := 147) (show tables_1_4[147]? = _ from rfl))))), rfl⟩
set_option maxRecDepth 100000 in
theorem tm_122 : tm_P 122 := List.mem_filter.mpr ⟨List.mem_append_right _ (show _ ∈ tables_1_1 ++ (tables_1_2 ++ (tables_1_3 ++ tables_1_4)) from List.mem_append_right _ (List.mem_append_right _ (List.mem_append_right _ (List.mem_of_getElem? (i := 151) (show tables_1_4[151]? = _ from rfl))))), rfl⟩
theorem tg_0 : ∀ j ∈ [0, 1, 2, 3, 4, 5, 6, 7, 8, 9, 10, 11, 12, 13, 14, 15], tm_P j := List.forall_mem_cons.mpr ⟨tm_0, List.forall_mem_cons.mpr ⟨tm_1, List.forall_mem_cons.mpr ⟨tm_2, List.forall_mem_cons.mpr ⟨tm_3, List.forall_mem_cons.mpr ⟨tm_4, List.forall_mem_cons.mpr ⟨tm_5, List.forall_mem_cons.mpr ⟨tm_6, List.forall_mem_cons.mpr ⟨tm_7, List.forall_mem_cons.mpr ⟨tm_8, List.forall_mem_cons.mpr ⟨tm_9, List.forall_mem_cons.mpr ⟨tm_10, List.forall_mem_cons.mpr ⟨tm_11, List.forall_mem_cons.mpr ⟨tm_12, List.forall_mem_cons.mpr ⟨tm_13, List.forall_mem_cons.mpr ⟨tm_14, List.forall_mem_cons.mpr ⟨tm_15, fun _ h => absurd h List.not_mem_nil⟩⟩⟩⟩⟩⟩⟩⟩⟩⟩⟩⟩⟩⟩⟩⟩
theorem tg_1 : ∀ j ∈ [16, 17, 18, 19, 20, 21, 22, 23, 24, 25, 26, 27, 28, 29, 30, 31], tm_P j := List.forall_mem_cons.mpr ⟨tm_16, List.forall_mem_cons.mpr ⟨tm_17, List.forall_mem_cons.mpr ⟨tm_18, List.forall_mem_cons.mpr ⟨tm_19, List.forall_mem_cons.mpr ⟨tm_20, List.forall_mem_cons.mpr ⟨tm_21, List.forall_mem_cons.mpr ⟨tm_22, List.forall_mem_cons.mpr ⟨tm_23, List.forall_mem_cons.mpr ⟨tm_24, List.forall_mem_cons.mpr ⟨tm_25, List.forall_mem_cons.mpr ⟨tm_26, List.forall_mem_cons.mpr ⟨tm_27, List.forall_mem_cons.mpr ⟨tm_28, List.forall_mem_cons.mpr ⟨tm_29, List.forall_mem_cons.mpr ⟨tm_30, List.forall_mem_cons.mpr ⟨tm_31, fun _ h => absurd h List.not_mem_nil⟩⟩⟩⟩⟩⟩⟩⟩⟩⟩⟩⟩⟩⟩⟩⟩
theorem tg_2 : ∀ j ∈ [32, 33, 34, 35, 36, 37, 38, 39, 40, 41, 42, 43, 44, 45, 46, 47], tm_P j := List.forall_mem_cons.mpr ⟨tm_32, List.forall_mem_cons.mpr ⟨tm_33, List.forall_mem_cons.mpr ⟨tm_34, List.forall_mem_cons.mpr ⟨tm_35, List.forall_mem_cons.mpr ⟨tm_36, List.forall_mem_cons.mpr ⟨tm_37, List.forall_mem_cons.mpr ⟨tm_38, List.forall_mem_cons.mpr ⟨tm_39, List.forall_mem_cons.mpr ⟨tm_40, List.forall_mem_cons.mpr ⟨tm_41, List.forall_mem_cons.mpr ⟨tm_42, List.forall_mem_cons.mpr ⟨tm_43, List.forall_mem_cons.mpr ⟨tm_44, List.forall_mem_cons.mpr ⟨tm_45, List.forall_mem_cons.mpr ⟨tm_46, List.forall_mem_cons.mpr ⟨tm_47, fun _ h => absurd h List.not_mem_nil⟩⟩⟩⟩⟩⟩⟩⟩⟩⟩⟩⟩⟩⟩⟩⟩
theorem tg_3 : ∀ j ∈ [48, 49, 50, 51, 52, 53, 54, 55, 56, 57, 58, 59, 60, 61, 62, 63], tm_P j := List.forall_mem_cons.mpr ⟨tm_48, List.forall_mem_cons.mpr ⟨tm_49, List.forall_mem_cons.mpr ⟨tm_50, List.forall_mem_cons.mpr ⟨tm_51, List.forall_mem_cons.mpr ⟨tm_52, List.forall_mem_cons.mpr ⟨tm_53, List.forall_mem_cons.mpr ⟨tm_54, List.forall_mem_cons.mpr ⟨tm_55, List.forall_mem_cons.mpr ⟨tm_56, List.forall_mem_cons.mpr ⟨tm_57, List.forall_mem_cons.mpr ⟨tm_58, List.forall_mem_cons.mpr ⟨tm_59, List.forall_mem_cons.mpr ⟨tm_60, List.forall_mem_cons.mpr ⟨tm_61, List.forall_mem_cons.mpr ⟨tm_62, List.forall_mem_cons.mpr ⟨tm_63, fun _ h => absurd h List.not_mem_nil⟩⟩⟩⟩⟩⟩⟩⟩⟩⟩⟩⟩⟩⟩⟩⟩
theorem tg_4 : ∀ j ∈ [64, 65, 66, 67, 68, 69, 70, 71, 72, 73, 74, 75, 76, 77, 78, 79], tm_P j := List.forall_mem_cons.mpr ⟨tm_64, List.forall_mem_cons.mpr ⟨tm_65, List.forall_mem_cons.mpr ⟨tm_66, List.forall_mem_cons.mpr ⟨tm_67, List.forall_mem_cons.mpr ⟨tm_68, List.forall_mem_cons.mpr ⟨tm_69, List.forall_mem_cons.mpr ⟨tm_70, List.forall_mem_cons.mpr ⟨tm_71, List.forall_mem_cons.mpr ⟨tm_72, List.forall_mem_cons.mpr ⟨tm_73, List.forall_mem_cons.mpr ⟨tm_74, List.forall_mem_cons.mpr ⟨tm_75, List.forall_mem_cons.mpr ⟨tm_76, List.forall_mem_cons.mpr ⟨tm_77, List.forall_mem_cons.mpr ⟨tm_78, List.forall_mem_cons.mpr ⟨tm_79, fun _ h => absurd h List.not_mem_nil⟩⟩⟩⟩⟩⟩⟩⟩⟩⟩⟩⟩⟩⟩⟩⟩
theorem tg_5 : ∀ j ∈ [80, 81, 82, 83, 84, 85, 86, 87, 88, 89, 90, 91, 92, 93, 94, 95], tm_P j := List.forall_mem_cons.mpr ⟨tm_80, List.forall_mem_cons.mpr ⟨tm_81, List.forall_mem_cons.mpr ⟨tm_82, List.forall_mem_cons.mpr ⟨tm_83, List.forall_mem_cons.mpr ⟨tm_84, List.forall_mem_cons.mpr ⟨tm_85, List.forall_mem_cons.mpr ⟨tm_86, List.forall_mem_cons.mpr ⟨tm_87, List.forall_mem_cons.mpr ⟨tm_88, List.forall_mem_cons.mpr ⟨tm_89, List.forall_mem_cons.mpr ⟨tm_90, List.forall_mem_cons.mpr ⟨tm_91, List.forall_mem_cons.mpr ⟨tm_92, List.forall_mem_cons.mpr ⟨tm_93, List.forall_mem_cons.mpr ⟨tm_94, List.forall_mem_cons.mpr ⟨tm_95, fun _ h => absurd h List.not_mem_nil⟩⟩⟩⟩⟩⟩⟩⟩⟩⟩⟩⟩⟩⟩⟩⟩
theorem tg_6 : ∀ j ∈ [96, 97, 98, 99, 100, 101, 102, 103, 104, 105, 106, 107, 108, 109, 110, 111], tm_P j := List.forall_mem_cons.mpr ⟨tm_96, List.forall_mem_cons.mpr ⟨tm_97, List.forall_mem_cons.mpr ⟨tm_98, List.forall_mem_cons.mpr ⟨tm_99, List.forall_mem_cons.mpr ⟨tm_100, List.forall_mem_cons.mpr ⟨tm_101, List.forall_mem_cons.mpr ⟨tm_102, List.forall_mem_cons.mpr ⟨tm_103, List.forall_mem_cons.mpr ⟨tm_104, List.forall_mem_cons.mpr ⟨tm_105, List.forall_mem_cons.mpr ⟨tm_106, List.forall_mem_cons.mpr ⟨tm_107, List.forall_mem_cons.mpr ⟨tm_108, List.forall_mem_cons.mpr ⟨tm_109, List.forall_mem_cons.mpr ⟨tm_110, List.forall_mem_cons.mpr ⟨tm_111, fun _ h => absurd h List.not_mem_nil⟩⟩⟩⟩⟩⟩⟩⟩⟩⟩⟩⟩⟩⟩⟩⟩
theorem tg_7 : ∀ j ∈ [112, 113, 114, 115, 116, 117, 118, 119, 120, 121, 122], tm_P j := List.forall_mem_cons.mpr ⟨tm_112, List.forall_mem_cons.mpr ⟨tm_113, List.forall_mem_cons.mpr ⟨tm_114, List.forall_mem_cons.mpr ⟨tm_115, List.forall_mem_cons.mpr ⟨tm_116, List.forall_mem_cons.mpr ⟨tm_117, List.forall_mem_cons.mpr ⟨tm_118, List.forall_mem_cons.mpr ⟨tm_119, List.forall_mem_cons.mpr ⟨tm_120, List.forall_mem_cons.mpr ⟨tm_121, List.forall_mem_cons.mpr ⟨tm_122, fun _ h => absurd h List.not_mem_nil⟩⟩⟩⟩⟩⟩⟩⟩⟩⟩⟩
set_option maxRecDepth 100000 in
theorem tb_m (j : Nat) (h : j < nM) : Cond.code (mY j) (mB j) (mL j) (mR j) ∈ ew := by
  have hr : List.range nM = [0, 1, 2, 3, 4, 5, 6, 7, 8, 9, 10, 11, 12, 13, 14, 15] ++ ([16, 17, 18, 19, 20, 21, 22, 23, 24, 25, 26, 27, 28, 29, 30, 31] ++ ([32, 33, 34, 35, 36, 37, 38, 39, 40, 41, 42, 43, 44, 45, 46, 47] ++ ([48, 49, 50, 51, 52, 53, 54, 55, 56, 57, 58, 59, 60, 61, 62, 63] ++ ([64, 65, 66, 67, 68, 69, 70, 71, 72, 73, 74, 75, 76, 77, 78, 79] ++ ([80, 81, 82, 83, 84, 85, 86, 87, 88, 89, 90, 91, 92, 93, 94, 95] ++ ([96, 97, 98, 99, 100, 101, 102, 103, 104, 105, 106, 107, 108, 109, 110, 111] ++ ([112, 113, 114, 115, 116, 117, 118, 119, 120, 121, 122]))))))) := by decide +kernel
  have hj : j ∈ List.range nM := List.mem_range.mpr h
  rw [hr] at hj
  exact (List.forall_mem_append.mpr ⟨tg_0, List.forall_mem_append.mpr ⟨tg_1, List.forall_mem_append.mpr ⟨tg_2, List.forall_mem_append.mpr ⟨tg_3, List.forall_mem_append.mpr ⟨tg_4, List.forall_mem_append.mpr ⟨tg_5, List.forall_mem_append.mpr ⟨tg_6, tg_7⟩⟩⟩⟩⟩⟩⟩) j hj
set_option maxRecDepth 100000 in
theorem tb_j : ∀ j, j < nM → mO j < 11 ∧ ew_is (clJl.getD (mO j) 0) (.initialized (mY j).cls) = true ∧ ((mY j).cls ≠ "java/lang/invoke/MethodHandle" ∧ (mY j).cls ≠ "java/lang/invoke/VarHandle") ∧ (parseMethodDescriptor (mY j).desc).map (fun d => d.parameters.length) = some (mN j) ∧ mL j ≤ 40 ∧ plainName (mY j).cls = true ∧ oY (mO j) = (mY j).cls ∧ mN j + (bif mS j then 0 else 1) ≤ mL j := by decide +kernel
def ck_M (q : Nat × Nat × Nat × Nat × Nat × Nat × Nat) : Bool := match q.2.2.2.1 with
  | 0 => decide (q.2.2.1 < nM) && !mS q.2.2.1 && ew_is q.2.2.2.2.1 (.methodLink (oY q.1) q.2.1 (mY q.2.2.1)) && ew_is q.2.2.2.2.2.1 (.instanceMethod (mY q.2.2.1)) && ew_is q.2.2.2.2.2.2 (.selects (mY q.2.2.1).cls (mY q.2.2.1) (mY q.2.2.1))
  | 1 => decide (q.2.2.1 < nM) && mS q.2.2.1 && ew_is q.2.2.2.2.1 (.methodLink (oY q.1) q.2.1 (mY q.2.2.1)) && ew_is q.2.2.2.2.2.1 (.static (mY q.2.2.1))
  | 2 => decide (q.2.2.1 < nM) && !mS q.2.2.1 && ew_is q.2.2.2.2.1 (.methodLink (oY q.1) q.2.1 (mY q.2.2.1)) && ew_is q.2.2.2.2.2.1 (.instanceMethod (mY q.2.2.1)) && decide ((mY q.2.2.1).name = "<init>") && decide (mR q.2.2.1 = none)
  | 3 => decide (q.2.2.1 < nM) && !mS q.2.2.1 && decide (nWM[q.2.2.2.2.1]? = some (oY q.1, q.2.1, mY q.2.2.1, "EndorsedLedger")) && ew_is q.2.2.2.2.2.1 (.instanceMethod (mY q.2.2.1)) && ew_is q.2.2.2.2.2.2 (.selects (mY q.2.2.1).cls (mY q.2.2.1) (mY q.2.2.1))
  | 4 => decide (q.2.2.1 < nM) && mS q.2.2.1 && decide (nWM[q.2.2.2.2.1]? = some (oY q.1, q.2.1, mY q.2.2.1, "EndorsedLedger")) && ew_is q.2.2.2.2.2.1 (.static (mY q.2.2.1))
  | 5 => decide (q.2.2.1 < nM) && !mS q.2.2.1 && decide (nWM[q.2.2.2.2.1]? = some (oY q.1, q.2.1, mY q.2.2.1, "EndorsedLedger")) && ew_is q.2.2.2.2.2.1 (.instanceMethod (mY q.2.2.1)) && decide ((mY q.2.2.1).name = "<init>") && decide (mR q.2.2.1 = none)
  | 6 => ew_is q.2.2.2.2.1 (.methodLink (oY q.1) q.2.1 objectInit)
  | 7 => ew_is q.2.2.2.2.1 (.methodLink (oY q.1) q.2.1 Lib.Math.max.name)
  | 8 => ew_is q.2.2.2.2.1 (.methodLink (oY q.1) q.2.1 Lib.Math.min.name)
  | _ => ew_is q.2.2.2.2.1 (.methodLink (oY q.1) q.2.1 arraycopyName)
set_option maxRecDepth 100000 in
theorem ck_M_ok : kMl.all ck_M = true := by decide +kernel
set_option maxRecDepth 100000 in
theorem tb_C : ∀ q ∈ kCl, q.2.2.1 < 11 ∧ ew_is q.2.2.2 (.classLink (oY q.1) q.2.1 (oY q.2.2.1)) = true := by decide +kernel
set_option maxRecDepth 100000 in
theorem tb_A : ∀ q ∈ kAl, 2 ≤ q.2.2.1 ∧ q.2.2.1 < 7 ∧ ew_is q.2.2.2 (.classLink (oY q.1) q.2.1 (nA.getD (q.2.2.1 - 2) "")) = true ∧ xA[q.2.2.1]? = some (.object (nA.getD (q.2.2.1 - 2) "")) := by decide +kernel
set_option maxRecDepth 100000 in
theorem tb_nA : ∀ k, k < 5 → lw_tbl[nAi.getD k 0]? = some (.arrayOver (.object (nA.getD k ""))) := by decide +kernel
set_option maxRecDepth 100000 in
theorem tb_nF : ∀ k, k < nWF.length → (nWF[k]?).map (fun q => Cond.fieldLinkNest q.1 q.2.1 q.2.2.1 q.2.2.2.1 q.2.2.2.2.1 q.2.2.2.2.2) = lw_tbl[nWFi.getD k 0]? := by decide +kernel
set_option maxRecDepth 100000 in
theorem tb_nM : ∀ k, k < nWM.length → (nWM[k]?).map (fun q => Cond.methodLinkNest q.1 q.2.1 q.2.2.1 q.2.2.2) = lw_tbl[nWMi.getD k 0]? := by decide +kernel
set_option maxRecDepth 100000 in
theorem T_AI : Cond.arrayClass (newarray.typeOf .int) ∈ ew := ew_in (ix := 118) (by decide +kernel)
set_option maxRecDepth 100000 in
theorem T_AZ : Cond.arrayClass (newarray.typeOf .boolean) ∈ ew := ew_in (ix := 801) (by decide +kernel)
set_option maxRecDepth 100000 in
theorem tb_6 : ew_is 93 (.instanceMethod objectInit) = true ∧ Cond.code objectInit ⟨#[0xb1]⟩ 1 none ∈ ew := ⟨by decide +kernel, List.mem_filter.mpr ⟨List.mem_append_right _ (show _ ∈ tables_1_1 ++ (tables_1_2 ++ (tables_1_3 ++ tables_1_4)) from List.mem_append_left _ (List.mem_of_getElem? (i := 21) (show tables_1_1[21]? = _ from rfl))), rfl⟩⟩
set_option maxRecDepth 100000 in
theorem tb_7 : ew_is 480 (.static Lib.Math.max.name) = true ∧ ew_is 86 (.initialized "java/lang/Math") = true ∧ Cond.code Lib.Math.max.name Lib.Math.max.code 2 (some .int) ∈ ew := ⟨by decide +kernel, by decide +kernel, List.mem_filter.mpr ⟨List.mem_append_right _ (show _ ∈ tables_1_1 ++ (tables_1_2 ++ (tables_1_3 ++ tables_1_4)) from List.mem_append_right _ (List.mem_append_left _ (List.mem_of_getElem? (i := 168) (show tables_1_2[168]? = _ from rfl)))), rfl⟩⟩
set_option maxRecDepth 100000 in
theorem tb_8 : ew_is 491 (.static Lib.Math.min.name) = true ∧ ew_is 86 (.initialized "java/lang/Math") = true ∧ Cond.code Lib.Math.min.name Lib.Math.min.code 2 (some .int) ∈ ew := ⟨by decide +kernel, by decide +kernel, List.mem_filter.mpr ⟨List.mem_append_right _ (show _ ∈ tables_1_1 ++ (tables_1_2 ++ (tables_1_3 ++ tables_1_4)) from List.mem_append_right _ (List.mem_append_left _ (List.mem_of_getElem? (i := 179) (show tables_1_2[179]? = _ from rfl)))), rfl⟩⟩
set_option maxRecDepth 100000 in
theorem tb_9 : ew_is 454 (.native arraycopyName) = true ∧ ew_is 453 (.static arraycopyName) = true ∧ ew_is 85 (.initialized "java/lang/System") = true := by decide +kernel
/-! what the engine asks of the tables -/
theorem T_A0 : xA[0]? = some .int := rfl
theorem T_A1 : xA[1]? = some .boolean := rfl
theorem vwCl_at {ci : Nat} (h : ci < 11) : vwCl[ci]? = some (oY ci, clT ci, clN ci) := by
  unfold vwCl
  rw [List.getElem?_map, List.getElem?_range h]
  rfl
theorem vwCl_of {ci N : Nat} {C : String} {T : u_T} (h : vwCl[ci]? = some (C, T, N)) : ci < 11 ∧ C = oY ci ∧ T = clT ci ∧ N = clN ci := by
  have hl : ci < 11 := by
    have := (List.getElem?_eq_some_iff.mp h).1
    simpa [vwCl] using this
  rw [vwCl_at hl] at h
  cases h
  exact ⟨hl, rfl, rfl, rfl⟩
theorem T_cls {ci N : Nat} {C : String} {T : u_T} (h : vwCl[ci]? = some (C, T, N)) : (∀ w ∈ u_ws C T N, w ∈ ew) ∧ (∀ k, k < N → parseFieldDescriptor (T k).2.2.1 = some (xT ci k)) ∧ (∀ a, a < N → ∀ b, b < N → a ≠ b → (T a).2.1 ≠ (T b).2.1) ∧ Cond.instantiable C N ∈ ew ∧ Cond.initialized C ∈ ew ∧ ci < 99 := by
  obtain ⟨hl, rfl, rfl, rfl⟩ := vwCl_of h
  refine ⟨fun w hw => ?_, tb_ty ci hl, tb_nm ci hl, ew_in (tb_in ci hl).1, ew_in (tb_in ci hl).2, by omega⟩
  obtain ⟨k, hk, rfl⟩ := List.mem_map.mp hw
  exact ew_in (tb_cls ci hl k (List.mem_range.mp hk))
theorem T_ty {ci N k : Nat} {C : String} {T : u_T} (h : vwCl[ci]? = some (C, T, N)) (hk : k < N) : xT ci k = .int ∨ xT ci k = .boolean ∨ (∃ C, xT ci k = .object C) ∨ ∃ t, xT ci k = .array t := by
  obtain ⟨hl, rfl, rfl, rfl⟩ := vwCl_of h
  have h4 := tb_t4 ci hl k hk
  cases hx : xT ci k <;> rw [hx] at h4 <;> simp [tb_k4] at h4 ⊢
theorem T_I {ci N k : Nat} {C : String} {T : u_T} (h : vwCl[ci]? = some (C, T, N)) (hk : k < N) : kI ci k = (T k).2.2.2 := by
  obtain ⟨hl, rfl, rfl, rfl⟩ := vwCl_of h
  rfl
theorem T_oY {ci N : Nat} {C : String} {T : u_T} (h : vwCl[ci]? = some (C, T, N)) : C = oY ci := (vwCl_of h).2.1
theorem find_q {α β : Type} {l : List α} {p : α → Bool} {f : α → β} {y : β} (h : (l.find? p).map f = some y) : ∃ q, q ∈ l ∧ p q = true ∧ f q = y := by
  cases hf : l.find? p with
  | none => rw [hf] at h; cases h
  | some q =>
    rw [hf] at h
    exact ⟨q, List.mem_of_find?_eq_some hf, List.find?_some hf, Option.some.inj h⟩
theorem T_F {o idx ci k : Nat} {nb : Bool} (h : kF o idx = some (ci, k, nb)) : ∃ (C : String) (T : u_T) (N : Nat) (host : String), vwCl[ci]? = some (C, T, N) ∧ k < N ∧ (T k).1 = C ∧ (nb = false → Cond.fieldLink (oY o) idx C (T k).2.1 (T k).2.2.1 ∈ ew) ∧ (nb = true → (oY o, idx, C, (T k).2.1, (T k).2.2.1, host) ∈ nWF) := by
  obtain ⟨q, hq, hp, hf⟩ := find_q h
  simp only [Bool.and_eq_true, beq_iff_eq] at hp
  cases hf
  obtain ⟨rfl, rfl⟩ := hp
  obtain ⟨h1, h2, h3, h4⟩ := tb_F q hq
  exact ⟨_, _, _, "EndorsedLedger", vwCl_at h1, h2, rfl, fun hb => ew_in (h4 hb), fun hb => List.mem_of_getElem? (h3 hb)⟩
theorem T_j {j : Nat} (h : j < nM) : Cond.code (mY j) (mB j) (mL j) (mR j) ∈ ew ∧ Cond.initialized (mY j).cls ∈ ew ∧ ((mY j).cls ≠ "java/lang/invoke/MethodHandle" ∧ (mY j).cls ≠ "java/lang/invoke/VarHandle") ∧ (parseMethodDescriptor (mY j).desc).map (fun d => d.parameters.length) = some (mN j) ∧ mL j ≤ 40 ∧ plainName (mY j).cls = true ∧ oY (mO j) = (mY j).cls ∧ mN j + (bif mS j then 0 else 1) ≤ mL j ∧ (mS j = false → ∃ (C : String) (T : u_T) (N : Nat), vwCl[mO j]? = some (C, T, N) ∧ C = (mY j).cls) := by
  obtain ⟨h1, h2, h3, h4, h5, h6, h7, h8⟩ := tb_j j h
  exact ⟨tb_m j h, ew_in h2, h3, h4, h5, h6, h7, h8, fun _ => ⟨_, _, _, vwCl_at h1, h7⟩⟩
theorem tb_Mq {o idx j md : Nat} (h : kM o idx = some (j, md)) : ∃ q, q ∈ kMl ∧ q.1 = o ∧ q.2.1 = idx ∧ q.2.2.1 = j ∧ q.2.2.2.1 = md := by
  obtain ⟨q, hq, hp, hf⟩ := find_q h
  simp only [Bool.and_eq_true, beq_iff_eq] at hp
  cases hf
  exact ⟨q, hq, hp.1, hp.2, rfl, rfl⟩
theorem T_V {o idx j : Nat} (h : kM o idx = some (j, 0)) : j < nM ∧ mS j = false ∧ Cond.methodLink (oY o) idx (mY j) ∈ ew ∧ Cond.instanceMethod (mY j) ∈ ew ∧ Cond.selects (mY j).cls (mY j) (mY j) ∈ ew := by
  obtain ⟨q, hq, rfl, rfl, rfl, hm⟩ := tb_Mq h
  have h1 := List.all_eq_true.mp ck_M_ok q hq
  unfold ck_M at h1
  rw [hm] at h1
  simp only [Bool.and_eq_true, decide_eq_true_eq, Bool.not_eq_true'] at h1
  obtain ⟨⟨⟨⟨a1, a2⟩, a3⟩, a4⟩, a5⟩ := h1
  exact ⟨a1, a2, ew_in a3, ew_in a4, ew_in a5⟩
theorem T_S {o idx j : Nat} (h : kM o idx = some (j, 1)) : j < nM ∧ mS j = true ∧ Cond.methodLink (oY o) idx (mY j) ∈ ew ∧ Cond.static (mY j) ∈ ew := by
  obtain ⟨q, hq, rfl, rfl, rfl, hm⟩ := tb_Mq h
  have h1 := List.all_eq_true.mp ck_M_ok q hq
  unfold ck_M at h1
  rw [hm] at h1
  simp only [Bool.and_eq_true, decide_eq_true_eq, Bool.not_eq_true'] at h1
  obtain ⟨⟨⟨a1, a2⟩, a3⟩, a4⟩ := h1
  exact ⟨a1, a2, ew_in a3, ew_in a4⟩
theorem T_I2 {o idx j : Nat} (h : kM o idx = some (j, 2)) : j < nM ∧ mS j = false ∧ Cond.methodLink (oY o) idx (mY j) ∈ ew ∧ Cond.instanceMethod (mY j) ∈ ew ∧ (mY j).name = "<init>" ∧ mR j = none := by
  obtain ⟨q, hq, rfl, rfl, rfl, hm⟩ := tb_Mq h
  have h1 := List.all_eq_true.mp ck_M_ok q hq
  unfold ck_M at h1
  rw [hm] at h1
  simp only [Bool.and_eq_true, decide_eq_true_eq, Bool.not_eq_true'] at h1
  obtain ⟨⟨⟨⟨⟨a1, a2⟩, a3⟩, a4⟩, a5⟩, a6⟩ := h1
  exact ⟨a1, a2, ew_in a3, ew_in a4, a5, a6⟩
theorem T_VN {o idx j : Nat} (h : kM o idx = some (j, 3)) : j < nM ∧ mS j = false ∧ ∃ host, (oY o, idx, mY j, host) ∈ nWM ∧ Cond.instanceMethod (mY j) ∈ ew ∧ Cond.selects (mY j).cls (mY j) (mY j) ∈ ew := by
  obtain ⟨q, hq, rfl, rfl, rfl, hm⟩ := tb_Mq h
  have h1 := List.all_eq_true.mp ck_M_ok q hq
  unfold ck_M at h1
  rw [hm] at h1
  simp only [Bool.and_eq_true, decide_eq_true_eq, Bool.not_eq_true'] at h1
  obtain ⟨⟨⟨⟨a1, a2⟩, a3⟩, a4⟩, a5⟩ := h1
  exact ⟨a1, a2, _, List.mem_of_getElem? a3, ew_in a4, ew_in a5⟩
theorem T_SN {o idx j : Nat} (h : kM o idx = some (j, 4)) : j < nM ∧ mS j = true ∧ ∃ host, (oY o, idx, mY j, host) ∈ nWM ∧ Cond.static (mY j) ∈ ew := by
  obtain ⟨q, hq, rfl, rfl, rfl, hm⟩ := tb_Mq h
  have h1 := List.all_eq_true.mp ck_M_ok q hq
  unfold ck_M at h1
  rw [hm] at h1
  simp only [Bool.and_eq_true, decide_eq_true_eq, Bool.not_eq_true'] at h1
  obtain ⟨⟨⟨a1, a2⟩, a3⟩, a4⟩ := h1
  exact ⟨a1, a2, _, List.mem_of_getElem? a3, ew_in a4⟩
theorem T_IN {o idx j : Nat} (h : kM o idx = some (j, 5)) : j < nM ∧ mS j = false ∧ ∃ host, (oY o, idx, mY j, host) ∈ nWM ∧ Cond.instanceMethod (mY j) ∈ ew ∧ (mY j).name = "<init>" ∧ mR j = none := by
  obtain ⟨q, hq, rfl, rfl, rfl, hm⟩ := tb_Mq h
  have h1 := List.all_eq_true.mp ck_M_ok q hq
  unfold ck_M at h1
  rw [hm] at h1
  simp only [Bool.and_eq_true, decide_eq_true_eq, Bool.not_eq_true'] at h1
  obtain ⟨⟨⟨⟨⟨a1, a2⟩, a3⟩, a4⟩, a5⟩, a6⟩ := h1
  exact ⟨a1, a2, _, List.mem_of_getElem? a3, ew_in a4, a5, a6⟩
theorem T_N6 {o idx j : Nat} (h : kM o idx = some (j, 6)) : Cond.methodLink (oY o) idx objectInit ∈ ew ∧ Cond.instanceMethod objectInit ∈ ew ∧ Cond.code objectInit ⟨#[0xb1]⟩ 1 none ∈ ew := by
  obtain ⟨q, hq, rfl, rfl, rfl, hm⟩ := tb_Mq h
  have h1 := List.all_eq_true.mp ck_M_ok q hq
  unfold ck_M at h1
  rw [hm] at h1
  exact ⟨ew_in h1, ew_in tb_6.1, tb_6.2⟩
theorem T_N7 {o idx j : Nat} (h : kM o idx = some (j, 7)) : Cond.methodLink (oY o) idx Lib.Math.max.name ∈ ew ∧ Cond.static Lib.Math.max.name ∈ ew ∧ Cond.initialized "java/lang/Math" ∈ ew ∧ Cond.code Lib.Math.max.name Lib.Math.max.code 2 (some .int) ∈ ew := by
  obtain ⟨q, hq, rfl, rfl, rfl, hm⟩ := tb_Mq h
  have h1 := List.all_eq_true.mp ck_M_ok q hq
  unfold ck_M at h1
  rw [hm] at h1
  exact ⟨ew_in h1, ew_in tb_7.1, ew_in tb_7.2.1, tb_7.2.2⟩
theorem T_N8 {o idx j : Nat} (h : kM o idx = some (j, 8)) : Cond.methodLink (oY o) idx Lib.Math.min.name ∈ ew ∧ Cond.static Lib.Math.min.name ∈ ew ∧ Cond.initialized "java/lang/Math" ∈ ew ∧ Cond.code Lib.Math.min.name Lib.Math.min.code 2 (some .int) ∈ ew := by
  obtain ⟨q, hq, rfl, rfl, rfl, hm⟩ := tb_Mq h
  have h1 := List.all_eq_true.mp ck_M_ok q hq
  unfold ck_M at h1
  rw [hm] at h1
  exact ⟨ew_in h1, ew_in tb_8.1, ew_in tb_8.2.1, tb_8.2.2⟩
theorem T_N9 {o idx j : Nat} (h : kM o idx = some (j, 9)) : Cond.methodLink (oY o) idx arraycopyName ∈ ew ∧ Cond.native arraycopyName ∈ ew ∧ Cond.static arraycopyName ∈ ew ∧ Cond.initialized "java/lang/System" ∈ ew := by
  obtain ⟨q, hq, rfl, rfl, rfl, hm⟩ := tb_Mq h
  have h1 := List.all_eq_true.mp ck_M_ok q hq
  unfold ck_M at h1
  rw [hm] at h1
  exact ⟨ew_in h1, ew_in tb_9.1, ew_in tb_9.2.1, ew_in tb_9.2.2⟩
theorem T_C {o idx ci N : Nat} {C : String} {T : u_T} (h : kC o idx = some ci) (hc : vwCl[ci]? = some (C, T, N)) : Cond.classLink (oY o) idx C ∈ ew := by
  obtain ⟨q, hq, hp, hf⟩ := find_q h
  simp only [Bool.and_eq_true, beq_iff_eq] at hp
  cases hf
  obtain ⟨rfl, rfl⟩ := hp
  obtain ⟨h1, h2⟩ := tb_C q hq
  rw [T_oY hc]
  exact ew_in h2
theorem T_A {o idx t : Nat} (h : kA o idx = some t) : ∃ C, xA[t]? = some (.object C) ∧ Cond.classLink (oY o) idx C ∈ ew ∧ C ∈ nA := by
  obtain ⟨q, hq, hp, hf⟩ := find_q h
  simp only [Bool.and_eq_true, beq_iff_eq] at hp
  cases hf
  obtain ⟨rfl, rfl⟩ := hp
  obtain ⟨h1, h2, h3, h4⟩ := tb_A q hq
  refine ⟨_, h4, ew_in h3, ?_⟩
  have : q.2.2.1 - 2 < nA.length := by show q.2.2.1 - 2 < 5; omega
  rw [List.getD_eq_getElem?_getD, List.getElem?_eq_getElem this]
  exact List.getElem_mem this
