def ty_WE : Nat → FieldType := fun k => match k with
  | 0 => .int
  | 1 => .object "WordEvidence$Text"
  | 2 => .object "WordEvidence$Shelf"
  | 3 => .object "WordEvidence$Shelf"
  | 4 => .object "WordEvidence$Log"
  | _ => .object "WordEvidence$Chances"
theorem in_WE : ∀ x ∈ u_ws "WordEvidence" T_WE 6, x ∈ lw_tbl := by decide +kernel
theorem zg_WE : ((u_ws "WordEvidence" T_WE 6).all zw_g) = true := by decide +kernel
theorem cf_WE : zw_cf 0 "WordEvidence" T_WE 6 := ⟨rfl, fun x hx => zw_inT (in_WE x hx) (List.all_eq_true.mp zg_WE x hx), ⟨ty_WE, by decide +kernel⟩, by decide +kernel⟩
def ty_Text : Nat → FieldType := fun k => match k with
  | 0 => .array .long
  | 1 => .int
  | 2 => .int
  | _ => .int
theorem in_Text : ∀ x ∈ u_ws "WordEvidence$Text" T_Text 4, x ∈ lw_tbl := by decide +kernel
theorem zg_Text : ((u_ws "WordEvidence$Text" T_Text 4).all zw_g) = true := by decide +kernel
theorem cf_Text : zw_cf 1 "WordEvidence$Text" T_Text 4 := ⟨rfl, fun x hx => zw_inT (in_Text x hx) (List.all_eq_true.mp zg_Text x hx), ⟨ty_Text, by decide +kernel⟩, by decide +kernel⟩
def ty_Shelf : Nat → FieldType := fun k => match k with
  | 0 => .array (.object "WordEvidence$Document")
  | _ => .array .long
theorem in_Shelf : ∀ x ∈ u_ws "WordEvidence$Shelf" T_Shelf 2, x ∈ lw_tbl := by decide +kernel
theorem zg_Shelf : ((u_ws "WordEvidence$Shelf" T_Shelf 2).all zw_g) = true := by decide +kernel
theorem cf_Shelf : zw_cf 2 "WordEvidence$Shelf" T_Shelf 2 := ⟨rfl, fun x hx => zw_inT (in_Shelf x hx) (List.all_eq_true.mp zg_Shelf x hx), ⟨ty_Shelf, by decide +kernel⟩, by decide +kernel⟩
def ty_Log : Nat → FieldType := fun k => match k with
  | 0 => .array .int
  | 1 => .array .int
  | 2 => .array (.object "WordEvidence$Document")
  | 3 => .int
  | _ => .int
theorem in_Log : ∀ x ∈ u_ws "WordEvidence$Log" T_Log 5, x ∈ lw_tbl := by decide +kernel
theorem zg_Log : ((u_ws "WordEvidence$Log" T_Log 5).all zw_g) = true := by decide +kernel
theorem cf_Log : zw_cf 3 "WordEvidence$Log" T_Log 5 := ⟨rfl, fun x hx => zw_inT (in_Log x hx) (List.all_eq_true.mp zg_Log x hx), ⟨ty_Log, by decide +kernel⟩, by decide +kernel⟩
def ty_Chances : Nat → FieldType := fun k => match k with
  | 0 => .array .int
  | 1 => .array (.array .int)
  | 2 => .array .int
  | 3 => .object "WordEvidence$Product"
  | 4 => .object "WordEvidence$Product"
  | 5 => .int
  | _ => .int
theorem in_Chances : ∀ x ∈ u_ws "WordEvidence$Chances" T_Chances 7, x ∈ lw_tbl := by decide +kernel
theorem zg_Chances : ((u_ws "WordEvidence$Chances" T_Chances 7).all zw_g) = true := by decide +kernel
theorem cf_Chances : zw_cf 4 "WordEvidence$Chances" T_Chances 7 := ⟨rfl, fun x hx => zw_inT (in_Chances x hx) (List.all_eq_true.mp zg_Chances x hx), ⟨ty_Chances, by decide +kernel⟩, by decide +kernel⟩
def ty_Product : Nat → FieldType := fun k => match k with
  | _ => .array .long
theorem in_Product : ∀ x ∈ u_ws "WordEvidence$Product" T_Product 1, x ∈ lw_tbl := by decide +kernel
theorem zg_Product : ((u_ws "WordEvidence$Product" T_Product 1).all zw_g) = true := by decide +kernel
theorem cf_Product : zw_cf 5 "WordEvidence$Product" T_Product 1 := ⟨rfl, fun x hx => zw_inT (in_Product x hx) (List.all_eq_true.mp zg_Product x hx), ⟨ty_Product, by decide +kernel⟩, by decide +kernel⟩
def ty_Document : Nat → FieldType := fun k => match k with
  | 0 => .int
  | _ => .array .long
theorem in_Document : ∀ x ∈ u_ws "WordEvidence$Document" T_Document 2, x ∈ lw_tbl := by decide +kernel
theorem zg_Document : ((u_ws "WordEvidence$Document" T_Document 2).all zw_g) = true := by decide +kernel
theorem cf_Document : zw_cf 6 "WordEvidence$Document" T_Document 2 := ⟨rfl, fun x hx => zw_inT (in_Document x hx) (List.all_eq_true.mp zg_Document x hx), ⟨ty_Document, by decide +kernel⟩, by decide +kernel⟩
def ty_Mo : Nat → FieldType := fun k => match k with
  | 0 => .int
  | 1 => .array .int
  | 2 => .int
  | 3 => .array .long
  | 4 => .array .int
  | 5 => .int
  | 6 => .array .int
  | 7 => .array .int
  | 8 => .array .long
  | 9 => .int
  | 10 => .array .int
  | 11 => .array .int
  | 12 => .array .int
  | 13 => .array .int
  | 14 => .array .long
  | 15 => .array .int
  | _ => .array .int
theorem in_Mo : ∀ x ∈ u_ws "WordEvidenceModel" T_Mo 17, x ∈ lw_tbl := by decide +kernel
theorem zg_Mo : ((u_ws "WordEvidenceModel" T_Mo 17).all zw_g) = true := by decide +kernel
theorem cf_Mo : zw_cf 7 "WordEvidenceModel" T_Mo 17 := ⟨rfl, fun x hx => zw_inT (in_Mo x hx) (List.all_eq_true.mp zg_Mo x hx), ⟨ty_Mo, by decide +kernel⟩, by decide +kernel⟩
theorem g_WE_10 : zw_fg "WordEvidence" 10 0 1 := ⟨_, _, _, cf_WE, by decide, Or.inl (zw_inT (List.mem_of_getElem? (i := 150) (by decide +kernel)) rfl)⟩
theorem f_WE_10 : zw_fl "WordEvidence" 10 0 1 (.object "WordEvidence$Text") true := ⟨_, _, _, cf_WE, by decide, Or.inl (zw_inT (List.mem_of_getElem? (i := 150) (by decide +kernel)) rfl), rfl, by decide +kernel, fun _ => ⟨rfl, (zw_inT (List.mem_of_getElem? (i := 150) (by decide +kernel)) rfl)⟩⟩
theorem g_WE_19 : zw_fg "WordEvidence" 19 0 2 := ⟨_, _, _, cf_WE, by decide, Or.inl (zw_inT (List.mem_of_getElem? (i := 151) (by decide +kernel)) rfl)⟩
theorem f_WE_19 : zw_fl "WordEvidence" 19 0 2 (.object "WordEvidence$Shelf") true := ⟨_, _, _, cf_WE, by decide, Or.inl (zw_inT (List.mem_of_getElem? (i := 151) (by decide +kernel)) rfl), rfl, by decide +kernel, fun _ => ⟨rfl, (zw_inT (List.mem_of_getElem? (i := 151) (by decide +kernel)) rfl)⟩⟩
theorem g_WE_23 : zw_fg "WordEvidence" 23 0 3 := ⟨_, _, _, cf_WE, by decide, Or.inl (zw_inT (List.mem_of_getElem? (i := 152) (by decide +kernel)) rfl)⟩
theorem f_WE_23 : zw_fl "WordEvidence" 23 0 3 (.object "WordEvidence$Shelf") true := ⟨_, _, _, cf_WE, by decide, Or.inl (zw_inT (List.mem_of_getElem? (i := 152) (by decide +kernel)) rfl), rfl, by decide +kernel, fun _ => ⟨rfl, (zw_inT (List.mem_of_getElem? (i := 152) (by decide +kernel)) rfl)⟩⟩
theorem g_WE_29 : zw_fg "WordEvidence" 29 0 4 := ⟨_, _, _, cf_WE, by decide, Or.inl (zw_inT (List.mem_of_getElem? (i := 153) (by decide +kernel)) rfl)⟩
theorem f_WE_29 : zw_fl "WordEvidence" 29 0 4 (.object "WordEvidence$Log") true := ⟨_, _, _, cf_WE, by decide, Or.inl (zw_inT (List.mem_of_getElem? (i := 153) (by decide +kernel)) rfl), rfl, by decide +kernel, fun _ => ⟨rfl, (zw_inT (List.mem_of_getElem? (i := 153) (by decide +kernel)) rfl)⟩⟩
theorem g_WE_36 : zw_fg "WordEvidence" 36 0 5 := ⟨_, _, _, cf_WE, by decide, Or.inl (zw_inT (List.mem_of_getElem? (i := 154) (by decide +kernel)) rfl)⟩
theorem f_WE_36 : zw_fl "WordEvidence" 36 0 5 (.object "WordEvidence$Chances") true := ⟨_, _, _, cf_WE, by decide, Or.inl (zw_inT (List.mem_of_getElem? (i := 154) (by decide +kernel)) rfl), rfl, by decide +kernel, fun _ => ⟨rfl, (zw_inT (List.mem_of_getElem? (i := 154) (by decide +kernel)) rfl)⟩⟩
theorem g_WE_49 : zw_fg "WordEvidence" 49 0 0 := ⟨_, _, _, cf_WE, by decide, Or.inl (zw_inT (List.mem_of_getElem? (i := 149) (by decide +kernel)) rfl)⟩
theorem f_WE_49 : zw_fl "WordEvidence" 49 0 0 (.int) true := ⟨_, _, _, cf_WE, by decide, Or.inl (zw_inT (List.mem_of_getElem? (i := 149) (by decide +kernel)) rfl), rfl, by decide +kernel, fun _ => ⟨rfl, (zw_inT (List.mem_of_getElem? (i := 149) (by decide +kernel)) rfl)⟩⟩
theorem g_WE_61 : zw_fg "WordEvidence" 61 1 1 := ⟨_, _, _, cf_Text, by decide, Or.inl (zw_inT (List.mem_of_getElem? (i := 50) (by decide +kernel)) rfl)⟩
theorem f_WE_61 : zw_fl "WordEvidence" 61 1 1 (.int) false := ⟨_, _, _, cf_Text, by decide, Or.inl (zw_inT (List.mem_of_getElem? (i := 50) (by decide +kernel)) rfl), rfl, by decide +kernel, fun h => absurd h (by decide)⟩
theorem g_WE_68 : zw_fg "WordEvidence" 68 1 0 := ⟨_, _, _, cf_Text, by decide, Or.inl (zw_inT (List.mem_of_getElem? (i := 47) (by decide +kernel)) rfl)⟩
theorem g_WE_111 : zw_fg "WordEvidence" 111 6 0 := ⟨_, _, _, cf_Document, by decide, Or.inl (zw_inT (List.mem_of_getElem? (i := 262) (by decide +kernel)) rfl)⟩
theorem g_WE_123 : zw_fg "WordEvidence" 123 3 4 := ⟨_, _, _, cf_Log, by decide, Or.inl (zw_inT (List.mem_of_getElem? (i := 90) (by decide +kernel)) rfl)⟩
theorem f_WE_123 : zw_fl "WordEvidence" 123 3 4 (.int) false := ⟨_, _, _, cf_Log, by decide, Or.inl (zw_inT (List.mem_of_getElem? (i := 90) (by decide +kernel)) rfl), rfl, by decide +kernel, fun h => absurd h (by decide)⟩
theorem g_Chances_9 : zw_fg "WordEvidence$Chances" 9 4 0 := ⟨_, _, _, cf_Chances, by decide, Or.inl (zw_inT (List.mem_of_getElem? (i := 121) (by decide +kernel)) rfl)⟩
theorem f_Chances_9 : zw_fl "WordEvidence$Chances" 9 4 0 (.array .int) true := ⟨_, _, _, cf_Chances, by decide, Or.inl (zw_inT (List.mem_of_getElem? (i := 121) (by decide +kernel)) rfl), rfl, by decide +kernel, fun _ => ⟨rfl, (zw_inT (List.mem_of_getElem? (i := 121) (by decide +kernel)) rfl)⟩⟩
theorem g_Chances_17 : zw_fg "WordEvidence$Chances" 17 4 1 := ⟨_, _, _, cf_Chances, by decide, Or.inl (zw_inT (List.mem_of_getElem? (i := 122) (by decide +kernel)) rfl)⟩
theorem f_Chances_17 : zw_fl "WordEvidence$Chances" 17 4 1 (.array (.array .int)) true := ⟨_, _, _, cf_Chances, by decide, Or.inl (zw_inT (List.mem_of_getElem? (i := 122) (by decide +kernel)) rfl), rfl, by decide +kernel, fun _ => ⟨rfl, (zw_inT (List.mem_of_getElem? (i := 122) (by decide +kernel)) rfl)⟩⟩
theorem g_Chances_20 : zw_fg "WordEvidence$Chances" 20 4 2 := ⟨_, _, _, cf_Chances, by decide, Or.inl (zw_inT (List.mem_of_getElem? (i := 123) (by decide +kernel)) rfl)⟩
theorem f_Chances_20 : zw_fl "WordEvidence$Chances" 20 4 2 (.array .int) true := ⟨_, _, _, cf_Chances, by decide, Or.inl (zw_inT (List.mem_of_getElem? (i := 123) (by decide +kernel)) rfl), rfl, by decide +kernel, fun _ => ⟨rfl, (zw_inT (List.mem_of_getElem? (i := 123) (by decide +kernel)) rfl)⟩⟩
theorem g_Chances_26 : zw_fg "WordEvidence$Chances" 26 4 3 := ⟨_, _, _, cf_Chances, by decide, Or.inl (zw_inT (List.mem_of_getElem? (i := 124) (by decide +kernel)) rfl)⟩
theorem f_Chances_26 : zw_fl "WordEvidence$Chances" 26 4 3 (.object "WordEvidence$Product") true := ⟨_, _, _, cf_Chances, by decide, Or.inl (zw_inT (List.mem_of_getElem? (i := 124) (by decide +kernel)) rfl), rfl, by decide +kernel, fun _ => ⟨rfl, (zw_inT (List.mem_of_getElem? (i := 124) (by decide +kernel)) rfl)⟩⟩
theorem g_Chances_30 : zw_fg "WordEvidence$Chances" 30 4 4 := ⟨_, _, _, cf_Chances, by decide, Or.inl (zw_inT (List.mem_of_getElem? (i := 125) (by decide +kernel)) rfl)⟩
theorem f_Chances_30 : zw_fl "WordEvidence$Chances" 30 4 4 (.object "WordEvidence$Product") true := ⟨_, _, _, cf_Chances, by decide, Or.inl (zw_inT (List.mem_of_getElem? (i := 125) (by decide +kernel)) rfl), rfl, by decide +kernel, fun _ => ⟨rfl, (zw_inT (List.mem_of_getElem? (i := 125) (by decide +kernel)) rfl)⟩⟩
theorem g_Chances_33 : zw_fg "WordEvidence$Chances" 33 4 5 := ⟨_, _, _, cf_Chances, by decide, Or.inl (zw_inT (List.mem_of_getElem? (i := 126) (by decide +kernel)) rfl)⟩
theorem f_Chances_33 : zw_fl "WordEvidence$Chances" 33 4 5 (.int) false := ⟨_, _, _, cf_Chances, by decide, Or.inl (zw_inT (List.mem_of_getElem? (i := 126) (by decide +kernel)) rfl), rfl, by decide +kernel, fun h => absurd h (by decide)⟩
theorem g_Chances_37 : zw_fg "WordEvidence$Chances" 37 4 6 := ⟨_, _, _, cf_Chances, by decide, Or.inl (zw_inT (List.mem_of_getElem? (i := 127) (by decide +kernel)) rfl)⟩
theorem f_Chances_37 : zw_fl "WordEvidence$Chances" 37 4 6 (.int) false := ⟨_, _, _, cf_Chances, by decide, Or.inl (zw_inT (List.mem_of_getElem? (i := 127) (by decide +kernel)) rfl), rfl, by decide +kernel, fun h => absurd h (by decide)⟩
theorem g_Chances_40 : zw_fg "WordEvidence$Chances" 40 1 1 := ⟨_, _, _, cf_Text, by decide, Or.inl (zw_inT (List.mem_of_getElem? (i := 49) (by decide +kernel)) rfl)⟩
theorem f_Chances_40 : zw_fl "WordEvidence$Chances" 40 1 1 (.int) false := ⟨_, _, _, cf_Text, by decide, Or.inl (zw_inT (List.mem_of_getElem? (i := 49) (by decide +kernel)) rfl), rfl, by decide +kernel, fun h => absurd h (by decide)⟩
theorem g_Chances_56 : zw_fg "WordEvidence$Chances" 56 1 0 := ⟨_, _, _, cf_Text, by decide, Or.inl (zw_inT (List.mem_of_getElem? (i := 46) (by decide +kernel)) rfl)⟩
theorem g_Document_7 : zw_fg "WordEvidence$Document" 7 6 0 := ⟨_, _, _, cf_Document, by decide, Or.inl (zw_inT (List.mem_of_getElem? (i := 260) (by decide +kernel)) rfl)⟩
theorem f_Document_7 : zw_fl "WordEvidence$Document" 7 6 0 (.int) true := ⟨_, _, _, cf_Document, by decide, Or.inl (zw_inT (List.mem_of_getElem? (i := 260) (by decide +kernel)) rfl), rfl, by decide +kernel, fun _ => ⟨rfl, (zw_inT (List.mem_of_getElem? (i := 260) (by decide +kernel)) rfl)⟩⟩
theorem g_Document_13 : zw_fg "WordEvidence$Document" 13 6 1 := ⟨_, _, _, cf_Document, by decide, Or.inl (zw_inT (List.mem_of_getElem? (i := 263) (by decide +kernel)) rfl)⟩
theorem f_Document_13 : zw_fl "WordEvidence$Document" 13 6 1 (.array .long) true := ⟨_, _, _, cf_Document, by decide, Or.inl (zw_inT (List.mem_of_getElem? (i := 263) (by decide +kernel)) rfl), rfl, by decide +kernel, fun _ => ⟨rfl, (zw_inT (List.mem_of_getElem? (i := 263) (by decide +kernel)) rfl)⟩⟩
theorem g_Log_9 : zw_fg "WordEvidence$Log" 9 3 0 := ⟨_, _, _, cf_Log, by decide, Or.inl (zw_inT (List.mem_of_getElem? (i := 85) (by decide +kernel)) rfl)⟩
theorem f_Log_9 : zw_fl "WordEvidence$Log" 9 3 0 (.array .int) true := ⟨_, _, _, cf_Log, by decide, Or.inl (zw_inT (List.mem_of_getElem? (i := 85) (by decide +kernel)) rfl), rfl, by decide +kernel, fun _ => ⟨rfl, (zw_inT (List.mem_of_getElem? (i := 85) (by decide +kernel)) rfl)⟩⟩
theorem g_Log_15 : zw_fg "WordEvidence$Log" 15 3 1 := ⟨_, _, _, cf_Log, by decide, Or.inl (zw_inT (List.mem_of_getElem? (i := 86) (by decide +kernel)) rfl)⟩
theorem f_Log_15 : zw_fl "WordEvidence$Log" 15 3 1 (.array .int) true := ⟨_, _, _, cf_Log, by decide, Or.inl (zw_inT (List.mem_of_getElem? (i := 86) (by decide +kernel)) rfl), rfl, by decide +kernel, fun _ => ⟨rfl, (zw_inT (List.mem_of_getElem? (i := 86) (by decide +kernel)) rfl)⟩⟩
theorem g_Log_20 : zw_fg "WordEvidence$Log" 20 3 2 := ⟨_, _, _, cf_Log, by decide, Or.inl (zw_inT (List.mem_of_getElem? (i := 87) (by decide +kernel)) rfl)⟩
theorem f_Log_20 : zw_fl "WordEvidence$Log" 20 3 2 (.array (.object "WordEvidence$Document")) true := ⟨_, _, _, cf_Log, by decide, Or.inl (zw_inT (List.mem_of_getElem? (i := 87) (by decide +kernel)) rfl), rfl, by decide +kernel, fun _ => ⟨rfl, (zw_inT (List.mem_of_getElem? (i := 87) (by decide +kernel)) rfl)⟩⟩
theorem g_Log_24 : zw_fg "WordEvidence$Log" 24 3 3 := ⟨_, _, _, cf_Log, by decide, Or.inl (zw_inT (List.mem_of_getElem? (i := 88) (by decide +kernel)) rfl)⟩
theorem f_Log_24 : zw_fl "WordEvidence$Log" 24 3 3 (.int) false := ⟨_, _, _, cf_Log, by decide, Or.inl (zw_inT (List.mem_of_getElem? (i := 88) (by decide +kernel)) rfl), rfl, by decide +kernel, fun h => absurd h (by decide)⟩
theorem g_Log_28 : zw_fg "WordEvidence$Log" 28 3 4 := ⟨_, _, _, cf_Log, by decide, Or.inl (zw_inT (List.mem_of_getElem? (i := 89) (by decide +kernel)) rfl)⟩
theorem f_Log_28 : zw_fl "WordEvidence$Log" 28 3 4 (.int) false := ⟨_, _, _, cf_Log, by decide, Or.inl (zw_inT (List.mem_of_getElem? (i := 89) (by decide +kernel)) rfl), rfl, by decide +kernel, fun h => absurd h (by decide)⟩
theorem g_Product_9 : zw_fg "WordEvidence$Product" 9 5 0 := ⟨_, _, _, cf_Product, by decide, Or.inl (zw_inT (List.mem_of_getElem? (i := 117) (by decide +kernel)) rfl)⟩
theorem f_Product_9 : zw_fl "WordEvidence$Product" 9 5 0 (.array .long) true := ⟨_, _, _, cf_Product, by decide, Or.inl (zw_inT (List.mem_of_getElem? (i := 117) (by decide +kernel)) rfl), rfl, by decide +kernel, fun _ => ⟨rfl, (zw_inT (List.mem_of_getElem? (i := 117) (by decide +kernel)) rfl)⟩⟩
theorem g_Shelf_11 : zw_fg "WordEvidence$Shelf" 11 2 0 := ⟨_, _, _, cf_Shelf, by decide, Or.inl (zw_inT (List.mem_of_getElem? (i := 71) (by decide +kernel)) rfl)⟩
theorem f_Shelf_11 : zw_fl "WordEvidence$Shelf" 11 2 0 (.array (.object "WordEvidence$Document")) true := ⟨_, _, _, cf_Shelf, by decide, Or.inl (zw_inT (List.mem_of_getElem? (i := 71) (by decide +kernel)) rfl), rfl, by decide +kernel, fun _ => ⟨rfl, (zw_inT (List.mem_of_getElem? (i := 71) (by decide +kernel)) rfl)⟩⟩
theorem g_Shelf_17 : zw_fg "WordEvidence$Shelf" 17 2 1 := ⟨_, _, _, cf_Shelf, by decide, Or.inl (zw_inT (List.mem_of_getElem? (i := 72) (by decide +kernel)) rfl)⟩
theorem f_Shelf_17 : zw_fl "WordEvidence$Shelf" 17 2 1 (.array .long) true := ⟨_, _, _, cf_Shelf, by decide, Or.inl (zw_inT (List.mem_of_getElem? (i := 72) (by decide +kernel)) rfl), rfl, by decide +kernel, fun _ => ⟨rfl, (zw_inT (List.mem_of_getElem? (i := 72) (by decide +kernel)) rfl)⟩⟩
theorem g_Shelf_25 : zw_fg "WordEvidence$Shelf" 25 6 0 := ⟨_, _, _, cf_Document, by decide, Or.inl (zw_inT (List.mem_of_getElem? (i := 261) (by decide +kernel)) rfl)⟩
theorem g_Shelf_29 : zw_fg "WordEvidence$Shelf" 29 6 1 := ⟨_, _, _, cf_Document, by decide, Or.inl (zw_inT (List.mem_of_getElem? (i := 264) (by decide +kernel)) rfl)⟩
theorem g_Text_9 : zw_fg "WordEvidence$Text" 9 1 0 := ⟨_, _, _, cf_Text, by decide, Or.inl (zw_inT (List.mem_of_getElem? (i := 45) (by decide +kernel)) rfl)⟩
theorem f_Text_9 : zw_fl "WordEvidence$Text" 9 1 0 (.array .long) true := ⟨_, _, _, cf_Text, by decide, Or.inl (zw_inT (List.mem_of_getElem? (i := 45) (by decide +kernel)) rfl), rfl, by decide +kernel, fun _ => ⟨rfl, (zw_inT (List.mem_of_getElem? (i := 45) (by decide +kernel)) rfl)⟩⟩
theorem g_Text_15 : zw_fg "WordEvidence$Text" 15 1 1 := ⟨_, _, _, cf_Text, by decide, Or.inl (zw_inT (List.mem_of_getElem? (i := 48) (by decide +kernel)) rfl)⟩
theorem f_Text_15 : zw_fl "WordEvidence$Text" 15 1 1 (.int) false := ⟨_, _, _, cf_Text, by decide, Or.inl (zw_inT (List.mem_of_getElem? (i := 48) (by decide +kernel)) rfl), rfl, by decide +kernel, fun h => absurd h (by decide)⟩
theorem g_Text_19 : zw_fg "WordEvidence$Text" 19 1 2 := ⟨_, _, _, cf_Text, by decide, Or.inl (zw_inT (List.mem_of_getElem? (i := 51) (by decide +kernel)) rfl)⟩
theorem f_Text_19 : zw_fl "WordEvidence$Text" 19 1 2 (.int) false := ⟨_, _, _, cf_Text, by decide, Or.inl (zw_inT (List.mem_of_getElem? (i := 51) (by decide +kernel)) rfl), rfl, by decide +kernel, fun h => absurd h (by decide)⟩
theorem g_Text_22 : zw_fg "WordEvidence$Text" 22 1 3 := ⟨_, _, _, cf_Text, by decide, Or.inl (zw_inT (List.mem_of_getElem? (i := 52) (by decide +kernel)) rfl)⟩
theorem f_Text_22 : zw_fl "WordEvidence$Text" 22 1 3 (.int) false := ⟨_, _, _, cf_Text, by decide, Or.inl (zw_inT (List.mem_of_getElem? (i := 52) (by decide +kernel)) rfl), rfl, by decide +kernel, fun h => absurd h (by decide)⟩
theorem g_Mo_7 : zw_fg "WordEvidenceModel" 7 7 1 := ⟨_, _, _, cf_Mo, by decide, Or.inl (zw_inT (List.mem_of_getElem? (i := 423) (by decide +kernel)) rfl)⟩
theorem f_Mo_7 : zw_fl "WordEvidenceModel" 7 7 1 (.array .int) true := ⟨_, _, _, cf_Mo, by decide, Or.inl (zw_inT (List.mem_of_getElem? (i := 423) (by decide +kernel)) rfl), rfl, by decide +kernel, fun _ => ⟨rfl, (zw_inT (List.mem_of_getElem? (i := 423) (by decide +kernel)) rfl)⟩⟩
theorem g_Mo_13 : zw_fg "WordEvidenceModel" 13 7 3 := ⟨_, _, _, cf_Mo, by decide, Or.inl (zw_inT (List.mem_of_getElem? (i := 425) (by decide +kernel)) rfl)⟩
theorem f_Mo_13 : zw_fl "WordEvidenceModel" 13 7 3 (.array .long) true := ⟨_, _, _, cf_Mo, by decide, Or.inl (zw_inT (List.mem_of_getElem? (i := 425) (by decide +kernel)) rfl), rfl, by decide +kernel, fun _ => ⟨rfl, (zw_inT (List.mem_of_getElem? (i := 425) (by decide +kernel)) rfl)⟩⟩
theorem g_Mo_17 : zw_fg "WordEvidenceModel" 17 7 4 := ⟨_, _, _, cf_Mo, by decide, Or.inl (zw_inT (List.mem_of_getElem? (i := 426) (by decide +kernel)) rfl)⟩
theorem f_Mo_17 : zw_fl "WordEvidenceModel" 17 7 4 (.array .int) true := ⟨_, _, _, cf_Mo, by decide, Or.inl (zw_inT (List.mem_of_getElem? (i := 426) (by decide +kernel)) rfl), rfl, by decide +kernel, fun _ => ⟨rfl, (zw_inT (List.mem_of_getElem? (i := 426) (by decide +kernel)) rfl)⟩⟩
theorem g_Mo_20 : zw_fg "WordEvidenceModel" 20 7 6 := ⟨_, _, _, cf_Mo, by decide, Or.inl (zw_inT (List.mem_of_getElem? (i := 428) (by decide +kernel)) rfl)⟩
theorem f_Mo_20 : zw_fl "WordEvidenceModel" 20 7 6 (.array .int) true := ⟨_, _, _, cf_Mo, by decide, Or.inl (zw_inT (List.mem_of_getElem? (i := 428) (by decide +kernel)) rfl), rfl, by decide +kernel, fun _ => ⟨rfl, (zw_inT (List.mem_of_getElem? (i := 428) (by decide +kernel)) rfl)⟩⟩
theorem g_Mo_23 : zw_fg "WordEvidenceModel" 23 7 7 := ⟨_, _, _, cf_Mo, by decide, Or.inl (zw_inT (List.mem_of_getElem? (i := 429) (by decide +kernel)) rfl)⟩
theorem f_Mo_23 : zw_fl "WordEvidenceModel" 23 7 7 (.array .int) true := ⟨_, _, _, cf_Mo, by decide, Or.inl (zw_inT (List.mem_of_getElem? (i := 429) (by decide +kernel)) rfl), rfl, by decide +kernel, fun _ => ⟨rfl, (zw_inT (List.mem_of_getElem? (i := 429) (by decide +kernel)) rfl)⟩⟩
theorem g_Mo_26 : zw_fg "WordEvidenceModel" 26 7 8 := ⟨_, _, _, cf_Mo, by decide, Or.inl (zw_inT (List.mem_of_getElem? (i := 430) (by decide +kernel)) rfl)⟩
theorem f_Mo_26 : zw_fl "WordEvidenceModel" 26 7 8 (.array .long) true := ⟨_, _, _, cf_Mo, by decide, Or.inl (zw_inT (List.mem_of_getElem? (i := 430) (by decide +kernel)) rfl), rfl, by decide +kernel, fun _ => ⟨rfl, (zw_inT (List.mem_of_getElem? (i := 430) (by decide +kernel)) rfl)⟩⟩
theorem g_Mo_29 : zw_fg "WordEvidenceModel" 29 7 10 := ⟨_, _, _, cf_Mo, by decide, Or.inl (zw_inT (List.mem_of_getElem? (i := 432) (by decide +kernel)) rfl)⟩
theorem f_Mo_29 : zw_fl "WordEvidenceModel" 29 7 10 (.array .int) true := ⟨_, _, _, cf_Mo, by decide, Or.inl (zw_inT (List.mem_of_getElem? (i := 432) (by decide +kernel)) rfl), rfl, by decide +kernel, fun _ => ⟨rfl, (zw_inT (List.mem_of_getElem? (i := 432) (by decide +kernel)) rfl)⟩⟩
theorem g_Mo_32 : zw_fg "WordEvidenceModel" 32 7 11 := ⟨_, _, _, cf_Mo, by decide, Or.inl (zw_inT (List.mem_of_getElem? (i := 433) (by decide +kernel)) rfl)⟩
theorem f_Mo_32 : zw_fl "WordEvidenceModel" 32 7 11 (.array .int) true := ⟨_, _, _, cf_Mo, by decide, Or.inl (zw_inT (List.mem_of_getElem? (i := 433) (by decide +kernel)) rfl), rfl, by decide +kernel, fun _ => ⟨rfl, (zw_inT (List.mem_of_getElem? (i := 433) (by decide +kernel)) rfl)⟩⟩
theorem g_Mo_35 : zw_fg "WordEvidenceModel" 35 7 12 := ⟨_, _, _, cf_Mo, by decide, Or.inl (zw_inT (List.mem_of_getElem? (i := 434) (by decide +kernel)) rfl)⟩
theorem f_Mo_35 : zw_fl "WordEvidenceModel" 35 7 12 (.array .int) true := ⟨_, _, _, cf_Mo, by decide, Or.inl (zw_inT (List.mem_of_getElem? (i := 434) (by decide +kernel)) rfl), rfl, by decide +kernel, fun _ => ⟨rfl, (zw_inT (List.mem_of_getElem? (i := 434) (by decide +kernel)) rfl)⟩⟩
theorem g_Mo_38 : zw_fg "WordEvidenceModel" 38 7 13 := ⟨_, _, _, cf_Mo, by decide, Or.inl (zw_inT (List.mem_of_getElem? (i := 435) (by decide +kernel)) rfl)⟩
theorem f_Mo_38 : zw_fl "WordEvidenceModel" 38 7 13 (.array .int) true := ⟨_, _, _, cf_Mo, by decide, Or.inl (zw_inT (List.mem_of_getElem? (i := 435) (by decide +kernel)) rfl), rfl, by decide +kernel, fun _ => ⟨rfl, (zw_inT (List.mem_of_getElem? (i := 435) (by decide +kernel)) rfl)⟩⟩
theorem g_Mo_41 : zw_fg "WordEvidenceModel" 41 7 14 := ⟨_, _, _, cf_Mo, by decide, Or.inl (zw_inT (List.mem_of_getElem? (i := 436) (by decide +kernel)) rfl)⟩
theorem f_Mo_41 : zw_fl "WordEvidenceModel" 41 7 14 (.array .long) true := ⟨_, _, _, cf_Mo, by decide, Or.inl (zw_inT (List.mem_of_getElem? (i := 436) (by decide +kernel)) rfl), rfl, by decide +kernel, fun _ => ⟨rfl, (zw_inT (List.mem_of_getElem? (i := 436) (by decide +kernel)) rfl)⟩⟩
theorem g_Mo_44 : zw_fg "WordEvidenceModel" 44 7 15 := ⟨_, _, _, cf_Mo, by decide, Or.inl (zw_inT (List.mem_of_getElem? (i := 437) (by decide +kernel)) rfl)⟩
theorem f_Mo_44 : zw_fl "WordEvidenceModel" 44 7 15 (.array .int) true := ⟨_, _, _, cf_Mo, by decide, Or.inl (zw_inT (List.mem_of_getElem? (i := 437) (by decide +kernel)) rfl), rfl, by decide +kernel, fun _ => ⟨rfl, (zw_inT (List.mem_of_getElem? (i := 437) (by decide +kernel)) rfl)⟩⟩
theorem g_Mo_47 : zw_fg "WordEvidenceModel" 47 7 16 := ⟨_, _, _, cf_Mo, by decide, Or.inl (zw_inT (List.mem_of_getElem? (i := 438) (by decide +kernel)) rfl)⟩
theorem f_Mo_47 : zw_fl "WordEvidenceModel" 47 7 16 (.array .int) true := ⟨_, _, _, cf_Mo, by decide, Or.inl (zw_inT (List.mem_of_getElem? (i := 438) (by decide +kernel)) rfl), rfl, by decide +kernel, fun _ => ⟨rfl, (zw_inT (List.mem_of_getElem? (i := 438) (by decide +kernel)) rfl)⟩⟩
theorem g_Mo_50 : zw_fg "WordEvidenceModel" 50 7 0 := ⟨_, _, _, cf_Mo, by decide, Or.inl (zw_inT (List.mem_of_getElem? (i := 422) (by decide +kernel)) rfl)⟩
theorem f_Mo_50 : zw_fl "WordEvidenceModel" 50 7 0 (.int) false := ⟨_, _, _, cf_Mo, by decide, Or.inl (zw_inT (List.mem_of_getElem? (i := 422) (by decide +kernel)) rfl), rfl, by decide +kernel, fun h => absurd h (by decide)⟩
theorem g_Mo_54 : zw_fg "WordEvidenceModel" 54 7 2 := ⟨_, _, _, cf_Mo, by decide, Or.inl (zw_inT (List.mem_of_getElem? (i := 424) (by decide +kernel)) rfl)⟩
theorem f_Mo_54 : zw_fl "WordEvidenceModel" 54 7 2 (.int) false := ⟨_, _, _, cf_Mo, by decide, Or.inl (zw_inT (List.mem_of_getElem? (i := 424) (by decide +kernel)) rfl), rfl, by decide +kernel, fun h => absurd h (by decide)⟩
theorem g_Mo_57 : zw_fg "WordEvidenceModel" 57 7 5 := ⟨_, _, _, cf_Mo, by decide, Or.inl (zw_inT (List.mem_of_getElem? (i := 427) (by decide +kernel)) rfl)⟩
theorem f_Mo_57 : zw_fl "WordEvidenceModel" 57 7 5 (.int) false := ⟨_, _, _, cf_Mo, by decide, Or.inl (zw_inT (List.mem_of_getElem? (i := 427) (by decide +kernel)) rfl), rfl, by decide +kernel, fun h => absurd h (by decide)⟩
theorem g_Mo_69 : zw_fg "WordEvidenceModel" 69 7 9 := ⟨_, _, _, cf_Mo, by decide, Or.inl (zw_inT (List.mem_of_getElem? (i := 431) (by decide +kernel)) rfl)⟩
theorem f_Mo_69 : zw_fl "WordEvidenceModel" 69 7 9 (.int) false := ⟨_, _, _, cf_Mo, by decide, Or.inl (zw_inT (List.mem_of_getElem? (i := 431) (by decide +kernel)) rfl), rfl, by decide +kernel, fun h => absurd h (by decide)⟩
theorem m_WE_init : zw_y Y_WE_init 1 := ⟨(zw_inT (List.mem_of_getElem? (i := 35) (by decide +kernel)) rfl), (zw_inT (List.mem_of_getElem? (i := 19) (by decide +kernel)) rfl), by decide +kernel, ⟨by decide +kernel, by decide +kernel⟩, by decide +kernel⟩
theorem i_WE_init : Y_WE_init.1.name = "<init>" ∧ Cond.instanceMethod Y_WE_init.1 ∈ zw_T := ⟨rfl, (zw_inT (List.mem_of_getElem? (i := 34) (by decide +kernel)) rfl)⟩
theorem m_Text_init : zw_y Y_Text_init 0 := ⟨(zw_inT (List.mem_of_getElem? (i := 43) (by decide +kernel)) rfl), (zw_inT (List.mem_of_getElem? (i := 20) (by decide +kernel)) rfl), by decide +kernel, ⟨by decide +kernel, by decide +kernel⟩, by decide +kernel⟩
theorem i_Text_init : Y_Text_init.1.name = "<init>" ∧ Cond.instanceMethod Y_Text_init.1 ∈ zw_T := ⟨rfl, (zw_inT (List.mem_of_getElem? (i := 42) (by decide +kernel)) rfl)⟩
theorem m_Shelf_init : zw_y Y_Shelf_init 0 := ⟨(zw_inT (List.mem_of_getElem? (i := 67) (by decide +kernel)) rfl), (zw_inT (List.mem_of_getElem? (i := 21) (by decide +kernel)) rfl), by decide +kernel, ⟨by decide +kernel, by decide +kernel⟩, by decide +kernel⟩
theorem i_Shelf_init : Y_Shelf_init.1.name = "<init>" ∧ Cond.instanceMethod Y_Shelf_init.1 ∈ zw_T := ⟨rfl, (zw_inT (List.mem_of_getElem? (i := 66) (by decide +kernel)) rfl)⟩
theorem m_Log_init : zw_y Y_Log_init 0 := ⟨(zw_inT (List.mem_of_getElem? (i := 82) (by decide +kernel)) rfl), (zw_inT (List.mem_of_getElem? (i := 22) (by decide +kernel)) rfl), by decide +kernel, ⟨by decide +kernel, by decide +kernel⟩, by decide +kernel⟩
theorem i_Log_init : Y_Log_init.1.name = "<init>" ∧ Cond.instanceMethod Y_Log_init.1 ∈ zw_T := ⟨rfl, (zw_inT (List.mem_of_getElem? (i := 81) (by decide +kernel)) rfl)⟩
theorem m_Chances_init : zw_y Y_Chances_init 0 := ⟨(zw_inT (List.mem_of_getElem? (i := 107) (by decide +kernel)) rfl), (zw_inT (List.mem_of_getElem? (i := 23) (by decide +kernel)) rfl), by decide +kernel, ⟨by decide +kernel, by decide +kernel⟩, by decide +kernel⟩
theorem i_Chances_init : Y_Chances_init.1.name = "<init>" ∧ Cond.instanceMethod Y_Chances_init.1 ∈ zw_T := ⟨rfl, (zw_inT (List.mem_of_getElem? (i := 106) (by decide +kernel)) rfl)⟩
theorem m_Product_init : zw_y Y_Product_init 0 := ⟨(zw_inT (List.mem_of_getElem? (i := 115) (by decide +kernel)) rfl), (zw_inT (List.mem_of_getElem? (i := 24) (by decide +kernel)) rfl), by decide +kernel, ⟨by decide +kernel, by decide +kernel⟩, by decide +kernel⟩
theorem i_Product_init : Y_Product_init.1.name = "<init>" ∧ Cond.instanceMethod Y_Product_init.1 ∈ zw_T := ⟨rfl, (zw_inT (List.mem_of_getElem? (i := 114) (by decide +kernel)) rfl)⟩
theorem m_WE_key : zw_y Y_WE_key 1 := ⟨(zw_inT (List.mem_of_getElem? (i := 171) (by decide +kernel)) rfl), (zw_inT (List.mem_of_getElem? (i := 19) (by decide +kernel)) rfl), by decide +kernel, ⟨by decide +kernel, by decide +kernel⟩, by decide +kernel⟩
theorem v_WE_key : Cond.instanceMethod Y_WE_key.1 ∈ zw_T ∧ Cond.selects Y_WE_key.1.cls Y_WE_key.1 Y_WE_key.1 ∈ zw_T := ⟨(zw_inT (List.mem_of_getElem? (i := 169) (by decide +kernel)) rfl), (zw_inT (List.mem_of_getElem? (i := 170) (by decide +kernel)) rfl)⟩
theorem m_Text_append : zw_y Y_Text_append 1 := ⟨(zw_inT (List.mem_of_getElem? (i := 175) (by decide +kernel)) rfl), (zw_inT (List.mem_of_getElem? (i := 20) (by decide +kernel)) rfl), by decide +kernel, ⟨by decide +kernel, by decide +kernel⟩, by decide +kernel⟩
theorem v_Text_append : Cond.instanceMethod Y_Text_append.1 ∈ zw_T ∧ Cond.selects Y_Text_append.1.cls Y_Text_append.1 Y_Text_append.1 ∈ zw_T := ⟨(zw_inT (List.mem_of_getElem? (i := 173) (by decide +kernel)) rfl), (zw_inT (List.mem_of_getElem? (i := 174) (by decide +kernel)) rfl)⟩
theorem m_Letters_fold : zw_y Y_Letters_fold 1 := ⟨(zw_inT (List.mem_of_getElem? (i := 178) (by decide +kernel)) rfl), (zw_inT (List.mem_of_getElem? (i := 27) (by decide +kernel)) rfl), by decide +kernel, ⟨by decide +kernel, by decide +kernel⟩, by decide +kernel⟩
theorem s_Letters_fold : Cond.static Y_Letters_fold.1 ∈ zw_T := (zw_inT (List.mem_of_getElem? (i := 177) (by decide +kernel)) rfl)
theorem m_Text_lengthenRun : zw_y Y_Text_lengthenRun 1 := ⟨(zw_inT (List.mem_of_getElem? (i := 182) (by decide +kernel)) rfl), (zw_inT (List.mem_of_getElem? (i := 20) (by decide +kernel)) rfl), by decide +kernel, ⟨by decide +kernel, by decide +kernel⟩, by decide +kernel⟩
theorem v_Text_lengthenRun : Cond.instanceMethod Y_Text_lengthenRun.1 ∈ zw_T ∧ Cond.selects Y_Text_lengthenRun.1.cls Y_Text_lengthenRun.1 Y_Text_lengthenRun.1 ∈ zw_T := ⟨(zw_inT (List.mem_of_getElem? (i := 181) (by decide +kernel)) rfl), (zw_inT (by decide +kernel) rfl)⟩
theorem m_Letters_with : zw_y Y_Letters_with 3 := ⟨(zw_inT (List.mem_of_getElem? (i := 185) (by decide +kernel)) rfl), (zw_inT (List.mem_of_getElem? (i := 27) (by decide +kernel)) rfl), by decide +kernel, ⟨by decide +kernel, by decide +kernel⟩, by decide +kernel⟩
theorem s_Letters_with : Cond.static Y_Letters_with.1 ∈ zw_T := (zw_inT (List.mem_of_getElem? (i := 184) (by decide +kernel)) rfl)
theorem m_WE_clear : zw_y Y_WE_clear 0 := ⟨(zw_inT (List.mem_of_getElem? (i := 189) (by decide +kernel)) rfl), (zw_inT (List.mem_of_getElem? (i := 19) (by decide +kernel)) rfl), by decide +kernel, ⟨by decide +kernel, by decide +kernel⟩, by decide +kernel⟩
theorem v_WE_clear : Cond.instanceMethod Y_WE_clear.1 ∈ zw_T ∧ Cond.selects Y_WE_clear.1.cls Y_WE_clear.1 Y_WE_clear.1 ∈ zw_T := ⟨(zw_inT (List.mem_of_getElem? (i := 187) (by decide +kernel)) rfl), (zw_inT (List.mem_of_getElem? (i := 188) (by decide +kernel)) rfl)⟩
theorem m_Text_empty : zw_y Y_Text_empty 0 := ⟨(zw_inT (List.mem_of_getElem? (i := 193) (by decide +kernel)) rfl), (zw_inT (List.mem_of_getElem? (i := 20) (by decide +kernel)) rfl), by decide +kernel, ⟨by decide +kernel, by decide +kernel⟩, by decide +kernel⟩
theorem v_Text_empty : Cond.instanceMethod Y_Text_empty.1 ∈ zw_T ∧ Cond.selects Y_Text_empty.1.cls Y_Text_empty.1 Y_Text_empty.1 ∈ zw_T := ⟨(zw_inT (List.mem_of_getElem? (i := 191) (by decide +kernel)) rfl), (zw_inT (List.mem_of_getElem? (i := 192) (by decide +kernel)) rfl)⟩
theorem m_WE_words : zw_y Y_WE_words 0 := ⟨(zw_inT (List.mem_of_getElem? (i := 197) (by decide +kernel)) rfl), (zw_inT (List.mem_of_getElem? (i := 19) (by decide +kernel)) rfl), by decide +kernel, ⟨by decide +kernel, by decide +kernel⟩, by decide +kernel⟩
theorem v_WE_words : Cond.instanceMethod Y_WE_words.1 ∈ zw_T ∧ Cond.selects Y_WE_words.1.cls Y_WE_words.1 Y_WE_words.1 ∈ zw_T := ⟨(zw_inT (List.mem_of_getElem? (i := 195) (by decide +kernel)) rfl), (zw_inT (List.mem_of_getElem? (i := 196) (by decide +kernel)) rfl)⟩
theorem m_WE_letter : zw_y Y_WE_letter 2 := ⟨(zw_inT (List.mem_of_getElem? (i := 201) (by decide +kernel)) rfl), (zw_inT (List.mem_of_getElem? (i := 19) (by decide +kernel)) rfl), by decide +kernel, ⟨by decide +kernel, by decide +kernel⟩, by decide +kernel⟩
theorem v_WE_letter : Cond.instanceMethod Y_WE_letter.1 ∈ zw_T ∧ Cond.selects Y_WE_letter.1.cls Y_WE_letter.1 Y_WE_letter.1 ∈ zw_T := ⟨(zw_inT (List.mem_of_getElem? (i := 199) (by decide +kernel)) rfl), (zw_inT (List.mem_of_getElem? (i := 200) (by decide +kernel)) rfl)⟩
theorem m_Text_hasWord : zw_y Y_Text_hasWord 1 := ⟨(zw_inT (List.mem_of_getElem? (i := 205) (by decide +kernel)) rfl), (zw_inT (List.mem_of_getElem? (i := 20) (by decide +kernel)) rfl), by decide +kernel, ⟨by decide +kernel, by decide +kernel⟩, by decide +kernel⟩
theorem v_Text_hasWord : Cond.instanceMethod Y_Text_hasWord.1 ∈ zw_T ∧ Cond.selects Y_Text_hasWord.1.cls Y_Text_hasWord.1 Y_Text_hasWord.1 ∈ zw_T := ⟨(zw_inT (List.mem_of_getElem? (i := 203) (by decide +kernel)) rfl), (zw_inT (List.mem_of_getElem? (i := 204) (by decide +kernel)) rfl)⟩
theorem m_Letters_at : zw_y Y_Letters_at 2 := ⟨(zw_inT (List.mem_of_getElem? (i := 208) (by decide +kernel)) rfl), (zw_inT (List.mem_of_getElem? (i := 27) (by decide +kernel)) rfl), by decide +kernel, ⟨by decide +kernel, by decide +kernel⟩, by decide +kernel⟩
theorem s_Letters_at : Cond.static Y_Letters_at.1 ∈ zw_T := (zw_inT (List.mem_of_getElem? (i := 207) (by decide +kernel)) rfl)
theorem m_WE_train : zw_y Y_WE_train 2 := ⟨(zw_inT (List.mem_of_getElem? (i := 212) (by decide +kernel)) rfl), (zw_inT (List.mem_of_getElem? (i := 19) (by decide +kernel)) rfl), by decide +kernel, ⟨by decide +kernel, by decide +kernel⟩, by decide +kernel⟩
theorem v_WE_train : Cond.instanceMethod Y_WE_train.1 ∈ zw_T ∧ Cond.selects Y_WE_train.1.cls Y_WE_train.1 Y_WE_train.1 ∈ zw_T := ⟨(zw_inT (List.mem_of_getElem? (i := 210) (by decide +kernel)) rfl), (zw_inT (List.mem_of_getElem? (i := 211) (by decide +kernel)) rfl)⟩
theorem m_WE_isId : zw_y Y_WE_isId 1 := ⟨(zw_inT (List.mem_of_getElem? (i := 215) (by decide +kernel)) rfl), (zw_inT (List.mem_of_getElem? (i := 19) (by decide +kernel)) rfl), by decide +kernel, ⟨by decide +kernel, by decide +kernel⟩, by decide +kernel⟩
theorem s_WE_isId : Cond.static Y_WE_isId.1 ∈ zw_T := (zw_inT (List.mem_of_getElem? (i := 214) (by decide +kernel)) rfl)
theorem m_WE_isClass : zw_y Y_WE_isClass 1 := ⟨(zw_inT (List.mem_of_getElem? (i := 219) (by decide +kernel)) rfl), (zw_inT (List.mem_of_getElem? (i := 19) (by decide +kernel)) rfl), by decide +kernel, ⟨by decide +kernel, by decide +kernel⟩, by decide +kernel⟩
theorem v_WE_isClass : Cond.instanceMethod Y_WE_isClass.1 ∈ zw_T ∧ Cond.selects Y_WE_isClass.1.cls Y_WE_isClass.1 Y_WE_isClass.1 ∈ zw_T := ⟨(zw_inT (List.mem_of_getElem? (i := 218) (by decide +kernel)) rfl), (zw_inT (by decide +kernel) rfl)⟩
theorem m_Shelf_find : zw_y Y_Shelf_find 1 := ⟨(zw_inT (List.mem_of_getElem? (i := 223) (by decide +kernel)) rfl), (zw_inT (List.mem_of_getElem? (i := 21) (by decide +kernel)) rfl), by decide +kernel, ⟨by decide +kernel, by decide +kernel⟩, by decide +kernel⟩
theorem v_Shelf_find : Cond.instanceMethod Y_Shelf_find.1 ∈ zw_T ∧ Cond.selects Y_Shelf_find.1.cls Y_Shelf_find.1 Y_Shelf_find.1 ∈ zw_T := ⟨(zw_inT (List.mem_of_getElem? (i := 221) (by decide +kernel)) rfl), (zw_inT (List.mem_of_getElem? (i := 222) (by decide +kernel)) rfl)⟩
theorem m_Shelf_size : zw_y Y_Shelf_size 0 := ⟨(zw_inT (List.mem_of_getElem? (i := 228) (by decide +kernel)) rfl), (zw_inT (List.mem_of_getElem? (i := 21) (by decide +kernel)) rfl), by decide +kernel, ⟨by decide +kernel, by decide +kernel⟩, by decide +kernel⟩
theorem v_Shelf_size : Cond.instanceMethod Y_Shelf_size.1 ∈ zw_T ∧ Cond.selects Y_Shelf_size.1.cls Y_Shelf_size.1 Y_Shelf_size.1 ∈ zw_T := ⟨(zw_inT (List.mem_of_getElem? (i := 226) (by decide +kernel)) rfl), (zw_inT (List.mem_of_getElem? (i := 227) (by decide +kernel)) rfl)⟩
theorem m_WE_blocksToTrain : zw_y Y_WE_blocksToTrain 1 := ⟨(zw_inT (List.mem_of_getElem? (i := 231) (by decide +kernel)) rfl), (zw_inT (List.mem_of_getElem? (i := 19) (by decide +kernel)) rfl), by decide +kernel, ⟨by decide +kernel, by decide +kernel⟩, by decide +kernel⟩
theorem s_WE_blocksToTrain : Cond.static Y_WE_blocksToTrain.1 ∈ zw_T := (zw_inT (List.mem_of_getElem? (i := 230) (by decide +kernel)) rfl)
theorem m_Log_hasRoomFor : zw_y Y_Log_hasRoomFor 1 := ⟨(zw_inT (List.mem_of_getElem? (i := 235) (by decide +kernel)) rfl), (zw_inT (List.mem_of_getElem? (i := 22) (by decide +kernel)) rfl), by decide +kernel, ⟨by decide +kernel, by decide +kernel⟩, by decide +kernel⟩
theorem v_Log_hasRoomFor : Cond.instanceMethod Y_Log_hasRoomFor.1 ∈ zw_T ∧ Cond.selects Y_Log_hasRoomFor.1.cls Y_Log_hasRoomFor.1 Y_Log_hasRoomFor.1 ∈ zw_T := ⟨(zw_inT (List.mem_of_getElem? (i := 233) (by decide +kernel)) rfl), (zw_inT (List.mem_of_getElem? (i := 234) (by decide +kernel)) rfl)⟩
theorem m_Text_copyOfWords : zw_y Y_Text_copyOfWords 0 := ⟨(zw_inT (List.mem_of_getElem? (i := 241) (by decide +kernel)) rfl), (zw_inT (List.mem_of_getElem? (i := 20) (by decide +kernel)) rfl), by decide +kernel, ⟨by decide +kernel, by decide +kernel⟩, by decide +kernel⟩
theorem v_Text_copyOfWords : Cond.instanceMethod Y_Text_copyOfWords.1 ∈ zw_T ∧ Cond.selects Y_Text_copyOfWords.1.cls Y_Text_copyOfWords.1 Y_Text_copyOfWords.1 ∈ zw_T := ⟨(zw_inT (List.mem_of_getElem? (i := 239) (by decide +kernel)) rfl), (zw_inT (List.mem_of_getElem? (i := 240) (by decide +kernel)) rfl)⟩
theorem m_Arrays_copyOf : zw_y Y_Arrays_copyOf 2 := ⟨(zw_inT (List.mem_of_getElem? (i := 244) (by decide +kernel)) rfl), (zw_inT (List.mem_of_getElem? (i := 29) (by decide +kernel)) rfl), by decide +kernel, ⟨by decide +kernel, by decide +kernel⟩, by decide +kernel⟩
theorem s_Arrays_copyOf : Cond.static Y_Arrays_copyOf.1 ∈ zw_T := (zw_inT (List.mem_of_getElem? (i := 243) (by decide +kernel)) rfl)
theorem m_Document_init : zw_y Y_Document_init 2 := ⟨(zw_inT (List.mem_of_getElem? (i := 258) (by decide +kernel)) rfl), (zw_inT (List.mem_of_getElem? (i := 28) (by decide +kernel)) rfl), by decide +kernel, ⟨by decide +kernel, by decide +kernel⟩, by decide +kernel⟩
theorem i_Document_init : Y_Document_init.1.name = "<init>" ∧ Cond.instanceMethod Y_Document_init.1 ∈ zw_T := ⟨rfl, (zw_inT (List.mem_of_getElem? (i := 257) (by decide +kernel)) rfl)⟩
theorem m_WE_change : zw_y Y_WE_change 3 := ⟨(zw_inT (List.mem_of_getElem? (i := 273) (by decide +kernel)) rfl), (zw_inT (List.mem_of_getElem? (i := 19) (by decide +kernel)) rfl), by decide +kernel, ⟨by decide +kernel, by decide +kernel⟩, by decide +kernel⟩
theorem v_WE_change : Cond.instanceMethod Y_WE_change.1 ∈ zw_T ∧ Cond.selects Y_WE_change.1.cls Y_WE_change.1 Y_WE_change.1 ∈ zw_T := ⟨(zw_inT (List.mem_of_getElem? (i := 272) (by decide +kernel)) rfl), (zw_inT (by decide +kernel) rfl)⟩
theorem m_Log_write : zw_y Y_Log_write 3 := ⟨(zw_inT (List.mem_of_getElem? (i := 277) (by decide +kernel)) rfl), (zw_inT (List.mem_of_getElem? (i := 22) (by decide +kernel)) rfl), by decide +kernel, ⟨by decide +kernel, by decide +kernel⟩, by decide +kernel⟩
theorem v_Log_write : Cond.instanceMethod Y_Log_write.1 ∈ zw_T ∧ Cond.selects Y_Log_write.1.cls Y_Log_write.1 Y_Log_write.1 ∈ zw_T := ⟨(zw_inT (List.mem_of_getElem? (i := 275) (by decide +kernel)) rfl), (zw_inT (List.mem_of_getElem? (i := 276) (by decide +kernel)) rfl)⟩
theorem m_Shelf_put : zw_y Y_Shelf_put 2 := ⟨(zw_inT (List.mem_of_getElem? (i := 281) (by decide +kernel)) rfl), (zw_inT (List.mem_of_getElem? (i := 21) (by decide +kernel)) rfl), by decide +kernel, ⟨by decide +kernel, by decide +kernel⟩, by decide +kernel⟩
theorem v_Shelf_put : Cond.instanceMethod Y_Shelf_put.1 ∈ zw_T ∧ Cond.selects Y_Shelf_put.1.cls Y_Shelf_put.1 Y_Shelf_put.1 ∈ zw_T := ⟨(zw_inT (List.mem_of_getElem? (i := 279) (by decide +kernel)) rfl), (zw_inT (List.mem_of_getElem? (i := 280) (by decide +kernel)) rfl)⟩
theorem m_WE_untrain : zw_y Y_WE_untrain 1 := ⟨(zw_inT (List.mem_of_getElem? (i := 285) (by decide +kernel)) rfl), (zw_inT (List.mem_of_getElem? (i := 19) (by decide +kernel)) rfl), by decide +kernel, ⟨by decide +kernel, by decide +kernel⟩, by decide +kernel⟩
theorem v_WE_untrain : Cond.instanceMethod Y_WE_untrain.1 ∈ zw_T ∧ Cond.selects Y_WE_untrain.1.cls Y_WE_untrain.1 Y_WE_untrain.1 ∈ zw_T := ⟨(zw_inT (List.mem_of_getElem? (i := 283) (by decide +kernel)) rfl), (zw_inT (List.mem_of_getElem? (i := 284) (by decide +kernel)) rfl)⟩
theorem m_WE_sync : zw_y Y_WE_sync 0 := ⟨(zw_inT (List.mem_of_getElem? (i := 289) (by decide +kernel)) rfl), (zw_inT (List.mem_of_getElem? (i := 19) (by decide +kernel)) rfl), by decide +kernel, ⟨by decide +kernel, by decide +kernel⟩, by decide +kernel⟩
theorem v_WE_sync : Cond.instanceMethod Y_WE_sync.1 ∈ zw_T ∧ Cond.selects Y_WE_sync.1.cls Y_WE_sync.1 Y_WE_sync.1 ∈ zw_T := ⟨(zw_inT (List.mem_of_getElem? (i := 287) (by decide +kernel)) rfl), (zw_inT (List.mem_of_getElem? (i := 288) (by decide +kernel)) rfl)⟩
theorem m_Shelf_copyFrom : zw_y Y_Shelf_copyFrom 1 := ⟨(zw_inT (List.mem_of_getElem? (i := 293) (by decide +kernel)) rfl), (zw_inT (List.mem_of_getElem? (i := 21) (by decide +kernel)) rfl), by decide +kernel, ⟨by decide +kernel, by decide +kernel⟩, by decide +kernel⟩
theorem v_Shelf_copyFrom : Cond.instanceMethod Y_Shelf_copyFrom.1 ∈ zw_T ∧ Cond.selects Y_Shelf_copyFrom.1.cls Y_Shelf_copyFrom.1 Y_Shelf_copyFrom.1 ∈ zw_T := ⟨(zw_inT (List.mem_of_getElem? (i := 291) (by decide +kernel)) rfl), (zw_inT (List.mem_of_getElem? (i := 292) (by decide +kernel)) rfl)⟩
theorem m_Log_empty : zw_y Y_Log_empty 0 := ⟨(zw_inT (List.mem_of_getElem? (i := 297) (by decide +kernel)) rfl), (zw_inT (List.mem_of_getElem? (i := 22) (by decide +kernel)) rfl), by decide +kernel, ⟨by decide +kernel, by decide +kernel⟩, by decide +kernel⟩
theorem v_Log_empty : Cond.instanceMethod Y_Log_empty.1 ∈ zw_T ∧ Cond.selects Y_Log_empty.1.cls Y_Log_empty.1 Y_Log_empty.1 ∈ zw_T := ⟨(zw_inT (List.mem_of_getElem? (i := 295) (by decide +kernel)) rfl), (zw_inT (List.mem_of_getElem? (i := 296) (by decide +kernel)) rfl)⟩
theorem m_WE_fail : zw_y Y_WE_fail 1 := ⟨(zw_inT (List.mem_of_getElem? (i := 301) (by decide +kernel)) rfl), (zw_inT (List.mem_of_getElem? (i := 19) (by decide +kernel)) rfl), by decide +kernel, ⟨by decide +kernel, by decide +kernel⟩, by decide +kernel⟩
theorem v_WE_fail : Cond.instanceMethod Y_WE_fail.1 ∈ zw_T ∧ Cond.selects Y_WE_fail.1.cls Y_WE_fail.1 Y_WE_fail.1 ∈ zw_T := ⟨(zw_inT (List.mem_of_getElem? (i := 299) (by decide +kernel)) rfl), (zw_inT (List.mem_of_getElem? (i := 300) (by decide +kernel)) rfl)⟩
theorem m_Log_replayOn : zw_y Y_Log_replayOn 2 := ⟨(zw_inT (List.mem_of_getElem? (i := 305) (by decide +kernel)) rfl), (zw_inT (List.mem_of_getElem? (i := 22) (by decide +kernel)) rfl), by decide +kernel, ⟨by decide +kernel, by decide +kernel⟩, by decide +kernel⟩
theorem v_Log_replayOn : Cond.instanceMethod Y_Log_replayOn.1 ∈ zw_T ∧ Cond.selects Y_Log_replayOn.1.cls Y_Log_replayOn.1 Y_Log_replayOn.1 ∈ zw_T := ⟨(zw_inT (List.mem_of_getElem? (i := 303) (by decide +kernel)) rfl), (zw_inT (List.mem_of_getElem? (i := 304) (by decide +kernel)) rfl)⟩
theorem m_WE_pending : zw_y Y_WE_pending 0 := ⟨(zw_inT (List.mem_of_getElem? (i := 310) (by decide +kernel)) rfl), (zw_inT (List.mem_of_getElem? (i := 19) (by decide +kernel)) rfl), by decide +kernel, ⟨by decide +kernel, by decide +kernel⟩, by decide +kernel⟩
theorem v_WE_pending : Cond.instanceMethod Y_WE_pending.1 ∈ zw_T ∧ Cond.selects Y_WE_pending.1.cls Y_WE_pending.1 Y_WE_pending.1 ∈ zw_T := ⟨(zw_inT (List.mem_of_getElem? (i := 308) (by decide +kernel)) rfl), (zw_inT (List.mem_of_getElem? (i := 309) (by decide +kernel)) rfl)⟩
theorem m_WE_documents : zw_y Y_WE_documents 1 := ⟨(zw_inT (List.mem_of_getElem? (i := 314) (by decide +kernel)) rfl), (zw_inT (List.mem_of_getElem? (i := 19) (by decide +kernel)) rfl), by decide +kernel, ⟨by decide +kernel, by decide +kernel⟩, by decide +kernel⟩
theorem v_WE_documents : Cond.instanceMethod Y_WE_documents.1 ∈ zw_T ∧ Cond.selects Y_WE_documents.1.cls Y_WE_documents.1 Y_WE_documents.1 ∈ zw_T := ⟨(zw_inT (List.mem_of_getElem? (i := 312) (by decide +kernel)) rfl), (zw_inT (List.mem_of_getElem? (i := 313) (by decide +kernel)) rfl)⟩
theorem m_Shelf_documentsOf : zw_y Y_Shelf_documentsOf 1 := ⟨(zw_inT (List.mem_of_getElem? (i := 318) (by decide +kernel)) rfl), (zw_inT (List.mem_of_getElem? (i := 21) (by decide +kernel)) rfl), by decide +kernel, ⟨by decide +kernel, by decide +kernel⟩, by decide +kernel⟩
theorem v_Shelf_documentsOf : Cond.instanceMethod Y_Shelf_documentsOf.1 ∈ zw_T ∧ Cond.selects Y_Shelf_documentsOf.1.cls Y_Shelf_documentsOf.1 Y_Shelf_documentsOf.1 ∈ zw_T := ⟨(zw_inT (List.mem_of_getElem? (i := 316) (by decide +kernel)) rfl), (zw_inT (List.mem_of_getElem? (i := 317) (by decide +kernel)) rfl)⟩
theorem m_WE_total : zw_y Y_WE_total 1 := ⟨(zw_inT (List.mem_of_getElem? (i := 322) (by decide +kernel)) rfl), (zw_inT (List.mem_of_getElem? (i := 19) (by decide +kernel)) rfl), by decide +kernel, ⟨by decide +kernel, by decide +kernel⟩, by decide +kernel⟩
theorem v_WE_total : Cond.instanceMethod Y_WE_total.1 ∈ zw_T ∧ Cond.selects Y_WE_total.1.cls Y_WE_total.1 Y_WE_total.1 ∈ zw_T := ⟨(zw_inT (List.mem_of_getElem? (i := 320) (by decide +kernel)) rfl), (zw_inT (List.mem_of_getElem? (i := 321) (by decide +kernel)) rfl)⟩
theorem m_Shelf_wordsOf : zw_y Y_Shelf_wordsOf 1 := ⟨(zw_inT (List.mem_of_getElem? (i := 326) (by decide +kernel)) rfl), (zw_inT (List.mem_of_getElem? (i := 21) (by decide +kernel)) rfl), by decide +kernel, ⟨by decide +kernel, by decide +kernel⟩, by decide +kernel⟩
theorem v_Shelf_wordsOf : Cond.instanceMethod Y_Shelf_wordsOf.1 ∈ zw_T ∧ Cond.selects Y_Shelf_wordsOf.1.cls Y_Shelf_wordsOf.1 Y_Shelf_wordsOf.1 ∈ zw_T := ⟨(zw_inT (List.mem_of_getElem? (i := 324) (by decide +kernel)) rfl), (zw_inT (List.mem_of_getElem? (i := 325) (by decide +kernel)) rfl)⟩
theorem m_WE_count : zw_y Y_WE_count 2 := ⟨(zw_inT (List.mem_of_getElem? (i := 330) (by decide +kernel)) rfl), (zw_inT (List.mem_of_getElem? (i := 19) (by decide +kernel)) rfl), by decide +kernel, ⟨by decide +kernel, by decide +kernel⟩, by decide +kernel⟩
theorem v_WE_count : Cond.instanceMethod Y_WE_count.1 ∈ zw_T ∧ Cond.selects Y_WE_count.1.cls Y_WE_count.1 Y_WE_count.1 ∈ zw_T := ⟨(zw_inT (List.mem_of_getElem? (i := 328) (by decide +kernel)) rfl), (zw_inT (List.mem_of_getElem? (i := 329) (by decide +kernel)) rfl)⟩
theorem m_Shelf_timesOf : zw_y Y_Shelf_timesOf 2 := ⟨(zw_inT (List.mem_of_getElem? (i := 334) (by decide +kernel)) rfl), (zw_inT (List.mem_of_getElem? (i := 21) (by decide +kernel)) rfl), by decide +kernel, ⟨by decide +kernel, by decide +kernel⟩, by decide +kernel⟩
theorem v_Shelf_timesOf : Cond.instanceMethod Y_Shelf_timesOf.1 ∈ zw_T ∧ Cond.selects Y_Shelf_timesOf.1.cls Y_Shelf_timesOf.1 Y_Shelf_timesOf.1 ∈ zw_T := ⟨(zw_inT (List.mem_of_getElem? (i := 332) (by decide +kernel)) rfl), (zw_inT (List.mem_of_getElem? (i := 333) (by decide +kernel)) rfl)⟩
theorem m_Document_timesOf : zw_y Y_Document_timesOf 1 := ⟨(zw_inT (List.mem_of_getElem? (i := 338) (by decide +kernel)) rfl), (zw_inT (List.mem_of_getElem? (i := 28) (by decide +kernel)) rfl), by decide +kernel, ⟨by decide +kernel, by decide +kernel⟩, by decide +kernel⟩
theorem v_Document_timesOf : Cond.instanceMethod Y_Document_timesOf.1 ∈ zw_T ∧ Cond.selects Y_Document_timesOf.1.cls Y_Document_timesOf.1 Y_Document_timesOf.1 ∈ zw_T := ⟨(zw_inT (List.mem_of_getElem? (i := 336) (by decide +kernel)) rfl), (zw_inT (List.mem_of_getElem? (i := 337) (by decide +kernel)) rfl)⟩
theorem m_WE_vocabulary : zw_y Y_WE_vocabulary 0 := ⟨(zw_inT (List.mem_of_getElem? (i := 342) (by decide +kernel)) rfl), (zw_inT (List.mem_of_getElem? (i := 19) (by decide +kernel)) rfl), by decide +kernel, ⟨by decide +kernel, by decide +kernel⟩, by decide +kernel⟩
theorem v_WE_vocabulary : Cond.instanceMethod Y_WE_vocabulary.1 ∈ zw_T ∧ Cond.selects Y_WE_vocabulary.1.cls Y_WE_vocabulary.1 Y_WE_vocabulary.1 ∈ zw_T := ⟨(zw_inT (List.mem_of_getElem? (i := 340) (by decide +kernel)) rfl), (zw_inT (List.mem_of_getElem? (i := 341) (by decide +kernel)) rfl)⟩
theorem m_Shelf_differentWords : zw_y Y_Shelf_differentWords 0 := ⟨(zw_inT (List.mem_of_getElem? (i := 346) (by decide +kernel)) rfl), (zw_inT (List.mem_of_getElem? (i := 21) (by decide +kernel)) rfl), by decide +kernel, ⟨by decide +kernel, by decide +kernel⟩, by decide +kernel⟩
theorem v_Shelf_differentWords : Cond.instanceMethod Y_Shelf_differentWords.1 ∈ zw_T ∧ Cond.selects Y_Shelf_differentWords.1.cls Y_Shelf_differentWords.1 Y_Shelf_differentWords.1 ∈ zw_T := ⟨(zw_inT (List.mem_of_getElem? (i := 344) (by decide +kernel)) rfl), (zw_inT (List.mem_of_getElem? (i := 345) (by decide +kernel)) rfl)⟩
theorem m_Shelf_noteNewWords : zw_y Y_Shelf_noteNewWords 2 := ⟨(zw_inT (List.mem_of_getElem? (i := 350) (by decide +kernel)) rfl), (zw_inT (List.mem_of_getElem? (i := 21) (by decide +kernel)) rfl), by decide +kernel, ⟨by decide +kernel, by decide +kernel⟩, by decide +kernel⟩
theorem v_Shelf_noteNewWords : Cond.instanceMethod Y_Shelf_noteNewWords.1 ∈ zw_T ∧ Cond.selects Y_Shelf_noteNewWords.1.cls Y_Shelf_noteNewWords.1 Y_Shelf_noteNewWords.1 ∈ zw_T := ⟨(zw_inT (List.mem_of_getElem? (i := 349) (by decide +kernel)) rfl), (zw_inT (by decide +kernel) rfl)⟩
theorem m_Shelf_isSeen : zw_y Y_Shelf_isSeen 2 := ⟨(zw_inT (List.mem_of_getElem? (i := 354) (by decide +kernel)) rfl), (zw_inT (List.mem_of_getElem? (i := 21) (by decide +kernel)) rfl), by decide +kernel, ⟨by decide +kernel, by decide +kernel⟩, by decide +kernel⟩
theorem v_Shelf_isSeen : Cond.instanceMethod Y_Shelf_isSeen.1 ∈ zw_T ∧ Cond.selects Y_Shelf_isSeen.1.cls Y_Shelf_isSeen.1 Y_Shelf_isSeen.1 ∈ zw_T := ⟨(zw_inT (List.mem_of_getElem? (i := 353) (by decide +kernel)) rfl), (zw_inT (by decide +kernel) rfl)⟩
theorem m_WE_label : zw_y Y_WE_label 1 := ⟨(zw_inT (List.mem_of_getElem? (i := 358) (by decide +kernel)) rfl), (zw_inT (List.mem_of_getElem? (i := 19) (by decide +kernel)) rfl), by decide +kernel, ⟨by decide +kernel, by decide +kernel⟩, by decide +kernel⟩
theorem v_WE_label : Cond.instanceMethod Y_WE_label.1 ∈ zw_T ∧ Cond.selects Y_WE_label.1.cls Y_WE_label.1 Y_WE_label.1 ∈ zw_T := ⟨(zw_inT (List.mem_of_getElem? (i := 356) (by decide +kernel)) rfl), (zw_inT (List.mem_of_getElem? (i := 357) (by decide +kernel)) rfl)⟩
theorem m_WE_classify : zw_y Y_WE_classify 0 := ⟨(zw_inT (List.mem_of_getElem? (i := 362) (by decide +kernel)) rfl), (zw_inT (List.mem_of_getElem? (i := 19) (by decide +kernel)) rfl), by decide +kernel, ⟨by decide +kernel, by decide +kernel⟩, by decide +kernel⟩
theorem v_WE_classify : Cond.instanceMethod Y_WE_classify.1 ∈ zw_T ∧ Cond.selects Y_WE_classify.1.cls Y_WE_classify.1 Y_WE_classify.1 ∈ zw_T := ⟨(zw_inT (List.mem_of_getElem? (i := 360) (by decide +kernel)) rfl), (zw_inT (List.mem_of_getElem? (i := 361) (by decide +kernel)) rfl)⟩
theorem m_WE_order : zw_y Y_WE_order 1 := ⟨(zw_inT (List.mem_of_getElem? (i := 366) (by decide +kernel)) rfl), (zw_inT (List.mem_of_getElem? (i := 19) (by decide +kernel)) rfl), by decide +kernel, ⟨by decide +kernel, by decide +kernel⟩, by decide +kernel⟩
theorem v_WE_order : Cond.instanceMethod Y_WE_order.1 ∈ zw_T ∧ Cond.selects Y_WE_order.1.cls Y_WE_order.1 Y_WE_order.1 ∈ zw_T := ⟨(zw_inT (List.mem_of_getElem? (i := 364) (by decide +kernel)) rfl), (zw_inT (List.mem_of_getElem? (i := 365) (by decide +kernel)) rfl)⟩
theorem m_Chances_weigh : zw_y Y_Chances_weigh 3 := ⟨(zw_inT (List.mem_of_getElem? (i := 370) (by decide +kernel)) rfl), (zw_inT (List.mem_of_getElem? (i := 23) (by decide +kernel)) rfl), by decide +kernel, ⟨by decide +kernel, by decide +kernel⟩, by decide +kernel⟩
theorem v_Chances_weigh : Cond.instanceMethod Y_Chances_weigh.1 ∈ zw_T ∧ Cond.selects Y_Chances_weigh.1.cls Y_Chances_weigh.1 Y_Chances_weigh.1 ∈ zw_T := ⟨(zw_inT (List.mem_of_getElem? (i := 368) (by decide +kernel)) rfl), (zw_inT (List.mem_of_getElem? (i := 369) (by decide +kernel)) rfl)⟩
theorem m_Chances_classAt : zw_y Y_Chances_classAt 1 := ⟨(zw_inT (List.mem_of_getElem? (i := 378) (by decide +kernel)) rfl), (zw_inT (List.mem_of_getElem? (i := 23) (by decide +kernel)) rfl), by decide +kernel, ⟨by decide +kernel, by decide +kernel⟩, by decide +kernel⟩
theorem v_Chances_classAt : Cond.instanceMethod Y_Chances_classAt.1 ∈ zw_T ∧ Cond.selects Y_Chances_classAt.1.cls Y_Chances_classAt.1 Y_Chances_classAt.1 ∈ zw_T := ⟨(zw_inT (List.mem_of_getElem? (i := 376) (by decide +kernel)) rfl), (zw_inT (List.mem_of_getElem? (i := 377) (by decide +kernel)) rfl)⟩
theorem m_Chances_placeOf : zw_y Y_Chances_placeOf 1 := ⟨(zw_inT (List.mem_of_getElem? (i := 382) (by decide +kernel)) rfl), (zw_inT (List.mem_of_getElem? (i := 23) (by decide +kernel)) rfl), by decide +kernel, ⟨by decide +kernel, by decide +kernel⟩, by decide +kernel⟩
theorem v_Chances_placeOf : Cond.instanceMethod Y_Chances_placeOf.1 ∈ zw_T ∧ Cond.selects Y_Chances_placeOf.1.cls Y_Chances_placeOf.1 Y_Chances_placeOf.1 ∈ zw_T := ⟨(zw_inT (List.mem_of_getElem? (i := 381) (by decide +kernel)) rfl), (zw_inT (by decide +kernel) rfl)⟩
theorem m_Chances_signOf : zw_y Y_Chances_signOf 2 := ⟨(zw_inT (List.mem_of_getElem? (i := 386) (by decide +kernel)) rfl), (zw_inT (List.mem_of_getElem? (i := 23) (by decide +kernel)) rfl), by decide +kernel, ⟨by decide +kernel, by decide +kernel⟩, by decide +kernel⟩
theorem v_Chances_signOf : Cond.instanceMethod Y_Chances_signOf.1 ∈ zw_T ∧ Cond.selects Y_Chances_signOf.1.cls Y_Chances_signOf.1 Y_Chances_signOf.1 ∈ zw_T := ⟨(zw_inT (List.mem_of_getElem? (i := 384) (by decide +kernel)) rfl), (zw_inT (List.mem_of_getElem? (i := 385) (by decide +kernel)) rfl)⟩
theorem m_Chances_multiplyOut : zw_y Y_Chances_multiplyOut 3 := ⟨(zw_inT (List.mem_of_getElem? (i := 390) (by decide +kernel)) rfl), (zw_inT (List.mem_of_getElem? (i := 23) (by decide +kernel)) rfl), by decide +kernel, ⟨by decide +kernel, by decide +kernel⟩, by decide +kernel⟩
theorem v_Chances_multiplyOut : Cond.instanceMethod Y_Chances_multiplyOut.1 ∈ zw_T ∧ Cond.selects Y_Chances_multiplyOut.1.cls Y_Chances_multiplyOut.1 Y_Chances_multiplyOut.1 ∈ zw_T := ⟨(zw_inT (List.mem_of_getElem? (i := 389) (by decide +kernel)) rfl), (zw_inT (by decide +kernel) rfl)⟩
theorem m_Product_start : zw_y Y_Product_start 1 := ⟨(zw_inT (List.mem_of_getElem? (i := 394) (by decide +kernel)) rfl), (zw_inT (List.mem_of_getElem? (i := 24) (by decide +kernel)) rfl), by decide +kernel, ⟨by decide +kernel, by decide +kernel⟩, by decide +kernel⟩
theorem v_Product_start : Cond.instanceMethod Y_Product_start.1 ∈ zw_T ∧ Cond.selects Y_Product_start.1.cls Y_Product_start.1 Y_Product_start.1 ∈ zw_T := ⟨(zw_inT (List.mem_of_getElem? (i := 392) (by decide +kernel)) rfl), (zw_inT (List.mem_of_getElem? (i := 393) (by decide +kernel)) rfl)⟩
theorem m_Arrays_fill : zw_y Y_Arrays_fill 2 := ⟨(zw_inT (List.mem_of_getElem? (i := 397) (by decide +kernel)) rfl), (zw_inT (List.mem_of_getElem? (i := 29) (by decide +kernel)) rfl), by decide +kernel, ⟨by decide +kernel, by decide +kernel⟩, by decide +kernel⟩
theorem s_Arrays_fill : Cond.static Y_Arrays_fill.1 ∈ zw_T := (zw_inT (List.mem_of_getElem? (i := 396) (by decide +kernel)) rfl)
theorem m_Product_times : zw_y Y_Product_times 1 := ⟨(zw_inT (List.mem_of_getElem? (i := 401) (by decide +kernel)) rfl), (zw_inT (List.mem_of_getElem? (i := 24) (by decide +kernel)) rfl), by decide +kernel, ⟨by decide +kernel, by decide +kernel⟩, by decide +kernel⟩
theorem v_Product_times : Cond.instanceMethod Y_Product_times.1 ∈ zw_T ∧ Cond.selects Y_Product_times.1.cls Y_Product_times.1 Y_Product_times.1 ∈ zw_T := ⟨(zw_inT (List.mem_of_getElem? (i := 399) (by decide +kernel)) rfl), (zw_inT (List.mem_of_getElem? (i := 400) (by decide +kernel)) rfl)⟩
theorem m_Product_signAgainst : zw_y Y_Product_signAgainst 1 := ⟨(zw_inT (List.mem_of_getElem? (i := 406) (by decide +kernel)) rfl), (zw_inT (List.mem_of_getElem? (i := 24) (by decide +kernel)) rfl), by decide +kernel, ⟨by decide +kernel, by decide +kernel⟩, by decide +kernel⟩
theorem v_Product_signAgainst : Cond.instanceMethod Y_Product_signAgainst.1 ∈ zw_T ∧ Cond.selects Y_Product_signAgainst.1.cls Y_Product_signAgainst.1 Y_Product_signAgainst.1 ∈ zw_T := ⟨(zw_inT (List.mem_of_getElem? (i := 404) (by decide +kernel)) rfl), (zw_inT (List.mem_of_getElem? (i := 405) (by decide +kernel)) rfl)⟩
theorem m_WE_compare : zw_y Y_WE_compare 2 := ⟨(zw_inT (List.mem_of_getElem? (i := 411) (by decide +kernel)) rfl), (zw_inT (List.mem_of_getElem? (i := 19) (by decide +kernel)) rfl), by decide +kernel, ⟨by decide +kernel, by decide +kernel⟩, by decide +kernel⟩
theorem v_WE_compare : Cond.instanceMethod Y_WE_compare.1 ∈ zw_T ∧ Cond.selects Y_WE_compare.1.cls Y_WE_compare.1 Y_WE_compare.1 ∈ zw_T := ⟨(zw_inT (List.mem_of_getElem? (i := 409) (by decide +kernel)) rfl), (zw_inT (List.mem_of_getElem? (i := 410) (by decide +kernel)) rfl)⟩
theorem m_Law_cell : zw_y Y_Law_cell 2 := ⟨(zw_inT (List.mem_of_getElem? (i := 415) (by decide +kernel)) rfl), (zw_inT (List.mem_of_getElem? (i := 18) (by decide +kernel)) rfl), by decide +kernel, ⟨by decide +kernel, by decide +kernel⟩, by decide +kernel⟩
theorem s_Law_cell : Cond.static Y_Law_cell.1 ∈ zw_T := (zw_inT (List.mem_of_getElem? (i := 414) (by decide +kernel)) rfl)
theorem m_Mo_init : zw_y Y_Mo_init 1 := ⟨(zw_inT (List.mem_of_getElem? (i := 420) (by decide +kernel)) rfl), (zw_inT (List.mem_of_getElem? (i := 26) (by decide +kernel)) rfl), by decide +kernel, ⟨by decide +kernel, by decide +kernel⟩, by decide +kernel⟩
theorem i_Mo_init : Y_Mo_init.1.name = "<init>" ∧ Cond.instanceMethod Y_Mo_init.1 ∈ zw_T := ⟨rfl, (zw_inT (List.mem_of_getElem? (i := 419) (by decide +kernel)) rfl)⟩
theorem m_Mo_key : zw_y Y_Mo_key 1 := ⟨(zw_inT (List.mem_of_getElem? (i := 477) (by decide +kernel)) rfl), (zw_inT (List.mem_of_getElem? (i := 26) (by decide +kernel)) rfl), by decide +kernel, ⟨by decide +kernel, by decide +kernel⟩, by decide +kernel⟩
theorem v_Mo_key : Cond.instanceMethod Y_Mo_key.1 ∈ zw_T ∧ Cond.selects Y_Mo_key.1.cls Y_Mo_key.1 Y_Mo_key.1 ∈ zw_T := ⟨(zw_inT (List.mem_of_getElem? (i := 475) (by decide +kernel)) rfl), (zw_inT (List.mem_of_getElem? (i := 476) (by decide +kernel)) rfl)⟩
theorem m_Mo_clear : zw_y Y_Mo_clear 0 := ⟨(zw_inT (List.mem_of_getElem? (i := 481) (by decide +kernel)) rfl), (zw_inT (List.mem_of_getElem? (i := 26) (by decide +kernel)) rfl), by decide +kernel, ⟨by decide +kernel, by decide +kernel⟩, by decide +kernel⟩
theorem v_Mo_clear : Cond.instanceMethod Y_Mo_clear.1 ∈ zw_T ∧ Cond.selects Y_Mo_clear.1.cls Y_Mo_clear.1 Y_Mo_clear.1 ∈ zw_T := ⟨(zw_inT (List.mem_of_getElem? (i := 479) (by decide +kernel)) rfl), (zw_inT (List.mem_of_getElem? (i := 480) (by decide +kernel)) rfl)⟩
theorem m_Mo_words : zw_y Y_Mo_words 0 := ⟨(zw_inT (List.mem_of_getElem? (i := 485) (by decide +kernel)) rfl), (zw_inT (List.mem_of_getElem? (i := 26) (by decide +kernel)) rfl), by decide +kernel, ⟨by decide +kernel, by decide +kernel⟩, by decide +kernel⟩
theorem v_Mo_words : Cond.instanceMethod Y_Mo_words.1 ∈ zw_T ∧ Cond.selects Y_Mo_words.1.cls Y_Mo_words.1 Y_Mo_words.1 ∈ zw_T := ⟨(zw_inT (List.mem_of_getElem? (i := 483) (by decide +kernel)) rfl), (zw_inT (List.mem_of_getElem? (i := 484) (by decide +kernel)) rfl)⟩
theorem m_Mo_read : zw_y Y_Mo_read 0 := ⟨(zw_inT (List.mem_of_getElem? (i := 489) (by decide +kernel)) rfl), (zw_inT (List.mem_of_getElem? (i := 26) (by decide +kernel)) rfl), by decide +kernel, ⟨by decide +kernel, by decide +kernel⟩, by decide +kernel⟩
theorem v_Mo_read : Cond.instanceMethod Y_Mo_read.1 ∈ zw_T ∧ Cond.selects Y_Mo_read.1.cls Y_Mo_read.1 Y_Mo_read.1 ∈ zw_T := ⟨(zw_inT (List.mem_of_getElem? (i := 488) (by decide +kernel)) rfl), (zw_inT (by decide +kernel) rfl)⟩
theorem m_Mo_plain : zw_y Y_Mo_plain 1 := ⟨(zw_inT (List.mem_of_getElem? (i := 492) (by decide +kernel)) rfl), (zw_inT (List.mem_of_getElem? (i := 26) (by decide +kernel)) rfl), by decide +kernel, ⟨by decide +kernel, by decide +kernel⟩, by decide +kernel⟩
theorem s_Mo_plain : Cond.static Y_Mo_plain.1 ∈ zw_T := (zw_inT (List.mem_of_getElem? (i := 491) (by decide +kernel)) rfl)
theorem m_Mo_letter : zw_y Y_Mo_letter 2 := ⟨(zw_inT (List.mem_of_getElem? (i := 497) (by decide +kernel)) rfl), (zw_inT (List.mem_of_getElem? (i := 26) (by decide +kernel)) rfl), by decide +kernel, ⟨by decide +kernel, by decide +kernel⟩, by decide +kernel⟩
theorem v_Mo_letter : Cond.instanceMethod Y_Mo_letter.1 ∈ zw_T ∧ Cond.selects Y_Mo_letter.1.cls Y_Mo_letter.1 Y_Mo_letter.1 ∈ zw_T := ⟨(zw_inT (List.mem_of_getElem? (i := 495) (by decide +kernel)) rfl), (zw_inT (List.mem_of_getElem? (i := 496) (by decide +kernel)) rfl)⟩
theorem m_Mo_pending : zw_y Y_Mo_pending 0 := ⟨(zw_inT (List.mem_of_getElem? (i := 501) (by decide +kernel)) rfl), (zw_inT (List.mem_of_getElem? (i := 26) (by decide +kernel)) rfl), by decide +kernel, ⟨by decide +kernel, by decide +kernel⟩, by decide +kernel⟩
theorem v_Mo_pending : Cond.instanceMethod Y_Mo_pending.1 ∈ zw_T ∧ Cond.selects Y_Mo_pending.1.cls Y_Mo_pending.1 Y_Mo_pending.1 ∈ zw_T := ⟨(zw_inT (List.mem_of_getElem? (i := 499) (by decide +kernel)) rfl), (zw_inT (List.mem_of_getElem? (i := 500) (by decide +kernel)) rfl)⟩
theorem m_Mo_train : zw_y Y_Mo_train 2 := ⟨(zw_inT (List.mem_of_getElem? (i := 505) (by decide +kernel)) rfl), (zw_inT (List.mem_of_getElem? (i := 26) (by decide +kernel)) rfl), by decide +kernel, ⟨by decide +kernel, by decide +kernel⟩, by decide +kernel⟩
theorem v_Mo_train : Cond.instanceMethod Y_Mo_train.1 ∈ zw_T ∧ Cond.selects Y_Mo_train.1.cls Y_Mo_train.1 Y_Mo_train.1 ∈ zw_T := ⟨(zw_inT (List.mem_of_getElem? (i := 503) (by decide +kernel)) rfl), (zw_inT (List.mem_of_getElem? (i := 504) (by decide +kernel)) rfl)⟩
theorem m_Mo_isId : zw_y Y_Mo_isId 1 := ⟨(zw_inT (List.mem_of_getElem? (i := 508) (by decide +kernel)) rfl), (zw_inT (List.mem_of_getElem? (i := 26) (by decide +kernel)) rfl), by decide +kernel, ⟨by decide +kernel, by decide +kernel⟩, by decide +kernel⟩
theorem s_Mo_isId : Cond.static Y_Mo_isId.1 ∈ zw_T := (zw_inT (List.mem_of_getElem? (i := 507) (by decide +kernel)) rfl)
theorem m_Mo_inForce : zw_y Y_Mo_inForce 0 := ⟨(zw_inT (List.mem_of_getElem? (i := 512) (by decide +kernel)) rfl), (zw_inT (List.mem_of_getElem? (i := 26) (by decide +kernel)) rfl), by decide +kernel, ⟨by decide +kernel, by decide +kernel⟩, by decide +kernel⟩
theorem v_Mo_inForce : Cond.instanceMethod Y_Mo_inForce.1 ∈ zw_T ∧ Cond.selects Y_Mo_inForce.1.cls Y_Mo_inForce.1 Y_Mo_inForce.1 ∈ zw_T := ⟨(zw_inT (List.mem_of_getElem? (i := 511) (by decide +kernel)) rfl), (zw_inT (by decide +kernel) rfl)⟩
theorem m_Mo_log : zw_y Y_Mo_log 4 := ⟨(zw_inT (List.mem_of_getElem? (i := 517) (by decide +kernel)) rfl), (zw_inT (List.mem_of_getElem? (i := 26) (by decide +kernel)) rfl), by decide +kernel, ⟨by decide +kernel, by decide +kernel⟩, by decide +kernel⟩
theorem v_Mo_log : Cond.instanceMethod Y_Mo_log.1 ∈ zw_T ∧ Cond.selects Y_Mo_log.1.cls Y_Mo_log.1 Y_Mo_log.1 ∈ zw_T := ⟨(zw_inT (List.mem_of_getElem? (i := 516) (by decide +kernel)) rfl), (zw_inT (by decide +kernel) rfl)⟩
theorem m_Mo_apply : zw_y Y_Mo_apply 1 := ⟨(zw_inT (List.mem_of_getElem? (i := 521) (by decide +kernel)) rfl), (zw_inT (List.mem_of_getElem? (i := 26) (by decide +kernel)) rfl), by decide +kernel, ⟨by decide +kernel, by decide +kernel⟩, by decide +kernel⟩
theorem v_Mo_apply : Cond.instanceMethod Y_Mo_apply.1 ∈ zw_T ∧ Cond.selects Y_Mo_apply.1.cls Y_Mo_apply.1 Y_Mo_apply.1 ∈ zw_T := ⟨(zw_inT (List.mem_of_getElem? (i := 520) (by decide +kernel)) rfl), (zw_inT (by decide +kernel) rfl)⟩
theorem m_Mo_untrain : zw_y Y_Mo_untrain 1 := ⟨(zw_inT (List.mem_of_getElem? (i := 525) (by decide +kernel)) rfl), (zw_inT (List.mem_of_getElem? (i := 26) (by decide +kernel)) rfl), by decide +kernel, ⟨by decide +kernel, by decide +kernel⟩, by decide +kernel⟩
theorem v_Mo_untrain : Cond.instanceMethod Y_Mo_untrain.1 ∈ zw_T ∧ Cond.selects Y_Mo_untrain.1.cls Y_Mo_untrain.1 Y_Mo_untrain.1 ∈ zw_T := ⟨(zw_inT (List.mem_of_getElem? (i := 523) (by decide +kernel)) rfl), (zw_inT (List.mem_of_getElem? (i := 524) (by decide +kernel)) rfl)⟩
theorem m_Mo_sync : zw_y Y_Mo_sync 0 := ⟨(zw_inT (List.mem_of_getElem? (i := 529) (by decide +kernel)) rfl), (zw_inT (List.mem_of_getElem? (i := 26) (by decide +kernel)) rfl), by decide +kernel, ⟨by decide +kernel, by decide +kernel⟩, by decide +kernel⟩
theorem v_Mo_sync : Cond.instanceMethod Y_Mo_sync.1 ∈ zw_T ∧ Cond.selects Y_Mo_sync.1.cls Y_Mo_sync.1 Y_Mo_sync.1 ∈ zw_T := ⟨(zw_inT (List.mem_of_getElem? (i := 527) (by decide +kernel)) rfl), (zw_inT (List.mem_of_getElem? (i := 528) (by decide +kernel)) rfl)⟩
theorem m_Mo_copy : zw_y Y_Mo_copy 2 := ⟨(zw_inT (List.mem_of_getElem? (i := 533) (by decide +kernel)) rfl), (zw_inT (List.mem_of_getElem? (i := 26) (by decide +kernel)) rfl), by decide +kernel, ⟨by decide +kernel, by decide +kernel⟩, by decide +kernel⟩
theorem v_Mo_copy : Cond.instanceMethod Y_Mo_copy.1 ∈ zw_T ∧ Cond.selects Y_Mo_copy.1.cls Y_Mo_copy.1 Y_Mo_copy.1 ∈ zw_T := ⟨(zw_inT (List.mem_of_getElem? (i := 532) (by decide +kernel)) rfl), (zw_inT (by decide +kernel) rfl)⟩
theorem m_Mo_fail : zw_y Y_Mo_fail 1 := ⟨(zw_inT (List.mem_of_getElem? (i := 537) (by decide +kernel)) rfl), (zw_inT (List.mem_of_getElem? (i := 26) (by decide +kernel)) rfl), by decide +kernel, ⟨by decide +kernel, by decide +kernel⟩, by decide +kernel⟩
theorem v_Mo_fail : Cond.instanceMethod Y_Mo_fail.1 ∈ zw_T ∧ Cond.selects Y_Mo_fail.1.cls Y_Mo_fail.1 Y_Mo_fail.1 ∈ zw_T := ⟨(zw_inT (List.mem_of_getElem? (i := 535) (by decide +kernel)) rfl), (zw_inT (List.mem_of_getElem? (i := 536) (by decide +kernel)) rfl)⟩
theorem m_Mo_documents : zw_y Y_Mo_documents 1 := ⟨(zw_inT (List.mem_of_getElem? (i := 541) (by decide +kernel)) rfl), (zw_inT (List.mem_of_getElem? (i := 26) (by decide +kernel)) rfl), by decide +kernel, ⟨by decide +kernel, by decide +kernel⟩, by decide +kernel⟩
theorem v_Mo_documents : Cond.instanceMethod Y_Mo_documents.1 ∈ zw_T ∧ Cond.selects Y_Mo_documents.1.cls Y_Mo_documents.1 Y_Mo_documents.1 ∈ zw_T := ⟨(zw_inT (List.mem_of_getElem? (i := 539) (by decide +kernel)) rfl), (zw_inT (List.mem_of_getElem? (i := 540) (by decide +kernel)) rfl)⟩
theorem m_Mo_total : zw_y Y_Mo_total 1 := ⟨(zw_inT (List.mem_of_getElem? (i := 545) (by decide +kernel)) rfl), (zw_inT (List.mem_of_getElem? (i := 26) (by decide +kernel)) rfl), by decide +kernel, ⟨by decide +kernel, by decide +kernel⟩, by decide +kernel⟩
theorem v_Mo_total : Cond.instanceMethod Y_Mo_total.1 ∈ zw_T ∧ Cond.selects Y_Mo_total.1.cls Y_Mo_total.1 Y_Mo_total.1 ∈ zw_T := ⟨(zw_inT (List.mem_of_getElem? (i := 543) (by decide +kernel)) rfl), (zw_inT (List.mem_of_getElem? (i := 544) (by decide +kernel)) rfl)⟩
theorem m_Mo_isClass : zw_y Y_Mo_isClass 1 := ⟨(zw_inT (List.mem_of_getElem? (i := 549) (by decide +kernel)) rfl), (zw_inT (List.mem_of_getElem? (i := 26) (by decide +kernel)) rfl), by decide +kernel, ⟨by decide +kernel, by decide +kernel⟩, by decide +kernel⟩
theorem v_Mo_isClass : Cond.instanceMethod Y_Mo_isClass.1 ∈ zw_T ∧ Cond.selects Y_Mo_isClass.1.cls Y_Mo_isClass.1 Y_Mo_isClass.1 ∈ zw_T := ⟨(zw_inT (List.mem_of_getElem? (i := 548) (by decide +kernel)) rfl), (zw_inT (by decide +kernel) rfl)⟩
theorem m_Mo_count : zw_y Y_Mo_count 2 := ⟨(zw_inT (List.mem_of_getElem? (i := 553) (by decide +kernel)) rfl), (zw_inT (List.mem_of_getElem? (i := 26) (by decide +kernel)) rfl), by decide +kernel, ⟨by decide +kernel, by decide +kernel⟩, by decide +kernel⟩
theorem v_Mo_count : Cond.instanceMethod Y_Mo_count.1 ∈ zw_T ∧ Cond.selects Y_Mo_count.1.cls Y_Mo_count.1 Y_Mo_count.1 ∈ zw_T := ⟨(zw_inT (List.mem_of_getElem? (i := 551) (by decide +kernel)) rfl), (zw_inT (List.mem_of_getElem? (i := 552) (by decide +kernel)) rfl)⟩
theorem m_Mo_howOften : zw_y Y_Mo_howOften 2 := ⟨(zw_inT (List.mem_of_getElem? (i := 557) (by decide +kernel)) rfl), (zw_inT (List.mem_of_getElem? (i := 26) (by decide +kernel)) rfl), by decide +kernel, ⟨by decide +kernel, by decide +kernel⟩, by decide +kernel⟩
theorem v_Mo_howOften : Cond.instanceMethod Y_Mo_howOften.1 ∈ zw_T ∧ Cond.selects Y_Mo_howOften.1.cls Y_Mo_howOften.1 Y_Mo_howOften.1 ∈ zw_T := ⟨(zw_inT (List.mem_of_getElem? (i := 556) (by decide +kernel)) rfl), (zw_inT (by decide +kernel) rfl)⟩
theorem m_Mo_vocabulary : zw_y Y_Mo_vocabulary 0 := ⟨(zw_inT (List.mem_of_getElem? (i := 561) (by decide +kernel)) rfl), (zw_inT (List.mem_of_getElem? (i := 26) (by decide +kernel)) rfl), by decide +kernel, ⟨by decide +kernel, by decide +kernel⟩, by decide +kernel⟩
theorem v_Mo_vocabulary : Cond.instanceMethod Y_Mo_vocabulary.1 ∈ zw_T ∧ Cond.selects Y_Mo_vocabulary.1.cls Y_Mo_vocabulary.1 Y_Mo_vocabulary.1 ∈ zw_T := ⟨(zw_inT (List.mem_of_getElem? (i := 559) (by decide +kernel)) rfl), (zw_inT (List.mem_of_getElem? (i := 560) (by decide +kernel)) rfl)⟩
theorem m_Mo_isNew : zw_y Y_Mo_isNew 2 := ⟨(zw_inT (List.mem_of_getElem? (i := 565) (by decide +kernel)) rfl), (zw_inT (List.mem_of_getElem? (i := 26) (by decide +kernel)) rfl), by decide +kernel, ⟨by decide +kernel, by decide +kernel⟩, by decide +kernel⟩
theorem v_Mo_isNew : Cond.instanceMethod Y_Mo_isNew.1 ∈ zw_T ∧ Cond.selects Y_Mo_isNew.1.cls Y_Mo_isNew.1 Y_Mo_isNew.1 ∈ zw_T := ⟨(zw_inT (List.mem_of_getElem? (i := 564) (by decide +kernel)) rfl), (zw_inT (by decide +kernel) rfl)⟩
theorem m_Mo_label : zw_y Y_Mo_label 1 := ⟨(zw_inT (List.mem_of_getElem? (i := 569) (by decide +kernel)) rfl), (zw_inT (List.mem_of_getElem? (i := 26) (by decide +kernel)) rfl), by decide +kernel, ⟨by decide +kernel, by decide +kernel⟩, by decide +kernel⟩
theorem v_Mo_label : Cond.instanceMethod Y_Mo_label.1 ∈ zw_T ∧ Cond.selects Y_Mo_label.1.cls Y_Mo_label.1 Y_Mo_label.1 ∈ zw_T := ⟨(zw_inT (List.mem_of_getElem? (i := 567) (by decide +kernel)) rfl), (zw_inT (List.mem_of_getElem? (i := 568) (by decide +kernel)) rfl)⟩
theorem m_Mo_compare : zw_y Y_Mo_compare 2 := ⟨(zw_inT (List.mem_of_getElem? (i := 573) (by decide +kernel)) rfl), (zw_inT (List.mem_of_getElem? (i := 26) (by decide +kernel)) rfl), by decide +kernel, ⟨by decide +kernel, by decide +kernel⟩, by decide +kernel⟩
theorem v_Mo_compare : Cond.instanceMethod Y_Mo_compare.1 ∈ zw_T ∧ Cond.selects Y_Mo_compare.1.cls Y_Mo_compare.1 Y_Mo_compare.1 ∈ zw_T := ⟨(zw_inT (List.mem_of_getElem? (i := 571) (by decide +kernel)) rfl), (zw_inT (List.mem_of_getElem? (i := 572) (by decide +kernel)) rfl)⟩
theorem m_Mo_against : zw_y Y_Mo_against 2 := ⟨(zw_inT (List.mem_of_getElem? (i := 577) (by decide +kernel)) rfl), (zw_inT (List.mem_of_getElem? (i := 26) (by decide +kernel)) rfl), by decide +kernel, ⟨by decide +kernel, by decide +kernel⟩, by decide +kernel⟩
theorem v_Mo_against : Cond.instanceMethod Y_Mo_against.1 ∈ zw_T ∧ Cond.selects Y_Mo_against.1.cls Y_Mo_against.1 Y_Mo_against.1 ∈ zw_T := ⟨(zw_inT (List.mem_of_getElem? (i := 576) (by decide +kernel)) rfl), (zw_inT (by decide +kernel) rfl)⟩
theorem m_Mo_times : zw_y Y_Mo_times 2 := ⟨(zw_inT (List.mem_of_getElem? (i := 584) (by decide +kernel)) rfl), (zw_inT (List.mem_of_getElem? (i := 26) (by decide +kernel)) rfl), by decide +kernel, ⟨by decide +kernel, by decide +kernel⟩, by decide +kernel⟩
theorem v_Mo_times : Cond.instanceMethod Y_Mo_times.1 ∈ zw_T ∧ Cond.selects Y_Mo_times.1.cls Y_Mo_times.1 Y_Mo_times.1 ∈ zw_T := ⟨(zw_inT (List.mem_of_getElem? (i := 583) (by decide +kernel)) rfl), (zw_inT (by decide +kernel) rfl)⟩
theorem m_Mo_order : zw_y Y_Mo_order 1 := ⟨(zw_inT (List.mem_of_getElem? (i := 588) (by decide +kernel)) rfl), (zw_inT (List.mem_of_getElem? (i := 26) (by decide +kernel)) rfl), by decide +kernel, ⟨by decide +kernel, by decide +kernel⟩, by decide +kernel⟩
theorem v_Mo_order : Cond.instanceMethod Y_Mo_order.1 ∈ zw_T ∧ Cond.selects Y_Mo_order.1.cls Y_Mo_order.1 Y_Mo_order.1 ∈ zw_T := ⟨(zw_inT (List.mem_of_getElem? (i := 586) (by decide +kernel)) rfl), (zw_inT (List.mem_of_getElem? (i := 587) (by decide +kernel)) rfl)⟩
theorem m_Mo_place : zw_y Y_Mo_place 1 := ⟨(zw_inT (List.mem_of_getElem? (i := 592) (by decide +kernel)) rfl), (zw_inT (List.mem_of_getElem? (i := 26) (by decide +kernel)) rfl), by decide +kernel, ⟨by decide +kernel, by decide +kernel⟩, by decide +kernel⟩
theorem v_Mo_place : Cond.instanceMethod Y_Mo_place.1 ∈ zw_T ∧ Cond.selects Y_Mo_place.1.cls Y_Mo_place.1 Y_Mo_place.1 ∈ zw_T := ⟨(zw_inT (List.mem_of_getElem? (i := 591) (by decide +kernel)) rfl), (zw_inT (by decide +kernel) rfl)⟩
theorem m_Mo_classify : zw_y Y_Mo_classify 0 := ⟨(zw_inT (List.mem_of_getElem? (i := 596) (by decide +kernel)) rfl), (zw_inT (List.mem_of_getElem? (i := 26) (by decide +kernel)) rfl), by decide +kernel, ⟨by decide +kernel, by decide +kernel⟩, by decide +kernel⟩
theorem v_Mo_classify : Cond.instanceMethod Y_Mo_classify.1 ∈ zw_T ∧ Cond.selects Y_Mo_classify.1.cls Y_Mo_classify.1 Y_Mo_classify.1 ∈ zw_T := ⟨(zw_inT (List.mem_of_getElem? (i := 594) (by decide +kernel)) rfl), (zw_inT (List.mem_of_getElem? (i := 595) (by decide +kernel)) rfl)⟩
theorem k_WE_9 : zw_lk "WordEvidence" 9 Y_Text_init.1 := Or.inr ⟨"WordEvidence", (zw_inT (List.mem_of_getElem? (i := 41) (by decide +kernel)) rfl)⟩
theorem k_WE_18 : zw_lk "WordEvidence" 18 Y_Shelf_init.1 := Or.inr ⟨"WordEvidence", (zw_inT (List.mem_of_getElem? (i := 65) (by decide +kernel)) rfl)⟩
theorem k_WE_28 : zw_lk "WordEvidence" 28 Y_Log_init.1 := Or.inr ⟨"WordEvidence", (zw_inT (List.mem_of_getElem? (i := 80) (by decide +kernel)) rfl)⟩
theorem k_WE_35 : zw_lk "WordEvidence" 35 Y_Chances_init.1 := Or.inr ⟨"WordEvidence", (zw_inT (List.mem_of_getElem? (i := 105) (by decide +kernel)) rfl)⟩
theorem k_WE_40 : zw_lk "WordEvidence" 40 Y_Math_min.1 := Or.inl (zw_inT (List.mem_of_getElem? (i := 143) (by decide +kernel)) rfl)
theorem k_WE_46 : zw_lk "WordEvidence" 46 Y_Math_max.1 := Or.inl (zw_inT (List.mem_of_getElem? (i := 146) (by decide +kernel)) rfl)
theorem k_WE_53 : zw_lk "WordEvidence" 53 Y_Text_append.1 := Or.inl (zw_inT (List.mem_of_getElem? (i := 172) (by decide +kernel)) rfl)
theorem k_WE_57 : zw_lk "WordEvidence" 57 Y_Text_empty.1 := Or.inl (zw_inT (List.mem_of_getElem? (i := 190) (by decide +kernel)) rfl)
theorem k_WE_64 : zw_lk "WordEvidence" 64 Y_Text_hasWord.1 := Or.inl (zw_inT (List.mem_of_getElem? (i := 202) (by decide +kernel)) rfl)
theorem k_WE_72 : zw_lk "WordEvidence" 72 Y_Letters_at.1 := Or.inl (zw_inT (List.mem_of_getElem? (i := 206) (by decide +kernel)) rfl)
theorem k_WE_78 : zw_lk "WordEvidence" 78 Y_WE_isId.1 := Or.inl (zw_inT (List.mem_of_getElem? (i := 213) (by decide +kernel)) rfl)
theorem k_WE_81 : zw_lk "WordEvidence" 81 Y_WE_isClass.1 := Or.inl (zw_inT (List.mem_of_getElem? (i := 216) (by decide +kernel)) rfl)
theorem k_WE_84 : zw_lk "WordEvidence" 84 Y_Shelf_find.1 := Or.inl (zw_inT (List.mem_of_getElem? (i := 220) (by decide +kernel)) rfl)
theorem k_WE_88 : zw_lk "WordEvidence" 88 Y_Shelf_size.1 := Or.inl (zw_inT (List.mem_of_getElem? (i := 225) (by decide +kernel)) rfl)
theorem k_WE_91 : zw_lk "WordEvidence" 91 Y_WE_blocksToTrain.1 := Or.inl (zw_inT (List.mem_of_getElem? (i := 229) (by decide +kernel)) rfl)
theorem k_WE_95 : zw_lk "WordEvidence" 95 Y_Log_hasRoomFor.1 := Or.inl (zw_inT (List.mem_of_getElem? (i := 232) (by decide +kernel)) rfl)
theorem k_WE_100 : zw_lk "WordEvidence" 100 Y_Text_copyOfWords.1 := Or.inl (zw_inT (List.mem_of_getElem? (i := 238) (by decide +kernel)) rfl)
theorem k_WE_104 : zw_lk "WordEvidence" 104 Y_Document_init.1 := Or.inl (zw_inT (List.mem_of_getElem? (i := 256) (by decide +kernel)) rfl)
theorem k_WE_107 : zw_lk "WordEvidence" 107 Y_WE_change.1 := Or.inl (zw_inT (List.mem_of_getElem? (i := 270) (by decide +kernel)) rfl)
theorem k_WE_114 : zw_lk "WordEvidence" 114 Y_Shelf_copyFrom.1 := Or.inl (zw_inT (List.mem_of_getElem? (i := 290) (by decide +kernel)) rfl)
theorem k_WE_118 : zw_lk "WordEvidence" 118 Y_Log_empty.1 := Or.inl (zw_inT (List.mem_of_getElem? (i := 294) (by decide +kernel)) rfl)
theorem k_WE_119 : zw_lk "WordEvidence" 119 Y_Log_replayOn.1 := Or.inl (zw_inT (List.mem_of_getElem? (i := 302) (by decide +kernel)) rfl)
theorem k_WE_126 : zw_lk "WordEvidence" 126 Y_Shelf_documentsOf.1 := Or.inl (zw_inT (List.mem_of_getElem? (i := 315) (by decide +kernel)) rfl)
theorem k_WE_129 : zw_lk "WordEvidence" 129 Y_Shelf_wordsOf.1 := Or.inl (zw_inT (List.mem_of_getElem? (i := 323) (by decide +kernel)) rfl)
theorem k_WE_132 : zw_lk "WordEvidence" 132 Y_Shelf_timesOf.1 := Or.inl (zw_inT (List.mem_of_getElem? (i := 331) (by decide +kernel)) rfl)
theorem k_WE_136 : zw_lk "WordEvidence" 136 Y_Shelf_differentWords.1 := Or.inl (zw_inT (List.mem_of_getElem? (i := 343) (by decide +kernel)) rfl)
theorem k_WE_139 : zw_lk "WordEvidence" 139 Y_WE_order.1 := Or.inl (zw_inT (List.mem_of_getElem? (i := 363) (by decide +kernel)) rfl)
theorem k_WE_142 : zw_lk "WordEvidence" 142 Y_Chances_weigh.1 := Or.inl (zw_inT (List.mem_of_getElem? (i := 367) (by decide +kernel)) rfl)
theorem k_WE_146 : zw_lk "WordEvidence" 146 Y_Chances_classAt.1 := Or.inl (zw_inT (List.mem_of_getElem? (i := 375) (by decide +kernel)) rfl)
theorem k_WE_149 : zw_lk "WordEvidence" 149 Y_Chances_signOf.1 := Or.inl (zw_inT (List.mem_of_getElem? (i := 412) (by decide +kernel)) rfl)
theorem k_WE_152 : zw_lk "WordEvidence" 152 Y_Log_write.1 := Or.inl (zw_inT (List.mem_of_getElem? (i := 274) (by decide +kernel)) rfl)
theorem k_WE_155 : zw_lk "WordEvidence" 155 Y_Shelf_put.1 := Or.inl (zw_inT (List.mem_of_getElem? (i := 278) (by decide +kernel)) rfl)
theorem k_Chances_25 : zw_lk "WordEvidence$Chances" 25 Y_Product_init.1 := Or.inr ⟨"WordEvidence", (zw_inT (List.mem_of_getElem? (i := 113) (by decide +kernel)) rfl)⟩
theorem k_Chances_43 : zw_lk "WordEvidence$Chances" 43 Y_Shelf_differentWords.1 := Or.inl (zw_inT (List.mem_of_getElem? (i := 371) (by decide +kernel)) rfl)
theorem k_Chances_49 : zw_lk "WordEvidence$Chances" 49 Y_Shelf_documentsOf.1 := Or.inl (zw_inT (List.mem_of_getElem? (i := 372) (by decide +kernel)) rfl)
theorem k_Chances_53 : zw_lk "WordEvidence$Chances" 53 Y_Shelf_wordsOf.1 := Or.inl (zw_inT (List.mem_of_getElem? (i := 373) (by decide +kernel)) rfl)
theorem k_Chances_60 : zw_lk "WordEvidence$Chances" 60 Y_Shelf_timesOf.1 := Or.inl (zw_inT (List.mem_of_getElem? (i := 374) (by decide +kernel)) rfl)
theorem k_Chances_64 : zw_lk "WordEvidence$Chances" 64 Y_Chances_placeOf.1 := Or.inl (zw_inT (List.mem_of_getElem? (i := 379) (by decide +kernel)) rfl)
theorem k_Chances_67 : zw_lk "WordEvidence$Chances" 67 Y_Chances_signOf.1 := Or.inl (zw_inT (List.mem_of_getElem? (i := 383) (by decide +kernel)) rfl)
theorem k_Chances_71 : zw_lk "WordEvidence$Chances" 71 Y_Chances_multiplyOut.1 := Or.inl (zw_inT (List.mem_of_getElem? (i := 387) (by decide +kernel)) rfl)
theorem k_Chances_75 : zw_lk "WordEvidence$Chances" 75 Y_Product_signAgainst.1 := Or.inl (zw_inT (List.mem_of_getElem? (i := 403) (by decide +kernel)) rfl)
theorem k_Chances_79 : zw_lk "WordEvidence$Chances" 79 Y_Product_start.1 := Or.inl (zw_inT (List.mem_of_getElem? (i := 391) (by decide +kernel)) rfl)
theorem k_Chances_83 : zw_lk "WordEvidence$Chances" 83 Y_Product_times.1 := Or.inl (zw_inT (List.mem_of_getElem? (i := 398) (by decide +kernel)) rfl)
theorem k_Log_31 : zw_lk "WordEvidence$Log" 31 Y_Shelf_put.1 := Or.inl (zw_inT (List.mem_of_getElem? (i := 306) (by decide +kernel)) rfl)
theorem k_Product_13 : zw_lk "WordEvidence$Product" 13 Y_Arrays_fill.1 := Or.inl (zw_inT (List.mem_of_getElem? (i := 395) (by decide +kernel)) rfl)
theorem k_Shelf_21 : zw_lk "WordEvidence$Shelf" 21 Y_WE_isId.1 := Or.inr ⟨"WordEvidence", (zw_inT (List.mem_of_getElem? (i := 224) (by decide +kernel)) rfl)⟩
theorem k_Shelf_32 : zw_lk "WordEvidence$Shelf" 32 Y_Document_timesOf.1 := Or.inl (zw_inT (List.mem_of_getElem? (i := 335) (by decide +kernel)) rfl)
theorem k_Shelf_36 : zw_lk "WordEvidence$Shelf" 36 Y_Shelf_noteNewWords.1 := Or.inl (zw_inT (List.mem_of_getElem? (i := 347) (by decide +kernel)) rfl)
theorem k_Shelf_40 : zw_lk "WordEvidence$Shelf" 40 Y_Shelf_isSeen.1 := Or.inl (zw_inT (List.mem_of_getElem? (i := 351) (by decide +kernel)) rfl)
theorem k_Text_25 : zw_lk "WordEvidence$Text" 25 Y_Letters_fold.1 := Or.inl (zw_inT (List.mem_of_getElem? (i := 176) (by decide +kernel)) rfl)
theorem k_Text_31 : zw_lk "WordEvidence$Text" 31 Y_Text_lengthenRun.1 := Or.inl (zw_inT (List.mem_of_getElem? (i := 179) (by decide +kernel)) rfl)
theorem k_Text_35 : zw_lk "WordEvidence$Text" 35 Y_Letters_with.1 := Or.inl (zw_inT (List.mem_of_getElem? (i := 183) (by decide +kernel)) rfl)
theorem k_Text_39 : zw_lk "WordEvidence$Text" 39 Y_Arrays_copyOf.1 := Or.inl (zw_inT (List.mem_of_getElem? (i := 242) (by decide +kernel)) rfl)
theorem k_Law_9 : zw_lk "WordEvidenceLaw" 9 Y_Law_cell.1 := Or.inl (zw_inT (List.mem_of_getElem? (i := 413) (by decide +kernel)) rfl)
theorem k_Law_15 : zw_lk "WordEvidenceLaw" 15 Y_WE_init.1 := Or.inl (zw_inT (List.mem_of_getElem? (i := 33) (by decide +kernel)) rfl)
theorem k_Law_20 : zw_lk "WordEvidenceLaw" 20 Y_Mo_init.1 := Or.inl (zw_inT (List.mem_of_getElem? (i := 418) (by decide +kernel)) rfl)
theorem k_Law_21 : zw_lk "WordEvidenceLaw" 21 Y_WE_key.1 := Or.inl (zw_inT (List.mem_of_getElem? (i := 168) (by decide +kernel)) rfl)
theorem k_Law_25 : zw_lk "WordEvidenceLaw" 25 Y_Mo_key.1 := Or.inl (zw_inT (List.mem_of_getElem? (i := 474) (by decide +kernel)) rfl)
theorem k_Law_26 : zw_lk "WordEvidenceLaw" 26 Y_WE_clear.1 := Or.inl (zw_inT (List.mem_of_getElem? (i := 186) (by decide +kernel)) rfl)
theorem k_Law_30 : zw_lk "WordEvidenceLaw" 30 Y_Mo_clear.1 := Or.inl (zw_inT (List.mem_of_getElem? (i := 478) (by decide +kernel)) rfl)
theorem k_Law_31 : zw_lk "WordEvidenceLaw" 31 Y_WE_words.1 := Or.inl (zw_inT (List.mem_of_getElem? (i := 194) (by decide +kernel)) rfl)
theorem k_Law_34 : zw_lk "WordEvidenceLaw" 34 Y_Mo_words.1 := Or.inl (zw_inT (List.mem_of_getElem? (i := 482) (by decide +kernel)) rfl)
theorem k_Law_35 : zw_lk "WordEvidenceLaw" 35 Y_WE_letter.1 := Or.inl (zw_inT (List.mem_of_getElem? (i := 198) (by decide +kernel)) rfl)
theorem k_Law_39 : zw_lk "WordEvidenceLaw" 39 Y_Mo_letter.1 := Or.inl (zw_inT (List.mem_of_getElem? (i := 494) (by decide +kernel)) rfl)
theorem k_Law_40 : zw_lk "WordEvidenceLaw" 40 Y_WE_train.1 := Or.inl (zw_inT (List.mem_of_getElem? (i := 209) (by decide +kernel)) rfl)
theorem k_Law_43 : zw_lk "WordEvidenceLaw" 43 Y_Mo_train.1 := Or.inl (zw_inT (List.mem_of_getElem? (i := 502) (by decide +kernel)) rfl)
theorem k_Law_44 : zw_lk "WordEvidenceLaw" 44 Y_WE_untrain.1 := Or.inl (zw_inT (List.mem_of_getElem? (i := 282) (by decide +kernel)) rfl)
theorem k_Law_48 : zw_lk "WordEvidenceLaw" 48 Y_Mo_untrain.1 := Or.inl (zw_inT (List.mem_of_getElem? (i := 522) (by decide +kernel)) rfl)
theorem k_Law_49 : zw_lk "WordEvidenceLaw" 49 Y_WE_sync.1 := Or.inl (zw_inT (List.mem_of_getElem? (i := 286) (by decide +kernel)) rfl)
theorem k_Law_52 : zw_lk "WordEvidenceLaw" 52 Y_Mo_sync.1 := Or.inl (zw_inT (List.mem_of_getElem? (i := 526) (by decide +kernel)) rfl)
theorem k_Law_53 : zw_lk "WordEvidenceLaw" 53 Y_WE_fail.1 := Or.inl (zw_inT (List.mem_of_getElem? (i := 298) (by decide +kernel)) rfl)
theorem k_Law_56 : zw_lk "WordEvidenceLaw" 56 Y_Mo_fail.1 := Or.inl (zw_inT (List.mem_of_getElem? (i := 534) (by decide +kernel)) rfl)
theorem k_Law_57 : zw_lk "WordEvidenceLaw" 57 Y_WE_pending.1 := Or.inl (zw_inT (List.mem_of_getElem? (i := 307) (by decide +kernel)) rfl)
theorem k_Law_60 : zw_lk "WordEvidenceLaw" 60 Y_Mo_pending.1 := Or.inl (zw_inT (List.mem_of_getElem? (i := 498) (by decide +kernel)) rfl)
theorem k_Law_61 : zw_lk "WordEvidenceLaw" 61 Y_WE_documents.1 := Or.inl (zw_inT (List.mem_of_getElem? (i := 311) (by decide +kernel)) rfl)
theorem k_Law_64 : zw_lk "WordEvidenceLaw" 64 Y_Mo_documents.1 := Or.inl (zw_inT (List.mem_of_getElem? (i := 538) (by decide +kernel)) rfl)
theorem k_Law_65 : zw_lk "WordEvidenceLaw" 65 Y_WE_total.1 := Or.inl (zw_inT (List.mem_of_getElem? (i := 319) (by decide +kernel)) rfl)
theorem k_Law_68 : zw_lk "WordEvidenceLaw" 68 Y_Mo_total.1 := Or.inl (zw_inT (List.mem_of_getElem? (i := 542) (by decide +kernel)) rfl)
theorem k_Law_69 : zw_lk "WordEvidenceLaw" 69 Y_WE_count.1 := Or.inl (zw_inT (List.mem_of_getElem? (i := 327) (by decide +kernel)) rfl)
theorem k_Law_72 : zw_lk "WordEvidenceLaw" 72 Y_Mo_count.1 := Or.inl (zw_inT (List.mem_of_getElem? (i := 550) (by decide +kernel)) rfl)
theorem k_Law_73 : zw_lk "WordEvidenceLaw" 73 Y_WE_vocabulary.1 := Or.inl (zw_inT (List.mem_of_getElem? (i := 339) (by decide +kernel)) rfl)
theorem k_Law_76 : zw_lk "WordEvidenceLaw" 76 Y_Mo_vocabulary.1 := Or.inl (zw_inT (List.mem_of_getElem? (i := 558) (by decide +kernel)) rfl)
theorem k_Law_77 : zw_lk "WordEvidenceLaw" 77 Y_WE_label.1 := Or.inl (zw_inT (List.mem_of_getElem? (i := 355) (by decide +kernel)) rfl)
theorem k_Law_80 : zw_lk "WordEvidenceLaw" 80 Y_Mo_label.1 := Or.inl (zw_inT (List.mem_of_getElem? (i := 566) (by decide +kernel)) rfl)
theorem k_Law_81 : zw_lk "WordEvidenceLaw" 81 Y_WE_classify.1 := Or.inl (zw_inT (List.mem_of_getElem? (i := 359) (by decide +kernel)) rfl)
theorem k_Law_84 : zw_lk "WordEvidenceLaw" 84 Y_Mo_classify.1 := Or.inl (zw_inT (List.mem_of_getElem? (i := 593) (by decide +kernel)) rfl)
theorem k_Law_85 : zw_lk "WordEvidenceLaw" 85 Y_WE_order.1 := Or.inl (zw_inT (List.mem_of_getElem? (i := 407) (by decide +kernel)) rfl)
theorem k_Law_88 : zw_lk "WordEvidenceLaw" 88 Y_Mo_order.1 := Or.inl (zw_inT (List.mem_of_getElem? (i := 585) (by decide +kernel)) rfl)
theorem k_Law_89 : zw_lk "WordEvidenceLaw" 89 Y_WE_compare.1 := Or.inl (zw_inT (List.mem_of_getElem? (i := 408) (by decide +kernel)) rfl)
theorem k_Law_92 : zw_lk "WordEvidenceLaw" 92 Y_Mo_compare.1 := Or.inl (zw_inT (List.mem_of_getElem? (i := 570) (by decide +kernel)) rfl)
theorem k_Mo_60 : zw_lk "WordEvidenceModel" 60 Y_Mo_plain.1 := Or.inl (zw_inT (List.mem_of_getElem? (i := 490) (by decide +kernel)) rfl)
theorem k_Mo_66 : zw_lk "WordEvidenceModel" 66 Y_Mo_read.1 := Or.inl (zw_inT (List.mem_of_getElem? (i := 486) (by decide +kernel)) rfl)
theorem k_Mo_72 : zw_lk "WordEvidenceModel" 72 Y_Mo_isId.1 := Or.inl (zw_inT (List.mem_of_getElem? (i := 506) (by decide +kernel)) rfl)
theorem k_Mo_76 : zw_lk "WordEvidenceModel" 76 Y_Mo_inForce.1 := Or.inl (zw_inT (List.mem_of_getElem? (i := 509) (by decide +kernel)) rfl)
theorem k_Mo_80 : zw_lk "WordEvidenceModel" 80 Y_Mo_pending.1 := Or.inl (zw_inT (List.mem_of_getElem? (i := 513) (by decide +kernel)) rfl)
theorem k_Mo_83 : zw_lk "WordEvidenceModel" 83 Y_Mo_log.1 := Or.inl (zw_inT (List.mem_of_getElem? (i := 514) (by decide +kernel)) rfl)
theorem k_Mo_87 : zw_lk "WordEvidenceModel" 87 Y_Mo_apply.1 := Or.inl (zw_inT (List.mem_of_getElem? (i := 518) (by decide +kernel)) rfl)
theorem k_Mo_91 : zw_lk "WordEvidenceModel" 91 Y_Mo_copy.1 := Or.inl (zw_inT (List.mem_of_getElem? (i := 530) (by decide +kernel)) rfl)
theorem k_Mo_95 : zw_lk "WordEvidenceModel" 95 Y_Mo_isClass.1 := Or.inl (zw_inT (List.mem_of_getElem? (i := 546) (by decide +kernel)) rfl)
theorem k_Mo_98 : zw_lk "WordEvidenceModel" 98 Y_Mo_howOften.1 := Or.inl (zw_inT (List.mem_of_getElem? (i := 554) (by decide +kernel)) rfl)
theorem k_Mo_102 : zw_lk "WordEvidenceModel" 102 Y_Mo_isNew.1 := Or.inl (zw_inT (List.mem_of_getElem? (i := 562) (by decide +kernel)) rfl)
theorem k_Mo_106 : zw_lk "WordEvidenceModel" 106 Y_Mo_vocabulary.1 := Or.inl (zw_inT (List.mem_of_getElem? (i := 578) (by decide +kernel)) rfl)
theorem k_Mo_109 : zw_lk "WordEvidenceModel" 109 Y_Mo_total.1 := Or.inl (zw_inT (List.mem_of_getElem? (i := 579) (by decide +kernel)) rfl)
theorem k_Mo_112 : zw_lk "WordEvidenceModel" 112 Y_Mo_documents.1 := Or.inl (zw_inT (List.mem_of_getElem? (i := 580) (by decide +kernel)) rfl)
theorem k_Mo_115 : zw_lk "WordEvidenceModel" 115 Y_Mo_times.1 := Or.inl (zw_inT (List.mem_of_getElem? (i := 581) (by decide +kernel)) rfl)
theorem k_Mo_119 : zw_lk "WordEvidenceModel" 119 Y_Mo_against.1 := Or.inl (zw_inT (List.mem_of_getElem? (i := 574) (by decide +kernel)) rfl)
theorem k_Mo_123 : zw_lk "WordEvidenceModel" 123 Y_Mo_place.1 := Or.inl (zw_inT (List.mem_of_getElem? (i := 589) (by decide +kernel)) rfl)
theorem k_Mo_126 : zw_lk "WordEvidenceModel" 126 Y_Mo_order.1 := Or.inl (zw_inT (List.mem_of_getElem? (i := 597) (by decide +kernel)) rfl)
theorem k_Arrays_304 : zw_lk "java/util/Arrays" 304 Y_Math_min.1 := Or.inl (zw_inT (List.mem_of_getElem? (i := 252) (by decide +kernel)) rfl)
theorem t_arrI : Cond.arrayClass .int ∈ zw_T := (zw_inT (List.mem_of_getElem? (i := 102) (by decide +kernel)) rfl)
theorem t_arrL : Cond.arrayClass .long ∈ zw_T := (zw_inT (List.mem_of_getElem? (i := 62) (by decide +kernel)) rfl)
theorem c_WE_7 : Cond.classLink "WordEvidence" 7 "WordEvidence$Text" ∈ zw_T := (zw_inT (List.mem_of_getElem? (i := 39) (by decide +kernel)) rfl)
theorem c_WE_16 : Cond.classLink "WordEvidence" 16 "WordEvidence$Shelf" ∈ zw_T := (zw_inT (List.mem_of_getElem? (i := 63) (by decide +kernel)) rfl)
theorem c_WE_26 : Cond.classLink "WordEvidence" 26 "WordEvidence$Log" ∈ zw_T := (zw_inT (List.mem_of_getElem? (i := 78) (by decide +kernel)) rfl)
theorem c_WE_33 : Cond.classLink "WordEvidence" 33 "WordEvidence$Chances" ∈ zw_T := (zw_inT (List.mem_of_getElem? (i := 103) (by decide +kernel)) rfl)
theorem c_WE_98 : Cond.classLink "WordEvidence" 98 "WordEvidence$Document" ∈ zw_T := (zw_inT (List.mem_of_getElem? (i := 236) (by decide +kernel)) rfl)
theorem c_Chances_15 : Cond.classLink "WordEvidence$Chances" 15 "[[I" ∈ zw_T := (zw_inT (List.mem_of_getElem? (i := 109) (by decide +kernel)) rfl)
theorem c_Chances_23 : Cond.classLink "WordEvidence$Chances" 23 "WordEvidence$Product" ∈ zw_T := (zw_inT (List.mem_of_getElem? (i := 111) (by decide +kernel)) rfl)
theorem c_Log_18 : Cond.classLink "WordEvidence$Log" 18 "WordEvidence$Document" ∈ zw_T := (zw_inT (List.mem_of_getElem? (i := 84) (by decide +kernel)) rfl)
theorem c_Shelf_9 : Cond.classLink "WordEvidence$Shelf" 9 "WordEvidence$Document" ∈ zw_T := (zw_inT (List.mem_of_getElem? (i := 69) (by decide +kernel)) rfl)
theorem c_Law_7 : Cond.classLink "WordEvidenceLaw" 7 "WordEvidence" ∈ zw_T := (zw_inT (List.mem_of_getElem? (i := 31) (by decide +kernel)) rfl)
theorem c_Law_18 : Cond.classLink "WordEvidenceLaw" 18 "WordEvidenceModel" ∈ zw_T := (zw_inT (List.mem_of_getElem? (i := 416) (by decide +kernel)) rfl)
theorem c_Arrays_320 : Cond.classLink "java/util/Arrays" 320 "[J" ∈ zw_T := (zw_inT (List.mem_of_getElem? (i := 251) (by decide +kernel)) rfl)
theorem o_WE_1 : Cond.methodLink "WordEvidence" 1 Lib.objectInit ∈ zw_T := (zw_inT (List.mem_of_getElem? (i := 36) (by decide +kernel)) rfl)
theorem o_Chances_3 : Cond.methodLink "WordEvidence$Chances" 3 Lib.objectInit ∈ zw_T := (zw_inT (List.mem_of_getElem? (i := 108) (by decide +kernel)) rfl)
theorem o_Document_1 : Cond.methodLink "WordEvidence$Document" 1 Lib.objectInit ∈ zw_T := (zw_inT (List.mem_of_getElem? (i := 259) (by decide +kernel)) rfl)
theorem o_Log_3 : Cond.methodLink "WordEvidence$Log" 3 Lib.objectInit ∈ zw_T := (zw_inT (List.mem_of_getElem? (i := 83) (by decide +kernel)) rfl)
theorem o_Product_1 : Cond.methodLink "WordEvidence$Product" 1 Lib.objectInit ∈ zw_T := (zw_inT (List.mem_of_getElem? (i := 116) (by decide +kernel)) rfl)
theorem o_Shelf_3 : Cond.methodLink "WordEvidence$Shelf" 3 Lib.objectInit ∈ zw_T := (zw_inT (List.mem_of_getElem? (i := 68) (by decide +kernel)) rfl)
theorem o_Text_3 : Cond.methodLink "WordEvidence$Text" 3 Lib.objectInit ∈ zw_T := (zw_inT (List.mem_of_getElem? (i := 44) (by decide +kernel)) rfl)
theorem o_Mo_1 : Cond.methodLink "WordEvidenceModel" 1 Lib.objectInit ∈ zw_T := (zw_inT (List.mem_of_getElem? (i := 421) (by decide +kernel)) rfl)
