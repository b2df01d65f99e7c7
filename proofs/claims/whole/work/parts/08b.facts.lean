theorem t_oi : Cond.instanceMethod Lib.objectInit ∈ zw_T := (zw_inT (List.mem_of_getElem? (i := 37) (by decide +kernel)) rfl)
theorem t_oc : Cond.code Lib.objectInit ⟨#[0xb1]⟩ 1 none ∈ zw_T := (zw_inT (List.mem_of_getElem? (i := 38) (by decide +kernel)) rfl)
theorem t_aoD : Cond.arrayOver (.object "WordEvidence$Document") ∈ zw_T := (zw_inT (List.mem_of_getElem? (i := 70) (by decide +kernel)) rfl)
theorem t_aoA : Cond.arrayOver (.array .int) ∈ zw_T := (zw_inT (List.mem_of_getElem? (i := 110) (by decide +kernel)) rfl)
theorem n_Product_19 : Cond.constantLong "WordEvidence$Product" 19 4294967295 ∈ zw_T := (zw_inT (List.mem_of_getElem? (i := 402) (by decide +kernel)) rfl)
theorem n_Mo_64 : Cond.constantLong "WordEvidenceModel" 64 128 ∈ zw_T := (zw_inT (List.mem_of_getElem? (i := 493) (by decide +kernel)) rfl)
theorem t_mmin_s : Cond.static Lib.Math.min.name ∈ zw_T := (zw_inT (List.mem_of_getElem? (i := 144) (by decide +kernel)) rfl)
theorem t_mmin_c : Cond.code Lib.Math.min.name Lib.Math.min.code 2 (some .int) ∈ zw_T := (zw_inT (List.mem_of_getElem? (i := 145) (by decide +kernel)) rfl)
theorem t_mmax_s : Cond.static Lib.Math.max.name ∈ zw_T := (zw_inT (List.mem_of_getElem? (i := 147) (by decide +kernel)) rfl)
theorem t_mmax_c : Cond.code Lib.Math.max.name Lib.Math.max.code 2 (some .int) ∈ zw_T := (zw_inT (List.mem_of_getElem? (i := 148) (by decide +kernel)) rfl)
theorem t_mI : Cond.initialized "java/lang/Math" ∈ zw_T := (zw_inT (List.mem_of_getElem? (i := 25) (by decide +kernel)) rfl)
theorem t_sI : Cond.initialized "java/lang/System" ∈ zw_T := (zw_inT (List.mem_of_getElem? (i := 30) (by decide +kernel)) rfl)
theorem t_ac_s : Cond.static arraycopyName ∈ zw_T := (zw_inT (List.mem_of_getElem? (i := 254) (by decide +kernel)) rfl)
theorem t_ac_n : Cond.native arraycopyName ∈ zw_T := (zw_inT (List.mem_of_getElem? (i := 255) (by decide +kernel)) rfl)
theorem l_WE_40 : Cond.methodLink "WordEvidence" 40 Lib.Math.min.name ∈ zw_T := (zw_inT (List.mem_of_getElem? (i := 143) (by decide +kernel)) rfl)
theorem l_WE_46 : Cond.methodLink "WordEvidence" 46 Lib.Math.max.name ∈ zw_T := (zw_inT (List.mem_of_getElem? (i := 146) (by decide +kernel)) rfl)
theorem l_Arrays_150 : Cond.methodLink "java/util/Arrays" 150 arraycopyName ∈ zw_T := (zw_inT (List.mem_of_getElem? (i := 253) (by decide +kernel)) rfl)
theorem l_Arrays_304 : Cond.methodLink "java/util/Arrays" 304 Lib.Math.min.name ∈ zw_T := (zw_inT (List.mem_of_getElem? (i := 252) (by decide +kernel)) rfl)
theorem t_cl1 : Cond.methodLink "java/util/Arrays" 319 ⟨"[J", "clone", "()Ljava/lang/Object;"⟩ ∈ zw_T := (zw_inT (List.mem_of_getElem? (i := 245) (by decide +kernel)) rfl)
theorem t_cl2 : Cond.sameMethod "[J" "java/lang/Object" "clone" "()Ljava/lang/Object;" ∈ zw_T := (zw_inT (List.mem_of_getElem? (i := 246) (by decide +kernel)) rfl)
theorem t_cl3 : Cond.native ⟨"java/lang/Object", "clone", "()Ljava/lang/Object;"⟩ ∈ zw_T := (zw_inT (List.mem_of_getElem? (i := 247) (by decide +kernel)) rfl)
theorem t_cl4 : Cond.instanceMethod ⟨"java/lang/Object", "clone", "()Ljava/lang/Object;"⟩ ∈ zw_T := (zw_inT (List.mem_of_getElem? (i := 248) (by decide +kernel)) rfl)
theorem t_cl5 : Cond.selects "[J" ⟨"[J", "clone", "()Ljava/lang/Object;"⟩ ⟨"java/lang/Object", "clone", "()Ljava/lang/Object;"⟩ ∈ zw_T := (zw_inT (List.mem_of_getElem? (i := 249) (by decide +kernel)) rfl)
theorem t_cl6 : Cond.castable "[J" "java/lang/Cloneable" ∈ zw_T := (zw_inT (List.mem_of_getElem? (i := 250) (by decide +kernel)) rfl)
theorem zw_dv {T : u_T} {N : Nat} {fs : List Value} (h : ∀ j, j < N → (parseFieldDescriptor (T j).2.2.1).map defaultValue = some (vp_V fs j)) : ∀ j, j < N → ∀ ty, parseFieldDescriptor (T j).2.2.1 = some ty → defaultValue ty = vp_V fs j := fun j hj ty e => by
  have h2 := h j hj
  rw [e] at h2
  exact Option.some.inj h2
theorem nw_WE_7 : zw_nw "WordEvidence" 7 1 [.null, .int 0, .int 0, .int 0] := ⟨_, _, _, cf_Text, c_WE_7, (zw_inT (List.mem_of_getElem? (i := 40) (by decide +kernel)) rfl), (zw_inT (List.mem_of_getElem? (i := 20) (by decide +kernel)) rfl), rfl, zw_dv (by decide +kernel), fun _ => rfl⟩
theorem nw_WE_16 : zw_nw "WordEvidence" 16 2 [.null, .null] := ⟨_, _, _, cf_Shelf, c_WE_16, (zw_inT (List.mem_of_getElem? (i := 64) (by decide +kernel)) rfl), (zw_inT (List.mem_of_getElem? (i := 21) (by decide +kernel)) rfl), rfl, zw_dv (by decide +kernel), fun _ => rfl⟩
theorem nw_WE_26 : zw_nw "WordEvidence" 26 3 [.null, .null, .null, .int 0, .int 0] := ⟨_, _, _, cf_Log, c_WE_26, (zw_inT (List.mem_of_getElem? (i := 79) (by decide +kernel)) rfl), (zw_inT (List.mem_of_getElem? (i := 22) (by decide +kernel)) rfl), rfl, zw_dv (by decide +kernel), fun _ => rfl⟩
theorem nw_WE_33 : zw_nw "WordEvidence" 33 4 [.null, .null, .null, .null, .null, .int 0, .int 0] := ⟨_, _, _, cf_Chances, c_WE_33, (zw_inT (List.mem_of_getElem? (i := 104) (by decide +kernel)) rfl), (zw_inT (List.mem_of_getElem? (i := 23) (by decide +kernel)) rfl), rfl, zw_dv (by decide +kernel), fun _ => rfl⟩
theorem nw_WE_98 : zw_nw "WordEvidence" 98 6 [.int 0, .null] := ⟨_, _, _, cf_Document, c_WE_98, (zw_inT (List.mem_of_getElem? (i := 237) (by decide +kernel)) rfl), (zw_inT (List.mem_of_getElem? (i := 28) (by decide +kernel)) rfl), rfl, zw_dv (by decide +kernel), fun _ => rfl⟩
theorem nw_Chances_23 : zw_nw "WordEvidence$Chances" 23 5 [.null] := ⟨_, _, _, cf_Product, c_Chances_23, (zw_inT (List.mem_of_getElem? (i := 112) (by decide +kernel)) rfl), (zw_inT (List.mem_of_getElem? (i := 24) (by decide +kernel)) rfl), rfl, zw_dv (by decide +kernel), fun _ => rfl⟩
theorem nw_Log_18 : zw_nw "WordEvidence$Log" 18 6 [.int 0, .null] := ⟨_, _, _, cf_Document, c_Log_18, (zw_inT (List.mem_of_getElem? (i := 237) (by decide +kernel)) rfl), (zw_inT (List.mem_of_getElem? (i := 28) (by decide +kernel)) rfl), rfl, zw_dv (by decide +kernel), fun _ => rfl⟩
theorem nw_Shelf_9 : zw_nw "WordEvidence$Shelf" 9 6 [.int 0, .null] := ⟨_, _, _, cf_Document, c_Shelf_9, (zw_inT (List.mem_of_getElem? (i := 237) (by decide +kernel)) rfl), (zw_inT (List.mem_of_getElem? (i := 28) (by decide +kernel)) rfl), rfl, zw_dv (by decide +kernel), fun _ => rfl⟩
theorem nw_Law_7 : zw_nw "WordEvidenceLaw" 7 0 [.int 0, .null, .null, .null, .null, .null] := ⟨_, _, _, cf_WE, c_Law_7, (zw_inT (List.mem_of_getElem? (i := 32) (by decide +kernel)) rfl), (zw_inT (List.mem_of_getElem? (i := 19) (by decide +kernel)) rfl), rfl, zw_dv (by decide +kernel), fun _ => rfl⟩
theorem nw_Law_18 : zw_nw "WordEvidenceLaw" 18 7 [.int 0, .null, .int 0, .null, .null, .int 0, .null, .null, .null, .int 0, .null, .null, .null, .null, .null, .null, .null] := ⟨_, _, _, cf_Mo, c_Law_18, (zw_inT (List.mem_of_getElem? (i := 417) (by decide +kernel)) rfl), (zw_inT (List.mem_of_getElem? (i := 26) (by decide +kernel)) rfl), rfl, zw_dv (by decide +kernel), fun _ => rfl⟩
