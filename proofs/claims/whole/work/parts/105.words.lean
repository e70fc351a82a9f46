theorem xsg1 {w : Cond} (k : Nat) (h : tables_1_1[k]? = some w) (h2 : goodWord w = true) : w ∈ xT := by
  have h9 := List.mem_of_getElem? h
  exact List.mem_filter.mpr ⟨List.mem_append_right _ (List.mem_append_left _ h9), h2⟩
theorem xsg2 {w : Cond} (k : Nat) (h : tables_1_2[k]? = some w) (h2 : goodWord w = true) : w ∈ xT := by
  have h9 := List.mem_of_getElem? h
  exact List.mem_filter.mpr ⟨List.mem_append_right _ (List.mem_append_right _ (List.mem_append_left _ h9)), h2⟩
theorem xsg3 {w : Cond} (k : Nat) (h : tables_1_3[k]? = some w) (h2 : goodWord w = true) : w ∈ xT := by
  have h9 := List.mem_of_getElem? h
  exact List.mem_filter.mpr ⟨List.mem_append_right _ (List.mem_append_right _ (List.mem_append_right _ (List.mem_append_left _ h9))), h2⟩
theorem xsg4 {w : Cond} (k : Nat) (h : tables_1_4[k]? = some w) (h2 : goodWord w = true) : w ∈ xT := by
  have h9 := List.mem_of_getElem? h
  exact List.mem_filter.mpr ⟨List.mem_append_right _ (List.mem_append_right _ (List.mem_append_right _ (List.mem_append_right _ (List.mem_append_left _ h9)))), h2⟩
theorem xsg5 {w : Cond} (k : Nat) (h : tables_1_5[k]? = some w) (h2 : goodWord w = true) : w ∈ xT := by
  have h9 := List.mem_of_getElem? h
  exact List.mem_filter.mpr ⟨List.mem_append_right _ (List.mem_append_right _ (List.mem_append_right _ (List.mem_append_right _ (List.mem_append_right _ (List.mem_append_left _ h9))))), h2⟩
theorem xsg6 {w : Cond} (k : Nat) (h : tables_1_6[k]? = some w) (h2 : goodWord w = true) : w ∈ xT := by
  have h9 := List.mem_of_getElem? h
  exact List.mem_filter.mpr ⟨List.mem_append_right _ (List.mem_append_right _ (List.mem_append_right _ (List.mem_append_right _ (List.mem_append_right _ (List.mem_append_right _ (List.mem_append_left _ h9)))))), h2⟩
theorem xsg7 {w : Cond} (k : Nat) (h : tables_1_7[k]? = some w) (h2 : goodWord w = true) : w ∈ xT := by
  have h9 := List.mem_of_getElem? h
  exact List.mem_filter.mpr ⟨List.mem_append_right _ (List.mem_append_right _ (List.mem_append_right _ (List.mem_append_right _ (List.mem_append_right _ (List.mem_append_right _ (List.mem_append_right _ (h9))))))), h2⟩
theorem xsg0 {w : Cond} (k : Nat) (h : (k2_sels lw_privs)[k]? = some w) (h2 : goodWord w = true) : w ∈ xT := List.mem_filter.mpr ⟨List.mem_append_left _ (List.mem_of_getElem? h), h2⟩
