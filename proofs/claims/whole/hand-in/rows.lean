section
-- ===== PART A: goes FIRST, ahead of the names: the tables' words, and 'selects' of the private methods out of them =====
/-- a private method of a class that the tables say can be made, by its rows of tables_1 -/
def lw_okq (q : MethodName × Nat) : Prop := (q.1.cls ≠ "java/lang/invoke/MethodHandle" ∧ q.1.cls ≠ "java/lang/invoke/VarHandle") ∧ Cond.instantiable q.1.cls q.2 ∈ tables_1 ∧ Cond.privateMethod q.1 ∈ tables_1 ∧ Cond.instanceMethod q.1 ∈ tables_1
theorem lw_p0 : lw_okq (⟨"BranchLayout", "addStatement", "(LBranchLayout$Statement;)I"⟩, 5) := ⟨⟨by decide +kernel, by decide +kernel⟩, List.mem_of_getElem? (i := 12) (by decide +kernel), List.mem_of_getElem? (i := 98) (by decide +kernel), List.mem_of_getElem? (i := 99) (by decide +kernel)⟩
theorem lw_p1 : lw_okq (⟨"BranchLayout", "statementNumbered", "(I)LBranchLayout$Statement;"⟩, 5) := ⟨⟨by decide +kernel, by decide +kernel⟩, List.mem_of_getElem? (i := 12) (by decide +kernel), List.mem_of_getElem? (i := 180) (by decide +kernel), List.mem_of_getElem? (i := 181) (by decide +kernel)⟩
theorem lw_p2 : lw_okq (⟨"BranchLayout", "placeNamed", "(I)LBranchLayout$Place;"⟩, 5) := ⟨⟨by decide +kernel, by decide +kernel⟩, List.mem_of_getElem? (i := 12) (by decide +kernel), List.mem_of_getElem? (i := 184) (by decide +kernel), List.mem_of_getElem? (i := 185) (by decide +kernel)⟩
theorem lw_p3 : lw_okq (⟨"BranchLayout", "labelNumbered", "(I)LBranchLayout$Label;"⟩, 5) := ⟨⟨by decide +kernel, by decide +kernel⟩, List.mem_of_getElem? (i := 12) (by decide +kernel), List.mem_of_getElem? (i := 188) (by decide +kernel), List.mem_of_getElem? (i := 189) (by decide +kernel)⟩
theorem lw_p4 : lw_okq (⟨"BranchLayout", "shortenAllThatGo", "()V"⟩, 5) := ⟨⟨by decide +kernel, by decide +kernel⟩, List.mem_of_getElem? (i := 12) (by decide +kernel), List.mem_of_getElem? (i := 196) (by decide +kernel), List.mem_of_getElem? (i := 197) (by decide +kernel)⟩
theorem lw_p5 : lw_okq (⟨"BranchLayout", "tellPlaces", "()V"⟩, 5) := ⟨⟨by decide +kernel, by decide +kernel⟩, List.mem_of_getElem? (i := 12) (by decide +kernel), List.mem_of_getElem? (i := 200) (by decide +kernel), List.mem_of_getElem? (i := 201) (by decide +kernel)⟩
theorem lw_p6 : lw_okq (⟨"BranchLayout", "tellLabelsBefore", "(II)I"⟩, 5) := ⟨⟨by decide +kernel, by decide +kernel⟩, List.mem_of_getElem? (i := 12) (by decide +kernel), List.mem_of_getElem? (i := 204) (by decide +kernel), List.mem_of_getElem? (i := 205) (by decide +kernel)⟩
theorem lw_p7 : lw_okq (⟨"BranchLayout", "tellStatement", "(LBranchLayout$Statement;)V"⟩, 5) := ⟨⟨by decide +kernel, by decide +kernel⟩, List.mem_of_getElem? (i := 12) (by decide +kernel), List.mem_of_getElem? (i := 208) (by decide +kernel), List.mem_of_getElem? (i := 209) (by decide +kernel)⟩
theorem lw_p8 : lw_okq (⟨"BranchLayout", "lengthenAllTooFar", "()Z"⟩, 5) := ⟨⟨by decide +kernel, by decide +kernel⟩, List.mem_of_getElem? (i := 12) (by decide +kernel), List.mem_of_getElem? (i := 224) (by decide +kernel), List.mem_of_getElem? (i := 225) (by decide +kernel)⟩
theorem lw_p9 : lw_okq (⟨"BranchLayout", "countLong", "()I"⟩, 5) := ⟨⟨by decide +kernel, by decide +kernel⟩, List.mem_of_getElem? (i := 12) (by decide +kernel), List.mem_of_getElem? (i := 234) (by decide +kernel), List.mem_of_getElem? (i := 235) (by decide +kernel)⟩
theorem lw_p10 : lw_okq (⟨"BranchLayoutModel", "add", "(IIIZ)I"⟩, 17) := ⟨⟨by decide +kernel, by decide +kernel⟩, List.mem_of_getElem? (i := 260) (by decide +kernel), List.mem_of_getElem? (i := 328) (by decide +kernel), List.mem_of_getElem? (i := 329) (by decide +kernel)⟩
theorem lw_p11 : lw_okq (⟨"BranchLayoutModel", "walk", "(I)V"⟩, 17) := ⟨⟨by decide +kernel, by decide +kernel⟩, List.mem_of_getElem? (i := 260) (by decide +kernel), List.mem_of_getElem? (i := 352) (by decide +kernel), List.mem_of_getElem? (i := 353) (by decide +kernel)⟩
theorem lw_p12 : lw_okq (⟨"BranchLayoutModel", "distance", "(I)J"⟩, 17) := ⟨⟨by decide +kernel, by decide +kernel⟩, List.mem_of_getElem? (i := 260) (by decide +kernel), List.mem_of_getElem? (i := 356) (by decide +kernel), List.mem_of_getElem? (i := 357) (by decide +kernel)⟩
def lw_privs_1 : List (MethodName × Nat) := [(⟨"BranchLayout", "addStatement", "(LBranchLayout$Statement;)I"⟩, 5), (⟨"BranchLayout", "statementNumbered", "(I)LBranchLayout$Statement;"⟩, 5), (⟨"BranchLayout", "placeNamed", "(I)LBranchLayout$Place;"⟩, 5), (⟨"BranchLayout", "labelNumbered", "(I)LBranchLayout$Label;"⟩, 5), (⟨"BranchLayout", "shortenAllThatGo", "()V"⟩, 5), (⟨"BranchLayout", "tellPlaces", "()V"⟩, 5), (⟨"BranchLayout", "tellLabelsBefore", "(II)I"⟩, 5), (⟨"BranchLayout", "tellStatement", "(LBranchLayout$Statement;)V"⟩, 5), (⟨"BranchLayout", "lengthenAllTooFar", "()Z"⟩, 5), (⟨"BranchLayout", "countLong", "()I"⟩, 5), (⟨"BranchLayoutModel", "add", "(IIIZ)I"⟩, 17), (⟨"BranchLayoutModel", "walk", "(I)V"⟩, 17), (⟨"BranchLayoutModel", "distance", "(I)J"⟩, 17)]
theorem lw_r1 : ∀ q ∈ lw_privs_1, lw_okq q := List.forall_mem_cons.mpr ⟨lw_p0, List.forall_mem_cons.mpr ⟨lw_p1, List.forall_mem_cons.mpr ⟨lw_p2, List.forall_mem_cons.mpr ⟨lw_p3, List.forall_mem_cons.mpr ⟨lw_p4, List.forall_mem_cons.mpr ⟨lw_p5, List.forall_mem_cons.mpr ⟨lw_p6, List.forall_mem_cons.mpr ⟨lw_p7, List.forall_mem_cons.mpr ⟨lw_p8, List.forall_mem_cons.mpr ⟨lw_p9, List.forall_mem_cons.mpr ⟨lw_p10, List.forall_mem_cons.mpr ⟨lw_p11, List.forall_mem_cons.mpr ⟨lw_p12, fun _ h => absurd h List.not_mem_nil⟩⟩⟩⟩⟩⟩⟩⟩⟩⟩⟩⟩⟩
def lw_privs : List (MethodName × Nat) := lw_privs_1
def lw_tbl : List Cond := k2_sels lw_privs ++ tables_1
theorem lw_privs_ok : ∀ q ∈ lw_privs, lw_okq q := lw_r1
-- ===== end of PART A =====
def zt : List Cond := lw_tbl.filter goodWord
theorem zt_good : ∀ w ∈ zt, goodWord w = true := fun w h => (List.mem_filter.mp h).2
theorem zt_in {w : Cond} (h : w ∈ lw_tbl) (hg : goodWord w = true) : w ∈ zt := List.mem_filter.mpr ⟨h, hg⟩
theorem zt_of {w : Cond} (h : w ∈ zt) : w ∈ lw_tbl := (List.mem_filter.mp h).1
theorem zt_all {ws : List Cond} (h : ∀ w ∈ ws, w ∈ zt) : GoodIn zt ws := fun w hw => ⟨h w hw, good_of_word (zt_good w (h w hw))⟩
abbrev c_BL_init : ByteArray := prog_1_method_1_code
abbrev y_BL_init : MethodName := ⟨"BranchLayout", "<init>", "()V"⟩
abbrev c_Ob_init : ByteArray := object_method_1_code
abbrev y_Ob_init : MethodName := ⟨"java/lang/Object", "<init>", "()V"⟩
abbrev c_BL_clear : ByteArray := prog_1_method_2_code
abbrev y_BL_clear : MethodName := ⟨"BranchLayout", "clear", "()V"⟩
abbrev c_Ar_fill : ByteArray := prog_11_method_103_code
abbrev y_Ar_fill : MethodName := ⟨"java/util/Arrays", "fill", "([II)V"⟩
abbrev c_BL_bytes : ByteArray := prog_1_method_3_code
abbrev y_BL_bytes : MethodName := ⟨"BranchLayout", "bytes", "(II)I"⟩
abbrev c_BL_isSection : ByteArray := prog_1_method_12_code
abbrev y_BL_isSection : MethodName := ⟨"BranchLayout", "isSection", "(I)Z"⟩
abbrev c_By_init : ByteArray := prog_4_method_1_code
abbrev y_By_init : MethodName := ⟨"BranchLayout$Bytes", "<init>", "(II)V"⟩
abbrev c_St_init : ByteArray := prog_7_method_1_code
abbrev y_St_init : MethodName := ⟨"BranchLayout$Statement", "<init>", "(I)V"⟩
abbrev c_Pl_init : ByteArray := prog_6_method_1_code
abbrev y_Pl_init : MethodName := ⟨"BranchLayout$Place", "<init>", "(I)V"⟩
abbrev c_BL_addStatement : ByteArray := prog_1_method_14_code
abbrev y_BL_addStatement : MethodName := ⟨"BranchLayout", "addStatement", "(LBranchLayout$Statement;)I"⟩
abbrev c_BL_align : ByteArray := prog_1_method_4_code
abbrev y_BL_align : MethodName := ⟨"BranchLayout", "align", "(II)I"⟩
abbrev c_BL_isAlignment : ByteArray := prog_1_method_13_code
abbrev y_BL_isAlignment : MethodName := ⟨"BranchLayout", "isAlignment", "(I)Z"⟩
abbrev c_In_bitCount : ByteArray := prog_10_method_49_code
abbrev y_In_bitCount : MethodName := ⟨"java/lang/Integer", "bitCount", "(I)I"⟩
abbrev c_Al_init : ByteArray := prog_2_method_1_code
abbrev y_Al_init : MethodName := ⟨"BranchLayout$Alignment", "<init>", "(II)V"⟩
abbrev c_BL_branch : ByteArray := prog_1_method_5_code
abbrev y_BL_branch : MethodName := ⟨"BranchLayout", "branch", "(II)I"⟩
abbrev c_Br_init : ByteArray := prog_3_method_1_code
abbrev y_Br_init : MethodName := ⟨"BranchLayout$Branch", "<init>", "(II)V"⟩
abbrev c_BL_label : ByteArray := prog_1_method_6_code
abbrev y_BL_label : MethodName := ⟨"BranchLayout", "label", "(I)I"⟩
abbrev c_La_init : ByteArray := prog_5_method_1_code
abbrev y_La_init : MethodName := ⟨"BranchLayout$Label", "<init>", "(II)V"⟩
abbrev c_BL_go : ByteArray := prog_1_method_7_code
abbrev y_BL_go : MethodName := ⟨"BranchLayout", "go", "(III)Z"⟩
abbrev c_BL_statementNumbered : ByteArray := prog_1_method_15_code
abbrev y_BL_statementNumbered : MethodName := ⟨"BranchLayout", "statementNumbered", "(I)LBranchLayout$Statement;"⟩
abbrev c_BL_placeNamed : ByteArray := prog_1_method_17_code
abbrev y_BL_placeNamed : MethodName := ⟨"BranchLayout", "placeNamed", "(I)LBranchLayout$Place;"⟩
abbrev c_BL_labelNumbered : ByteArray := prog_1_method_16_code
abbrev y_BL_labelNumbered : MethodName := ⟨"BranchLayout", "labelNumbered", "(I)LBranchLayout$Label;"⟩
abbrev c_BL_relax : ByteArray := prog_1_method_8_code
abbrev y_BL_relax : MethodName := ⟨"BranchLayout", "relax", "()I"⟩
abbrev c_BL_shortenAllThatGo : ByteArray := prog_1_method_18_code
abbrev y_BL_shortenAllThatGo : MethodName := ⟨"BranchLayout", "shortenAllThatGo", "()V"⟩
abbrev c_BL_tellPlaces : ByteArray := prog_1_method_19_code
abbrev y_BL_tellPlaces : MethodName := ⟨"BranchLayout", "tellPlaces", "()V"⟩
abbrev c_BL_tellLabelsBefore : ByteArray := prog_1_method_21_code
abbrev y_BL_tellLabelsBefore : MethodName := ⟨"BranchLayout", "tellLabelsBefore", "(II)I"⟩
abbrev c_BL_tellStatement : ByteArray := prog_1_method_20_code
abbrev y_BL_tellStatement : MethodName := ⟨"BranchLayout", "tellStatement", "(LBranchLayout$Statement;)V"⟩
abbrev c_Al_lengthFrom : ByteArray := prog_2_method_2_code
abbrev y_Al_lengthFrom : MethodName := ⟨"BranchLayout$Alignment", "lengthFrom", "(I)I"⟩
abbrev c_Br_lengthFrom : ByteArray := prog_3_method_2_code
abbrev y_Br_lengthFrom : MethodName := ⟨"BranchLayout$Branch", "lengthFrom", "(I)I"⟩
abbrev c_By_lengthFrom : ByteArray := prog_4_method_2_code
abbrev y_By_lengthFrom : MethodName := ⟨"BranchLayout$Bytes", "lengthFrom", "(I)I"⟩
abbrev c_BL_lengthenAllTooFar : ByteArray := prog_1_method_22_code
abbrev y_BL_lengthenAllTooFar : MethodName := ⟨"BranchLayout", "lengthenAllTooFar", "()Z"⟩
abbrev c_Br_lengthenIfTooFar : ByteArray := prog_3_method_4_code
abbrev y_Br_lengthenIfTooFar : MethodName := ⟨"BranchLayout$Branch", "lengthenIfTooFar", "()Z"⟩
abbrev c_BL_countLong : ByteArray := prog_1_method_23_code
abbrev y_BL_countLong : MethodName := ⟨"BranchLayout", "countLong", "()I"⟩
abbrev c_BL_statement : ByteArray := prog_1_method_9_code
abbrev y_BL_statement : MethodName := ⟨"BranchLayout", "statement", "(II)I"⟩
abbrev c_Br_fact : ByteArray := prog_3_method_3_code
abbrev y_Br_fact : MethodName := ⟨"BranchLayout$Branch", "fact", "(I)I"⟩
abbrev c_St_fact : ByteArray := prog_7_method_3_code
abbrev y_St_fact : MethodName := ⟨"BranchLayout$Statement", "fact", "(I)I"⟩
abbrev c_BL_place : ByteArray := prog_1_method_10_code
abbrev y_BL_place : MethodName := ⟨"BranchLayout", "place", "(I)I"⟩
abbrev c_BL_size : ByteArray := prog_1_method_11_code
abbrev y_BL_size : MethodName := ⟨"BranchLayout", "size", "(I)I"⟩
abbrev c_Mo_init : ByteArray := prog_9_method_1_code
abbrev y_Mo_init : MethodName := ⟨"BranchLayoutModel", "<init>", "()V"⟩
abbrev c_Mo_clear : ByteArray := prog_9_method_3_code
abbrev y_Mo_clear : MethodName := ⟨"BranchLayoutModel", "clear", "()V"⟩
abbrev c_Mo_bytes : ByteArray := prog_9_method_5_code
abbrev y_Mo_bytes : MethodName := ⟨"BranchLayoutModel", "bytes", "(II)I"⟩
abbrev c_Mo_add : ByteArray := prog_9_method_4_code
abbrev y_Mo_add : MethodName := ⟨"BranchLayoutModel", "add", "(IIIZ)I"⟩
abbrev c_Mo_align : ByteArray := prog_9_method_6_code
abbrev y_Mo_align : MethodName := ⟨"BranchLayoutModel", "align", "(II)I"⟩
abbrev c_Mo_branch : ByteArray := prog_9_method_7_code
abbrev y_Mo_branch : MethodName := ⟨"BranchLayoutModel", "branch", "(II)I"⟩
abbrev c_Mo_label : ByteArray := prog_9_method_8_code
abbrev y_Mo_label : MethodName := ⟨"BranchLayoutModel", "label", "(I)I"⟩
abbrev c_Mo_go : ByteArray := prog_9_method_9_code
abbrev y_Mo_go : MethodName := ⟨"BranchLayoutModel", "go", "(III)Z"⟩
abbrev c_Mo_relax : ByteArray := prog_9_method_12_code
abbrev y_Mo_relax : MethodName := ⟨"BranchLayoutModel", "relax", "()I"⟩
abbrev c_Mo_walk : ByteArray := prog_9_method_10_code
abbrev y_Mo_walk : MethodName := ⟨"BranchLayoutModel", "walk", "(I)V"⟩
abbrev c_Mo_distance : ByteArray := prog_9_method_11_code
abbrev y_Mo_distance : MethodName := ⟨"BranchLayoutModel", "distance", "(I)J"⟩
abbrev c_Mo_statement : ByteArray := prog_9_method_13_code
abbrev y_Mo_statement : MethodName := ⟨"BranchLayoutModel", "statement", "(II)I"⟩
abbrev c_Mo_place : ByteArray := prog_9_method_14_code
abbrev y_Mo_place : MethodName := ⟨"BranchLayoutModel", "place", "(I)I"⟩
abbrev c_Mo_size : ByteArray := prog_9_method_15_code
abbrev y_Mo_size : MethodName := ⟨"BranchLayoutModel", "size", "(I)I"⟩
abbrev c_Lw_law : ByteArray := code
abbrev y_Lw_law : MethodName := ⟨"BranchLayoutLaw", "law", "([I)Z"⟩
theorem ws_BL_addStatement : Cond.selects "BranchLayout" ⟨"BranchLayout", "addStatement", "(LBranchLayout$Statement;)I"⟩ ⟨"BranchLayout", "addStatement", "(LBranchLayout$Statement;)I"⟩ ∈ zt := zt_in (List.mem_append_left _ (List.mem_of_getElem? (i := 0) (by decide +kernel))) rfl
theorem ws_BL_statementNumbered : Cond.selects "BranchLayout" ⟨"BranchLayout", "statementNumbered", "(I)LBranchLayout$Statement;"⟩ ⟨"BranchLayout", "statementNumbered", "(I)LBranchLayout$Statement;"⟩ ∈ zt := zt_in (List.mem_append_left _ (List.mem_of_getElem? (i := 1) (by decide +kernel))) rfl
theorem ws_BL_placeNamed : Cond.selects "BranchLayout" ⟨"BranchLayout", "placeNamed", "(I)LBranchLayout$Place;"⟩ ⟨"BranchLayout", "placeNamed", "(I)LBranchLayout$Place;"⟩ ∈ zt := zt_in (List.mem_append_left _ (List.mem_of_getElem? (i := 2) (by decide +kernel))) rfl
theorem ws_BL_labelNumbered : Cond.selects "BranchLayout" ⟨"BranchLayout", "labelNumbered", "(I)LBranchLayout$Label;"⟩ ⟨"BranchLayout", "labelNumbered", "(I)LBranchLayout$Label;"⟩ ∈ zt := zt_in (List.mem_append_left _ (List.mem_of_getElem? (i := 3) (by decide +kernel))) rfl
theorem ws_BL_shortenAllThatGo : Cond.selects "BranchLayout" ⟨"BranchLayout", "shortenAllThatGo", "()V"⟩ ⟨"BranchLayout", "shortenAllThatGo", "()V"⟩ ∈ zt := zt_in (List.mem_append_left _ (List.mem_of_getElem? (i := 4) (by decide +kernel))) rfl
theorem ws_BL_tellPlaces : Cond.selects "BranchLayout" ⟨"BranchLayout", "tellPlaces", "()V"⟩ ⟨"BranchLayout", "tellPlaces", "()V"⟩ ∈ zt := zt_in (List.mem_append_left _ (List.mem_of_getElem? (i := 5) (by decide +kernel))) rfl
theorem ws_BL_tellLabelsBefore : Cond.selects "BranchLayout" ⟨"BranchLayout", "tellLabelsBefore", "(II)I"⟩ ⟨"BranchLayout", "tellLabelsBefore", "(II)I"⟩ ∈ zt := zt_in (List.mem_append_left _ (List.mem_of_getElem? (i := 6) (by decide +kernel))) rfl
theorem ws_BL_tellStatement : Cond.selects "BranchLayout" ⟨"BranchLayout", "tellStatement", "(LBranchLayout$Statement;)V"⟩ ⟨"BranchLayout", "tellStatement", "(LBranchLayout$Statement;)V"⟩ ∈ zt := zt_in (List.mem_append_left _ (List.mem_of_getElem? (i := 7) (by decide +kernel))) rfl
theorem ws_BL_lengthenAllTooFar : Cond.selects "BranchLayout" ⟨"BranchLayout", "lengthenAllTooFar", "()Z"⟩ ⟨"BranchLayout", "lengthenAllTooFar", "()Z"⟩ ∈ zt := zt_in (List.mem_append_left _ (List.mem_of_getElem? (i := 8) (by decide +kernel))) rfl
theorem ws_BL_countLong : Cond.selects "BranchLayout" ⟨"BranchLayout", "countLong", "()I"⟩ ⟨"BranchLayout", "countLong", "()I"⟩ ∈ zt := zt_in (List.mem_append_left _ (List.mem_of_getElem? (i := 9) (by decide +kernel))) rfl
theorem ws_Mo_add : Cond.selects "BranchLayoutModel" ⟨"BranchLayoutModel", "add", "(IIIZ)I"⟩ ⟨"BranchLayoutModel", "add", "(IIIZ)I"⟩ ∈ zt := zt_in (List.mem_append_left _ (List.mem_of_getElem? (i := 10) (by decide +kernel))) rfl
theorem ws_Mo_walk : Cond.selects "BranchLayoutModel" ⟨"BranchLayoutModel", "walk", "(I)V"⟩ ⟨"BranchLayoutModel", "walk", "(I)V"⟩ ∈ zt := zt_in (List.mem_append_left _ (List.mem_of_getElem? (i := 11) (by decide +kernel))) rfl
theorem ws_Mo_distance : Cond.selects "BranchLayoutModel" ⟨"BranchLayoutModel", "distance", "(I)J"⟩ ⟨"BranchLayoutModel", "distance", "(I)J"⟩ ∈ zt := zt_in (List.mem_append_left _ (List.mem_of_getElem? (i := 12) (by decide +kernel))) rfl
theorem w_0 : Cond.initialized "BranchLayoutLaw" ∈ zt := zt_in (List.mem_append_right _ (List.mem_of_getElem? (i := 0) (by decide +kernel))) rfl
theorem w_1 : Cond.initialized "BranchLayout" ∈ zt := zt_in (List.mem_append_right _ (List.mem_of_getElem? (i := 1) (by decide +kernel))) rfl
theorem w_2 : Cond.initialized "BranchLayoutModel" ∈ zt := zt_in (List.mem_append_right _ (List.mem_of_getElem? (i := 2) (by decide +kernel))) rfl
theorem w_3 : Cond.initialized "java/util/Arrays" ∈ zt := zt_in (List.mem_append_right _ (List.mem_of_getElem? (i := 3) (by decide +kernel))) rfl
theorem w_4 : Cond.initialized "BranchLayout$Place" ∈ zt := zt_in (List.mem_append_right _ (List.mem_of_getElem? (i := 4) (by decide +kernel))) rfl
theorem w_5 : Cond.initialized "BranchLayout$Statement" ∈ zt := zt_in (List.mem_append_right _ (List.mem_of_getElem? (i := 5) (by decide +kernel))) rfl
theorem w_6 : Cond.initialized "BranchLayout$Bytes" ∈ zt := zt_in (List.mem_append_right _ (List.mem_of_getElem? (i := 6) (by decide +kernel))) rfl
theorem w_7 : Cond.initialized "java/lang/Integer" ∈ zt := zt_in (List.mem_append_right _ (List.mem_of_getElem? (i := 7) (by decide +kernel))) rfl
theorem w_8 : Cond.initialized "BranchLayout$Alignment" ∈ zt := zt_in (List.mem_append_right _ (List.mem_of_getElem? (i := 8) (by decide +kernel))) rfl
theorem w_9 : Cond.initialized "BranchLayout$Branch" ∈ zt := zt_in (List.mem_append_right _ (List.mem_of_getElem? (i := 9) (by decide +kernel))) rfl
theorem w_10 : Cond.initialized "BranchLayout$Label" ∈ zt := zt_in (List.mem_append_right _ (List.mem_of_getElem? (i := 10) (by decide +kernel))) rfl
theorem w_11 : Cond.classLink "BranchLayoutLaw" 7 "BranchLayout" ∈ zt := zt_in (List.mem_append_right _ (List.mem_of_getElem? (i := 11) (by decide +kernel))) rfl
theorem w_12 : Cond.instantiable "BranchLayout" 5 ∈ zt := zt_in (List.mem_append_right _ (List.mem_of_getElem? (i := 12) (by decide +kernel))) rfl
theorem w_13 : Cond.methodLink "BranchLayoutLaw" 9 ⟨"BranchLayout", "<init>", "()V"⟩ ∈ zt := zt_in (List.mem_append_right _ (List.mem_of_getElem? (i := 13) (by decide +kernel))) rfl
theorem w_14 : Cond.instanceMethod ⟨"BranchLayout", "<init>", "()V"⟩ ∈ zt := zt_in (List.mem_append_right _ (List.mem_of_getElem? (i := 14) (by decide +kernel))) rfl
theorem w_15 : Cond.code ⟨"BranchLayout", "<init>", "()V"⟩ prog_1_method_1_code 1 none ∈ zt := zt_in (List.mem_append_right _ (List.mem_of_getElem? (i := 15) (by decide +kernel))) rfl
theorem w_16 : Cond.methodLink "BranchLayout" 1 ⟨"java/lang/Object", "<init>", "()V"⟩ ∈ zt := zt_in (List.mem_append_right _ (List.mem_of_getElem? (i := 16) (by decide +kernel))) rfl
theorem w_17 : Cond.instanceMethod ⟨"java/lang/Object", "<init>", "()V"⟩ ∈ zt := zt_in (List.mem_append_right _ (List.mem_of_getElem? (i := 17) (by decide +kernel))) rfl
theorem w_18 : Cond.code ⟨"java/lang/Object", "<init>", "()V"⟩ object_method_1_code 1 none ∈ zt := zt_in (List.mem_append_right _ (List.mem_of_getElem? (i := 18) (by decide +kernel))) rfl
theorem w_19 : Cond.classLink "BranchLayout" 9 "BranchLayout$Statement" ∈ zt := zt_in (List.mem_append_right _ (List.mem_of_getElem? (i := 19) (by decide +kernel))) rfl
theorem w_20 : Cond.arrayOver (FieldType.object "BranchLayout$Statement") ∈ lw_tbl := List.mem_append_right _ (List.mem_of_getElem? (i := 20) (by decide +kernel))
theorem w_21 : Cond.classLink "BranchLayout" 15 "BranchLayout$Label" ∈ zt := zt_in (List.mem_append_right _ (List.mem_of_getElem? (i := 21) (by decide +kernel))) rfl
theorem w_22 : Cond.arrayOver (FieldType.object "BranchLayout$Label") ∈ lw_tbl := List.mem_append_right _ (List.mem_of_getElem? (i := 22) (by decide +kernel))
theorem w_23 : Cond.fieldLink "BranchLayout" 11 "BranchLayout" "statements" "[LBranchLayout$Statement;" ∈ zt := zt_in (List.mem_append_right _ (List.mem_of_getElem? (i := 23) (by decide +kernel))) rfl
theorem w_24 : Cond.fieldLink "BranchLayout" 17 "BranchLayout" "labels" "[LBranchLayout$Label;" ∈ zt := zt_in (List.mem_append_right _ (List.mem_of_getElem? (i := 24) (by decide +kernel))) rfl
theorem w_25 : Cond.fieldLink "BranchLayout" 21 "BranchLayout" "sizes" "[I" ∈ zt := zt_in (List.mem_append_right _ (List.mem_of_getElem? (i := 25) (by decide +kernel))) rfl
theorem w_26 : Cond.fieldLink "BranchLayout" 25 "BranchLayout" "statementCount" "I" ∈ zt := zt_in (List.mem_append_right _ (List.mem_of_getElem? (i := 26) (by decide +kernel))) rfl
theorem w_27 : Cond.fieldLink "BranchLayout" 29 "BranchLayout" "labelCount" "I" ∈ zt := zt_in (List.mem_append_right _ (List.mem_of_getElem? (i := 27) (by decide +kernel))) rfl
theorem w_28 : Cond.laysFinal "BranchLayout" "BranchLayout" "statements" "[LBranchLayout$Statement;" ∈ zt := zt_in (List.mem_append_right _ (List.mem_of_getElem? (i := 28) (by decide +kernel))) rfl
theorem w_29 : Cond.soleField "BranchLayout" "statements" ∈ zt := zt_in (List.mem_append_right _ (List.mem_of_getElem? (i := 29) (by decide +kernel))) rfl
theorem w_30 : Cond.laysFinal "BranchLayout" "BranchLayout" "labels" "[LBranchLayout$Label;" ∈ zt := zt_in (List.mem_append_right _ (List.mem_of_getElem? (i := 30) (by decide +kernel))) rfl
theorem w_31 : Cond.soleField "BranchLayout" "labels" ∈ zt := zt_in (List.mem_append_right _ (List.mem_of_getElem? (i := 31) (by decide +kernel))) rfl
theorem w_32 : Cond.laysFinal "BranchLayout" "BranchLayout" "sizes" "[I" ∈ zt := zt_in (List.mem_append_right _ (List.mem_of_getElem? (i := 32) (by decide +kernel))) rfl
theorem w_33 : Cond.soleField "BranchLayout" "sizes" ∈ zt := zt_in (List.mem_append_right _ (List.mem_of_getElem? (i := 33) (by decide +kernel))) rfl
theorem w_34 : Cond.lays "BranchLayout" "BranchLayout" "statementCount" "I" ∈ zt := zt_in (List.mem_append_right _ (List.mem_of_getElem? (i := 34) (by decide +kernel))) rfl
theorem w_35 : Cond.soleField "BranchLayout" "statementCount" ∈ zt := zt_in (List.mem_append_right _ (List.mem_of_getElem? (i := 35) (by decide +kernel))) rfl
theorem w_36 : Cond.lays "BranchLayout" "BranchLayout" "labelCount" "I" ∈ zt := zt_in (List.mem_append_right _ (List.mem_of_getElem? (i := 36) (by decide +kernel))) rfl
theorem w_37 : Cond.soleField "BranchLayout" "labelCount" ∈ zt := zt_in (List.mem_append_right _ (List.mem_of_getElem? (i := 37) (by decide +kernel))) rfl
theorem w_38 : Cond.superclass "BranchLayout" "java/lang/Object" ∈ zt := zt_in (List.mem_append_right _ (List.mem_of_getElem? (i := 38) (by decide +kernel))) rfl
theorem w_39 : Cond.arrayClass FieldType.int ∈ zt := zt_in (List.mem_append_right _ (List.mem_of_getElem? (i := 39) (by decide +kernel))) rfl
theorem w_40 : Cond.methodLink "BranchLayoutLaw" 13 ⟨"BranchLayout", "clear", "()V"⟩ ∈ zt := zt_in (List.mem_append_right _ (List.mem_of_getElem? (i := 40) (by decide +kernel))) rfl
theorem w_41 : Cond.instanceMethod ⟨"BranchLayout", "clear", "()V"⟩ ∈ zt := zt_in (List.mem_append_right _ (List.mem_of_getElem? (i := 41) (by decide +kernel))) rfl
theorem w_42 : Cond.selects "BranchLayout" ⟨"BranchLayout", "clear", "()V"⟩ ⟨"BranchLayout", "clear", "()V"⟩ ∈ zt := zt_in (List.mem_append_right _ (List.mem_of_getElem? (i := 42) (by decide +kernel))) rfl
theorem w_43 : Cond.code ⟨"BranchLayout", "clear", "()V"⟩ prog_1_method_2_code 1 none ∈ zt := zt_in (List.mem_append_right _ (List.mem_of_getElem? (i := 43) (by decide +kernel))) rfl
theorem w_44 : Cond.methodLink "BranchLayout" 32 ⟨"java/util/Arrays", "fill", "([II)V"⟩ ∈ zt := zt_in (List.mem_append_right _ (List.mem_of_getElem? (i := 44) (by decide +kernel))) rfl
theorem w_45 : Cond.static ⟨"java/util/Arrays", "fill", "([II)V"⟩ ∈ zt := zt_in (List.mem_append_right _ (List.mem_of_getElem? (i := 45) (by decide +kernel))) rfl
theorem w_46 : Cond.code ⟨"java/util/Arrays", "fill", "([II)V"⟩ prog_11_method_103_code 4 none ∈ zt := zt_in (List.mem_append_right _ (List.mem_of_getElem? (i := 46) (by decide +kernel))) rfl
theorem w_47 : Cond.methodLink "BranchLayoutLaw" 17 ⟨"BranchLayout", "bytes", "(II)I"⟩ ∈ zt := zt_in (List.mem_append_right _ (List.mem_of_getElem? (i := 47) (by decide +kernel))) rfl
theorem w_48 : Cond.instanceMethod ⟨"BranchLayout", "bytes", "(II)I"⟩ ∈ zt := zt_in (List.mem_append_right _ (List.mem_of_getElem? (i := 48) (by decide +kernel))) rfl
theorem w_49 : Cond.selects "BranchLayout" ⟨"BranchLayout", "bytes", "(II)I"⟩ ⟨"BranchLayout", "bytes", "(II)I"⟩ ∈ zt := zt_in (List.mem_append_right _ (List.mem_of_getElem? (i := 49) (by decide +kernel))) rfl
theorem w_50 : Cond.code ⟨"BranchLayout", "bytes", "(II)I"⟩ prog_1_method_3_code 3 (some FieldType.int) ∈ zt := zt_in (List.mem_append_right _ (List.mem_of_getElem? (i := 50) (by decide +kernel))) rfl
theorem w_51 : Cond.methodLink "BranchLayout" 38 ⟨"BranchLayout", "isSection", "(I)Z"⟩ ∈ zt := zt_in (List.mem_append_right _ (List.mem_of_getElem? (i := 51) (by decide +kernel))) rfl
theorem w_52 : Cond.static ⟨"BranchLayout", "isSection", "(I)Z"⟩ ∈ zt := zt_in (List.mem_append_right _ (List.mem_of_getElem? (i := 52) (by decide +kernel))) rfl
theorem w_53 : Cond.code ⟨"BranchLayout", "isSection", "(I)Z"⟩ prog_1_method_12_code 1 (some FieldType.boolean) ∈ zt := zt_in (List.mem_append_right _ (List.mem_of_getElem? (i := 53) (by decide +kernel))) rfl
theorem w_54 : Cond.constant "BranchLayout" 42 65536 ∈ zt := zt_in (List.mem_append_right _ (List.mem_of_getElem? (i := 54) (by decide +kernel))) rfl
theorem w_55 : Cond.classLink "BranchLayout" 43 "BranchLayout$Bytes" ∈ zt := zt_in (List.mem_append_right _ (List.mem_of_getElem? (i := 55) (by decide +kernel))) rfl
theorem w_56 : Cond.instantiable "BranchLayout$Bytes" 4 ∈ zt := zt_in (List.mem_append_right _ (List.mem_of_getElem? (i := 56) (by decide +kernel))) rfl
theorem w_57 : Cond.methodLink "BranchLayout" 45 ⟨"BranchLayout$Bytes", "<init>", "(II)V"⟩ ∈ zt := zt_in (List.mem_append_right _ (List.mem_of_getElem? (i := 57) (by decide +kernel))) rfl
theorem w_58 : Cond.instanceMethod ⟨"BranchLayout$Bytes", "<init>", "(II)V"⟩ ∈ zt := zt_in (List.mem_append_right _ (List.mem_of_getElem? (i := 58) (by decide +kernel))) rfl
theorem w_59 : Cond.code ⟨"BranchLayout$Bytes", "<init>", "(II)V"⟩ prog_4_method_1_code 3 none ∈ zt := zt_in (List.mem_append_right _ (List.mem_of_getElem? (i := 59) (by decide +kernel))) rfl
theorem w_60 : Cond.methodLink "BranchLayout$Bytes" 1 ⟨"BranchLayout$Statement", "<init>", "(I)V"⟩ ∈ zt := zt_in (List.mem_append_right _ (List.mem_of_getElem? (i := 60) (by decide +kernel))) rfl
theorem w_61 : Cond.instanceMethod ⟨"BranchLayout$Statement", "<init>", "(I)V"⟩ ∈ zt := zt_in (List.mem_append_right _ (List.mem_of_getElem? (i := 61) (by decide +kernel))) rfl
theorem w_62 : Cond.code ⟨"BranchLayout$Statement", "<init>", "(I)V"⟩ prog_7_method_1_code 2 none ∈ zt := zt_in (List.mem_append_right _ (List.mem_of_getElem? (i := 62) (by decide +kernel))) rfl
theorem w_63 : Cond.methodLink "BranchLayout$Statement" 3 ⟨"BranchLayout$Place", "<init>", "(I)V"⟩ ∈ zt := zt_in (List.mem_append_right _ (List.mem_of_getElem? (i := 63) (by decide +kernel))) rfl
theorem w_64 : Cond.instanceMethod ⟨"BranchLayout$Place", "<init>", "(I)V"⟩ ∈ zt := zt_in (List.mem_append_right _ (List.mem_of_getElem? (i := 64) (by decide +kernel))) rfl
theorem w_65 : Cond.code ⟨"BranchLayout$Place", "<init>", "(I)V"⟩ prog_6_method_1_code 2 none ∈ zt := zt_in (List.mem_append_right _ (List.mem_of_getElem? (i := 65) (by decide +kernel))) rfl
theorem w_66 : Cond.methodLink "BranchLayout$Place" 1 ⟨"java/lang/Object", "<init>", "()V"⟩ ∈ zt := zt_in (List.mem_append_right _ (List.mem_of_getElem? (i := 66) (by decide +kernel))) rfl
theorem w_67 : Cond.fieldLink "BranchLayout$Bytes" 7 "BranchLayout$Bytes" "n" "I" ∈ zt := zt_in (List.mem_append_right _ (List.mem_of_getElem? (i := 67) (by decide +kernel))) rfl
theorem w_68 : Cond.fieldLink "BranchLayout$Statement" 15 "BranchLayout$Statement" "length" "I" ∈ zt := zt_in (List.mem_append_right _ (List.mem_of_getElem? (i := 68) (by decide +kernel))) rfl
theorem w_69 : Cond.fieldLink "BranchLayout$Branch" 39 "BranchLayout$Branch" "length" "I" ∈ zt := zt_in (List.mem_append_right _ (List.mem_of_getElem? (i := 69) (by decide +kernel))) rfl
theorem w_70 : Cond.sameField "BranchLayout$Branch" "BranchLayout$Statement" "length" "I" ∈ zt := zt_in (List.mem_append_right _ (List.mem_of_getElem? (i := 70) (by decide +kernel))) rfl
theorem w_71 : Cond.fieldLink "BranchLayout" 130 "BranchLayout$Statement" "length" "I" ∈ zt := zt_in (List.mem_append_right _ (List.mem_of_getElem? (i := 71) (by decide +kernel))) rfl
theorem w_72 : Cond.fieldLink "BranchLayout$Place" 7 "BranchLayout$Place" "section" "I" ∈ zt := zt_in (List.mem_append_right _ (List.mem_of_getElem? (i := 72) (by decide +kernel))) rfl
theorem w_73 : Cond.fieldLink "BranchLayout" 70 "BranchLayout$Place" "section" "I" ∈ zt := zt_in (List.mem_append_right _ (List.mem_of_getElem? (i := 73) (by decide +kernel))) rfl
theorem w_74 : Cond.fieldLink "BranchLayout" 75 "BranchLayout$Branch" "section" "I" ∈ zt := zt_in (List.mem_append_right _ (List.mem_of_getElem? (i := 74) (by decide +kernel))) rfl
theorem w_75 : Cond.sameField "BranchLayout$Branch" "BranchLayout$Place" "section" "I" ∈ zt := zt_in (List.mem_append_right _ (List.mem_of_getElem? (i := 75) (by decide +kernel))) rfl
theorem w_76 : Cond.fieldLink "BranchLayout" 125 "BranchLayout$Statement" "section" "I" ∈ zt := zt_in (List.mem_append_right _ (List.mem_of_getElem? (i := 76) (by decide +kernel))) rfl
theorem w_77 : Cond.sameField "BranchLayout$Statement" "BranchLayout$Place" "section" "I" ∈ zt := zt_in (List.mem_append_right _ (List.mem_of_getElem? (i := 77) (by decide +kernel))) rfl
theorem w_78 : Cond.fieldLink "BranchLayout" 136 "BranchLayout$Label" "section" "I" ∈ zt := zt_in (List.mem_append_right _ (List.mem_of_getElem? (i := 78) (by decide +kernel))) rfl
theorem w_79 : Cond.sameField "BranchLayout$Label" "BranchLayout$Place" "section" "I" ∈ zt := zt_in (List.mem_append_right _ (List.mem_of_getElem? (i := 79) (by decide +kernel))) rfl
theorem w_80 : Cond.fieldLink "BranchLayout$Statement" 9 "BranchLayout$Statement" "at" "I" ∈ zt := zt_in (List.mem_append_right _ (List.mem_of_getElem? (i := 80) (by decide +kernel))) rfl
theorem w_81 : Cond.sameField "BranchLayout$Statement" "BranchLayout$Place" "at" "I" ∈ zt := zt_in (List.mem_append_right _ (List.mem_of_getElem? (i := 81) (by decide +kernel))) rfl
theorem w_82 : Cond.fieldLink "BranchLayout$Branch" 30 "BranchLayout$Place" "at" "I" ∈ zt := zt_in (List.mem_append_right _ (List.mem_of_getElem? (i := 82) (by decide +kernel))) rfl
theorem w_83 : Cond.fieldLink "BranchLayout$Branch" 38 "BranchLayout$Branch" "at" "I" ∈ zt := zt_in (List.mem_append_right _ (List.mem_of_getElem? (i := 83) (by decide +kernel))) rfl
theorem w_84 : Cond.sameField "BranchLayout$Branch" "BranchLayout$Place" "at" "I" ∈ zt := zt_in (List.mem_append_right _ (List.mem_of_getElem? (i := 84) (by decide +kernel))) rfl
theorem w_85 : Cond.fieldLink "BranchLayout" 105 "BranchLayout$Label" "at" "I" ∈ zt := zt_in (List.mem_append_right _ (List.mem_of_getElem? (i := 85) (by decide +kernel))) rfl
theorem w_86 : Cond.sameField "BranchLayout$Label" "BranchLayout$Place" "at" "I" ∈ zt := zt_in (List.mem_append_right _ (List.mem_of_getElem? (i := 86) (by decide +kernel))) rfl
theorem w_87 : Cond.fieldLink "BranchLayout" 126 "BranchLayout$Statement" "at" "I" ∈ zt := zt_in (List.mem_append_right _ (List.mem_of_getElem? (i := 87) (by decide +kernel))) rfl
theorem w_88 : Cond.laysFinal "BranchLayout$Bytes" "BranchLayout$Bytes" "n" "I" ∈ zt := zt_in (List.mem_append_right _ (List.mem_of_getElem? (i := 88) (by decide +kernel))) rfl
theorem w_89 : Cond.soleField "BranchLayout$Bytes" "n" ∈ zt := zt_in (List.mem_append_right _ (List.mem_of_getElem? (i := 89) (by decide +kernel))) rfl
theorem w_90 : Cond.lays "BranchLayout$Bytes" "BranchLayout$Statement" "length" "I" ∈ zt := zt_in (List.mem_append_right _ (List.mem_of_getElem? (i := 90) (by decide +kernel))) rfl
theorem w_91 : Cond.soleField "BranchLayout$Statement" "length" ∈ zt := zt_in (List.mem_append_right _ (List.mem_of_getElem? (i := 91) (by decide +kernel))) rfl
theorem w_92 : Cond.laysFinal "BranchLayout$Bytes" "BranchLayout$Place" "section" "I" ∈ zt := zt_in (List.mem_append_right _ (List.mem_of_getElem? (i := 92) (by decide +kernel))) rfl
theorem w_93 : Cond.soleField "BranchLayout$Place" "section" ∈ zt := zt_in (List.mem_append_right _ (List.mem_of_getElem? (i := 93) (by decide +kernel))) rfl
theorem w_94 : Cond.lays "BranchLayout$Bytes" "BranchLayout$Place" "at" "I" ∈ zt := zt_in (List.mem_append_right _ (List.mem_of_getElem? (i := 94) (by decide +kernel))) rfl
theorem w_95 : Cond.soleField "BranchLayout$Place" "at" ∈ zt := zt_in (List.mem_append_right _ (List.mem_of_getElem? (i := 95) (by decide +kernel))) rfl
theorem w_96 : Cond.superclass "BranchLayout$Bytes" "BranchLayout$Statement" ∈ zt := zt_in (List.mem_append_right _ (List.mem_of_getElem? (i := 96) (by decide +kernel))) rfl
theorem w_97 : Cond.methodLink "BranchLayout" 48 ⟨"BranchLayout", "addStatement", "(LBranchLayout$Statement;)I"⟩ ∈ zt := zt_in (List.mem_append_right _ (List.mem_of_getElem? (i := 97) (by decide +kernel))) rfl
theorem w_98 : Cond.privateMethod ⟨"BranchLayout", "addStatement", "(LBranchLayout$Statement;)I"⟩ ∈ lw_tbl := List.mem_append_right _ (List.mem_of_getElem? (i := 98) (by decide +kernel))
theorem w_99 : Cond.instanceMethod ⟨"BranchLayout", "addStatement", "(LBranchLayout$Statement;)I"⟩ ∈ zt := zt_in (List.mem_append_right _ (List.mem_of_getElem? (i := 99) (by decide +kernel))) rfl
theorem w_100 : Cond.code ⟨"BranchLayout", "addStatement", "(LBranchLayout$Statement;)I"⟩ prog_1_method_14_code 2 (some FieldType.int) ∈ zt := zt_in (List.mem_append_right _ (List.mem_of_getElem? (i := 100) (by decide +kernel))) rfl
theorem w_101 : Cond.methodLink "BranchLayoutLaw" 22 ⟨"BranchLayout", "align", "(II)I"⟩ ∈ zt := zt_in (List.mem_append_right _ (List.mem_of_getElem? (i := 101) (by decide +kernel))) rfl
theorem w_102 : Cond.instanceMethod ⟨"BranchLayout", "align", "(II)I"⟩ ∈ zt := zt_in (List.mem_append_right _ (List.mem_of_getElem? (i := 102) (by decide +kernel))) rfl
theorem w_103 : Cond.selects "BranchLayout" ⟨"BranchLayout", "align", "(II)I"⟩ ⟨"BranchLayout", "align", "(II)I"⟩ ∈ zt := zt_in (List.mem_append_right _ (List.mem_of_getElem? (i := 103) (by decide +kernel))) rfl
theorem w_104 : Cond.code ⟨"BranchLayout", "align", "(II)I"⟩ prog_1_method_4_code 3 (some FieldType.int) ∈ zt := zt_in (List.mem_append_right _ (List.mem_of_getElem? (i := 104) (by decide +kernel))) rfl
theorem w_105 : Cond.methodLink "BranchLayout" 52 ⟨"BranchLayout", "isAlignment", "(I)Z"⟩ ∈ zt := zt_in (List.mem_append_right _ (List.mem_of_getElem? (i := 105) (by decide +kernel))) rfl
theorem w_106 : Cond.static ⟨"BranchLayout", "isAlignment", "(I)Z"⟩ ∈ zt := zt_in (List.mem_append_right _ (List.mem_of_getElem? (i := 106) (by decide +kernel))) rfl
theorem w_107 : Cond.code ⟨"BranchLayout", "isAlignment", "(I)Z"⟩ prog_1_method_13_code 1 (some FieldType.boolean) ∈ zt := zt_in (List.mem_append_right _ (List.mem_of_getElem? (i := 107) (by decide +kernel))) rfl
theorem w_108 : Cond.methodLink "BranchLayout" 108 ⟨"java/lang/Integer", "bitCount", "(I)I"⟩ ∈ zt := zt_in (List.mem_append_right _ (List.mem_of_getElem? (i := 108) (by decide +kernel))) rfl
theorem w_109 : Cond.static ⟨"java/lang/Integer", "bitCount", "(I)I"⟩ ∈ zt := zt_in (List.mem_append_right _ (List.mem_of_getElem? (i := 109) (by decide +kernel))) rfl
theorem w_110 : Cond.code ⟨"java/lang/Integer", "bitCount", "(I)I"⟩ prog_10_method_49_code 1 (some FieldType.int) ∈ zt := zt_in (List.mem_append_right _ (List.mem_of_getElem? (i := 110) (by decide +kernel))) rfl
theorem w_111 : Cond.constant "java/lang/Integer" 265 1431655765 ∈ zt := zt_in (List.mem_append_right _ (List.mem_of_getElem? (i := 111) (by decide +kernel))) rfl
theorem w_112 : Cond.constant "java/lang/Integer" 266 858993459 ∈ zt := zt_in (List.mem_append_right _ (List.mem_of_getElem? (i := 112) (by decide +kernel))) rfl
theorem w_113 : Cond.constant "java/lang/Integer" 267 252645135 ∈ zt := zt_in (List.mem_append_right _ (List.mem_of_getElem? (i := 113) (by decide +kernel))) rfl
theorem w_114 : Cond.classLink "BranchLayout" 55 "BranchLayout$Alignment" ∈ zt := zt_in (List.mem_append_right _ (List.mem_of_getElem? (i := 114) (by decide +kernel))) rfl
theorem w_115 : Cond.instantiable "BranchLayout$Alignment" 4 ∈ zt := zt_in (List.mem_append_right _ (List.mem_of_getElem? (i := 115) (by decide +kernel))) rfl
theorem w_116 : Cond.methodLink "BranchLayout" 57 ⟨"BranchLayout$Alignment", "<init>", "(II)V"⟩ ∈ zt := zt_in (List.mem_append_right _ (List.mem_of_getElem? (i := 116) (by decide +kernel))) rfl
theorem w_117 : Cond.instanceMethod ⟨"BranchLayout$Alignment", "<init>", "(II)V"⟩ ∈ zt := zt_in (List.mem_append_right _ (List.mem_of_getElem? (i := 117) (by decide +kernel))) rfl
theorem w_118 : Cond.code ⟨"BranchLayout$Alignment", "<init>", "(II)V"⟩ prog_2_method_1_code 3 none ∈ zt := zt_in (List.mem_append_right _ (List.mem_of_getElem? (i := 118) (by decide +kernel))) rfl
theorem w_119 : Cond.methodLink "BranchLayout$Alignment" 1 ⟨"BranchLayout$Statement", "<init>", "(I)V"⟩ ∈ zt := zt_in (List.mem_append_right _ (List.mem_of_getElem? (i := 119) (by decide +kernel))) rfl
theorem w_120 : Cond.fieldLink "BranchLayout$Alignment" 7 "BranchLayout$Alignment" "n" "I" ∈ zt := zt_in (List.mem_append_right _ (List.mem_of_getElem? (i := 120) (by decide +kernel))) rfl
theorem w_121 : Cond.laysFinal "BranchLayout$Alignment" "BranchLayout$Alignment" "n" "I" ∈ zt := zt_in (List.mem_append_right _ (List.mem_of_getElem? (i := 121) (by decide +kernel))) rfl
theorem w_122 : Cond.soleField "BranchLayout$Alignment" "n" ∈ zt := zt_in (List.mem_append_right _ (List.mem_of_getElem? (i := 122) (by decide +kernel))) rfl
theorem w_123 : Cond.lays "BranchLayout$Alignment" "BranchLayout$Statement" "length" "I" ∈ zt := zt_in (List.mem_append_right _ (List.mem_of_getElem? (i := 123) (by decide +kernel))) rfl
theorem w_124 : Cond.laysFinal "BranchLayout$Alignment" "BranchLayout$Place" "section" "I" ∈ zt := zt_in (List.mem_append_right _ (List.mem_of_getElem? (i := 124) (by decide +kernel))) rfl
theorem w_125 : Cond.lays "BranchLayout$Alignment" "BranchLayout$Place" "at" "I" ∈ zt := zt_in (List.mem_append_right _ (List.mem_of_getElem? (i := 125) (by decide +kernel))) rfl
theorem w_126 : Cond.superclass "BranchLayout$Alignment" "BranchLayout$Statement" ∈ zt := zt_in (List.mem_append_right _ (List.mem_of_getElem? (i := 126) (by decide +kernel))) rfl
theorem w_127 : Cond.methodLink "BranchLayoutLaw" 26 ⟨"BranchLayout", "branch", "(II)I"⟩ ∈ zt := zt_in (List.mem_append_right _ (List.mem_of_getElem? (i := 127) (by decide +kernel))) rfl
theorem w_128 : Cond.instanceMethod ⟨"BranchLayout", "branch", "(II)I"⟩ ∈ zt := zt_in (List.mem_append_right _ (List.mem_of_getElem? (i := 128) (by decide +kernel))) rfl
theorem w_129 : Cond.selects "BranchLayout" ⟨"BranchLayout", "branch", "(II)I"⟩ ⟨"BranchLayout", "branch", "(II)I"⟩ ∈ zt := zt_in (List.mem_append_right _ (List.mem_of_getElem? (i := 129) (by decide +kernel))) rfl
theorem w_130 : Cond.code ⟨"BranchLayout", "branch", "(II)I"⟩ prog_1_method_5_code 3 (some FieldType.int) ∈ zt := zt_in (List.mem_append_right _ (List.mem_of_getElem? (i := 130) (by decide +kernel))) rfl
theorem w_131 : Cond.classLink "BranchLayout" 58 "BranchLayout$Branch" ∈ zt := zt_in (List.mem_append_right _ (List.mem_of_getElem? (i := 131) (by decide +kernel))) rfl
theorem w_132 : Cond.instantiable "BranchLayout$Branch" 8 ∈ zt := zt_in (List.mem_append_right _ (List.mem_of_getElem? (i := 132) (by decide +kernel))) rfl
theorem w_133 : Cond.methodLink "BranchLayout" 60 ⟨"BranchLayout$Branch", "<init>", "(II)V"⟩ ∈ zt := zt_in (List.mem_append_right _ (List.mem_of_getElem? (i := 133) (by decide +kernel))) rfl
theorem w_134 : Cond.instanceMethod ⟨"BranchLayout$Branch", "<init>", "(II)V"⟩ ∈ zt := zt_in (List.mem_append_right _ (List.mem_of_getElem? (i := 134) (by decide +kernel))) rfl
theorem w_135 : Cond.code ⟨"BranchLayout$Branch", "<init>", "(II)V"⟩ prog_3_method_1_code 3 none ∈ zt := zt_in (List.mem_append_right _ (List.mem_of_getElem? (i := 135) (by decide +kernel))) rfl
theorem w_136 : Cond.methodLink "BranchLayout$Branch" 3 ⟨"BranchLayout$Statement", "<init>", "(I)V"⟩ ∈ zt := zt_in (List.mem_append_right _ (List.mem_of_getElem? (i := 136) (by decide +kernel))) rfl
theorem w_137 : Cond.fieldLink "BranchLayout$Branch" 9 "BranchLayout$Branch" "longLength" "I" ∈ zt := zt_in (List.mem_append_right _ (List.mem_of_getElem? (i := 137) (by decide +kernel))) rfl
theorem w_138 : Cond.fieldLink "BranchLayout$Branch" 26 "BranchLayout$Branch" "goal" "LBranchLayout$Place;" ∈ zt := zt_in (List.mem_append_right _ (List.mem_of_getElem? (i := 138) (by decide +kernel))) rfl
theorem w_139 : Cond.fieldLinkNest "BranchLayout" 76 "BranchLayout$Branch" "goal" "LBranchLayout$Place;" "BranchLayout" ∈ lw_tbl := List.mem_append_right _ (List.mem_of_getElem? (i := 139) (by decide +kernel))
theorem w_140 : Cond.fieldLink "BranchLayout$Branch" 35 "BranchLayout$Branch" "more" "I" ∈ zt := zt_in (List.mem_append_right _ (List.mem_of_getElem? (i := 140) (by decide +kernel))) rfl
theorem w_141 : Cond.fieldLinkNest "BranchLayout" 80 "BranchLayout$Branch" "more" "I" "BranchLayout" ∈ lw_tbl := List.mem_append_right _ (List.mem_of_getElem? (i := 141) (by decide +kernel))
theorem w_142 : Cond.fieldLink "BranchLayout$Branch" 15 "BranchLayout$Branch" "isShort" "Z" ∈ zt := zt_in (List.mem_append_right _ (List.mem_of_getElem? (i := 142) (by decide +kernel))) rfl
theorem w_143 : Cond.fieldLinkNest "BranchLayout" 113 "BranchLayout$Branch" "isShort" "Z" "BranchLayout" ∈ lw_tbl := List.mem_append_right _ (List.mem_of_getElem? (i := 143) (by decide +kernel))
theorem w_144 : Cond.fieldLink "BranchLayout$Branch" 19 "BranchLayout$Branch" "distance" "I" ∈ zt := zt_in (List.mem_append_right _ (List.mem_of_getElem? (i := 144) (by decide +kernel))) rfl
theorem w_145 : Cond.laysFinal "BranchLayout$Branch" "BranchLayout$Branch" "longLength" "I" ∈ zt := zt_in (List.mem_append_right _ (List.mem_of_getElem? (i := 145) (by decide +kernel))) rfl
theorem w_146 : Cond.soleField "BranchLayout$Branch" "longLength" ∈ zt := zt_in (List.mem_append_right _ (List.mem_of_getElem? (i := 146) (by decide +kernel))) rfl
theorem w_147 : Cond.lays "BranchLayout$Branch" "BranchLayout$Branch" "goal" "LBranchLayout$Place;" ∈ zt := zt_in (List.mem_append_right _ (List.mem_of_getElem? (i := 147) (by decide +kernel))) rfl
theorem w_148 : Cond.soleField "BranchLayout$Branch" "goal" ∈ zt := zt_in (List.mem_append_right _ (List.mem_of_getElem? (i := 148) (by decide +kernel))) rfl
theorem w_149 : Cond.lays "BranchLayout$Branch" "BranchLayout$Branch" "more" "I" ∈ zt := zt_in (List.mem_append_right _ (List.mem_of_getElem? (i := 149) (by decide +kernel))) rfl
theorem w_150 : Cond.soleField "BranchLayout$Branch" "more" ∈ zt := zt_in (List.mem_append_right _ (List.mem_of_getElem? (i := 150) (by decide +kernel))) rfl
theorem w_151 : Cond.lays "BranchLayout$Branch" "BranchLayout$Branch" "isShort" "Z" ∈ zt := zt_in (List.mem_append_right _ (List.mem_of_getElem? (i := 151) (by decide +kernel))) rfl
theorem w_152 : Cond.soleField "BranchLayout$Branch" "isShort" ∈ zt := zt_in (List.mem_append_right _ (List.mem_of_getElem? (i := 152) (by decide +kernel))) rfl
theorem w_153 : Cond.lays "BranchLayout$Branch" "BranchLayout$Branch" "distance" "I" ∈ zt := zt_in (List.mem_append_right _ (List.mem_of_getElem? (i := 153) (by decide +kernel))) rfl
theorem w_154 : Cond.soleField "BranchLayout$Branch" "distance" ∈ zt := zt_in (List.mem_append_right _ (List.mem_of_getElem? (i := 154) (by decide +kernel))) rfl
theorem w_155 : Cond.lays "BranchLayout$Branch" "BranchLayout$Statement" "length" "I" ∈ zt := zt_in (List.mem_append_right _ (List.mem_of_getElem? (i := 155) (by decide +kernel))) rfl
theorem w_156 : Cond.laysFinal "BranchLayout$Branch" "BranchLayout$Place" "section" "I" ∈ zt := zt_in (List.mem_append_right _ (List.mem_of_getElem? (i := 156) (by decide +kernel))) rfl
theorem w_157 : Cond.lays "BranchLayout$Branch" "BranchLayout$Place" "at" "I" ∈ zt := zt_in (List.mem_append_right _ (List.mem_of_getElem? (i := 157) (by decide +kernel))) rfl
theorem w_158 : Cond.superclass "BranchLayout$Branch" "BranchLayout$Statement" ∈ zt := zt_in (List.mem_append_right _ (List.mem_of_getElem? (i := 158) (by decide +kernel))) rfl
theorem w_159 : Cond.methodLink "BranchLayoutLaw" 30 ⟨"BranchLayout", "label", "(I)I"⟩ ∈ zt := zt_in (List.mem_append_right _ (List.mem_of_getElem? (i := 159) (by decide +kernel))) rfl
theorem w_160 : Cond.instanceMethod ⟨"BranchLayout", "label", "(I)I"⟩ ∈ zt := zt_in (List.mem_append_right _ (List.mem_of_getElem? (i := 160) (by decide +kernel))) rfl
theorem w_161 : Cond.selects "BranchLayout" ⟨"BranchLayout", "label", "(I)I"⟩ ⟨"BranchLayout", "label", "(I)I"⟩ ∈ zt := zt_in (List.mem_append_right _ (List.mem_of_getElem? (i := 161) (by decide +kernel))) rfl
theorem w_162 : Cond.code ⟨"BranchLayout", "label", "(I)I"⟩ prog_1_method_6_code 2 (some FieldType.int) ∈ zt := zt_in (List.mem_append_right _ (List.mem_of_getElem? (i := 162) (by decide +kernel))) rfl
theorem w_163 : Cond.instantiable "BranchLayout$Label" 3 ∈ zt := zt_in (List.mem_append_right _ (List.mem_of_getElem? (i := 163) (by decide +kernel))) rfl
theorem w_164 : Cond.methodLink "BranchLayout" 61 ⟨"BranchLayout$Label", "<init>", "(II)V"⟩ ∈ zt := zt_in (List.mem_append_right _ (List.mem_of_getElem? (i := 164) (by decide +kernel))) rfl
theorem w_165 : Cond.instanceMethod ⟨"BranchLayout$Label", "<init>", "(II)V"⟩ ∈ zt := zt_in (List.mem_append_right _ (List.mem_of_getElem? (i := 165) (by decide +kernel))) rfl
theorem w_166 : Cond.code ⟨"BranchLayout$Label", "<init>", "(II)V"⟩ prog_5_method_1_code 3 none ∈ zt := zt_in (List.mem_append_right _ (List.mem_of_getElem? (i := 166) (by decide +kernel))) rfl
theorem w_167 : Cond.methodLink "BranchLayout$Label" 1 ⟨"BranchLayout$Place", "<init>", "(I)V"⟩ ∈ zt := zt_in (List.mem_append_right _ (List.mem_of_getElem? (i := 167) (by decide +kernel))) rfl
theorem w_168 : Cond.fieldLink "BranchLayout$Label" 7 "BranchLayout$Label" "next" "I" ∈ zt := zt_in (List.mem_append_right _ (List.mem_of_getElem? (i := 168) (by decide +kernel))) rfl
theorem w_169 : Cond.fieldLink "BranchLayout" 133 "BranchLayout$Label" "next" "I" ∈ zt := zt_in (List.mem_append_right _ (List.mem_of_getElem? (i := 169) (by decide +kernel))) rfl
theorem w_170 : Cond.laysFinal "BranchLayout$Label" "BranchLayout$Label" "next" "I" ∈ zt := zt_in (List.mem_append_right _ (List.mem_of_getElem? (i := 170) (by decide +kernel))) rfl
theorem w_171 : Cond.soleField "BranchLayout$Label" "next" ∈ zt := zt_in (List.mem_append_right _ (List.mem_of_getElem? (i := 171) (by decide +kernel))) rfl
theorem w_172 : Cond.laysFinal "BranchLayout$Label" "BranchLayout$Place" "section" "I" ∈ zt := zt_in (List.mem_append_right _ (List.mem_of_getElem? (i := 172) (by decide +kernel))) rfl
theorem w_173 : Cond.lays "BranchLayout$Label" "BranchLayout$Place" "at" "I" ∈ zt := zt_in (List.mem_append_right _ (List.mem_of_getElem? (i := 173) (by decide +kernel))) rfl
theorem w_174 : Cond.superclass "BranchLayout$Label" "BranchLayout$Place" ∈ zt := zt_in (List.mem_append_right _ (List.mem_of_getElem? (i := 174) (by decide +kernel))) rfl
theorem w_175 : Cond.methodLink "BranchLayoutLaw" 35 ⟨"BranchLayout", "go", "(III)Z"⟩ ∈ zt := zt_in (List.mem_append_right _ (List.mem_of_getElem? (i := 175) (by decide +kernel))) rfl
theorem w_176 : Cond.instanceMethod ⟨"BranchLayout", "go", "(III)Z"⟩ ∈ zt := zt_in (List.mem_append_right _ (List.mem_of_getElem? (i := 176) (by decide +kernel))) rfl
theorem w_177 : Cond.selects "BranchLayout" ⟨"BranchLayout", "go", "(III)Z"⟩ ⟨"BranchLayout", "go", "(III)Z"⟩ ∈ zt := zt_in (List.mem_append_right _ (List.mem_of_getElem? (i := 177) (by decide +kernel))) rfl
theorem w_178 : Cond.code ⟨"BranchLayout", "go", "(III)Z"⟩ prog_1_method_7_code 6 (some FieldType.boolean) ∈ zt := zt_in (List.mem_append_right _ (List.mem_of_getElem? (i := 178) (by decide +kernel))) rfl
theorem w_179 : Cond.methodLink "BranchLayout" 62 ⟨"BranchLayout", "statementNumbered", "(I)LBranchLayout$Statement;"⟩ ∈ zt := zt_in (List.mem_append_right _ (List.mem_of_getElem? (i := 179) (by decide +kernel))) rfl
theorem w_180 : Cond.privateMethod ⟨"BranchLayout", "statementNumbered", "(I)LBranchLayout$Statement;"⟩ ∈ lw_tbl := List.mem_append_right _ (List.mem_of_getElem? (i := 180) (by decide +kernel))
theorem w_181 : Cond.instanceMethod ⟨"BranchLayout", "statementNumbered", "(I)LBranchLayout$Statement;"⟩ ∈ zt := zt_in (List.mem_append_right _ (List.mem_of_getElem? (i := 181) (by decide +kernel))) rfl
theorem w_182 : Cond.code ⟨"BranchLayout", "statementNumbered", "(I)LBranchLayout$Statement;"⟩ prog_1_method_15_code 2 (some (FieldType.object "BranchLayout$Statement")) ∈ zt := zt_in (List.mem_append_right _ (List.mem_of_getElem? (i := 182) (by decide +kernel))) rfl
theorem w_183 : Cond.methodLink "BranchLayout" 66 ⟨"BranchLayout", "placeNamed", "(I)LBranchLayout$Place;"⟩ ∈ zt := zt_in (List.mem_append_right _ (List.mem_of_getElem? (i := 183) (by decide +kernel))) rfl
theorem w_184 : Cond.privateMethod ⟨"BranchLayout", "placeNamed", "(I)LBranchLayout$Place;"⟩ ∈ lw_tbl := List.mem_append_right _ (List.mem_of_getElem? (i := 184) (by decide +kernel))
theorem w_185 : Cond.instanceMethod ⟨"BranchLayout", "placeNamed", "(I)LBranchLayout$Place;"⟩ ∈ zt := zt_in (List.mem_append_right _ (List.mem_of_getElem? (i := 185) (by decide +kernel))) rfl
theorem w_186 : Cond.code ⟨"BranchLayout", "placeNamed", "(I)LBranchLayout$Place;"⟩ prog_1_method_17_code 2 (some (FieldType.object "BranchLayout$Place")) ∈ zt := zt_in (List.mem_append_right _ (List.mem_of_getElem? (i := 186) (by decide +kernel))) rfl
theorem w_187 : Cond.methodLink "BranchLayout" 101 ⟨"BranchLayout", "labelNumbered", "(I)LBranchLayout$Label;"⟩ ∈ zt := zt_in (List.mem_append_right _ (List.mem_of_getElem? (i := 187) (by decide +kernel))) rfl
theorem w_188 : Cond.privateMethod ⟨"BranchLayout", "labelNumbered", "(I)LBranchLayout$Label;"⟩ ∈ lw_tbl := List.mem_append_right _ (List.mem_of_getElem? (i := 188) (by decide +kernel))
theorem w_189 : Cond.instanceMethod ⟨"BranchLayout", "labelNumbered", "(I)LBranchLayout$Label;"⟩ ∈ zt := zt_in (List.mem_append_right _ (List.mem_of_getElem? (i := 189) (by decide +kernel))) rfl
theorem w_190 : Cond.code ⟨"BranchLayout", "labelNumbered", "(I)LBranchLayout$Label;"⟩ prog_1_method_16_code 2 (some (FieldType.object "BranchLayout$Label")) ∈ zt := zt_in (List.mem_append_right _ (List.mem_of_getElem? (i := 190) (by decide +kernel))) rfl
theorem w_191 : Cond.methodLink "BranchLayoutLaw" 40 ⟨"BranchLayout", "relax", "()I"⟩ ∈ zt := zt_in (List.mem_append_right _ (List.mem_of_getElem? (i := 191) (by decide +kernel))) rfl
theorem w_192 : Cond.instanceMethod ⟨"BranchLayout", "relax", "()I"⟩ ∈ zt := zt_in (List.mem_append_right _ (List.mem_of_getElem? (i := 192) (by decide +kernel))) rfl
theorem w_193 : Cond.selects "BranchLayout" ⟨"BranchLayout", "relax", "()I"⟩ ⟨"BranchLayout", "relax", "()I"⟩ ∈ zt := zt_in (List.mem_append_right _ (List.mem_of_getElem? (i := 193) (by decide +kernel))) rfl
theorem w_194 : Cond.code ⟨"BranchLayout", "relax", "()I"⟩ prog_1_method_8_code 2 (some FieldType.int) ∈ zt := zt_in (List.mem_append_right _ (List.mem_of_getElem? (i := 194) (by decide +kernel))) rfl
theorem w_195 : Cond.methodLink "BranchLayout" 83 ⟨"BranchLayout", "shortenAllThatGo", "()V"⟩ ∈ zt := zt_in (List.mem_append_right _ (List.mem_of_getElem? (i := 195) (by decide +kernel))) rfl
theorem w_196 : Cond.privateMethod ⟨"BranchLayout", "shortenAllThatGo", "()V"⟩ ∈ lw_tbl := List.mem_append_right _ (List.mem_of_getElem? (i := 196) (by decide +kernel))
theorem w_197 : Cond.instanceMethod ⟨"BranchLayout", "shortenAllThatGo", "()V"⟩ ∈ zt := zt_in (List.mem_append_right _ (List.mem_of_getElem? (i := 197) (by decide +kernel))) rfl
theorem w_198 : Cond.code ⟨"BranchLayout", "shortenAllThatGo", "()V"⟩ prog_1_method_18_code 4 none ∈ zt := zt_in (List.mem_append_right _ (List.mem_of_getElem? (i := 198) (by decide +kernel))) rfl
theorem w_199 : Cond.methodLink "BranchLayout" 86 ⟨"BranchLayout", "tellPlaces", "()V"⟩ ∈ zt := zt_in (List.mem_append_right _ (List.mem_of_getElem? (i := 199) (by decide +kernel))) rfl
theorem w_200 : Cond.privateMethod ⟨"BranchLayout", "tellPlaces", "()V"⟩ ∈ lw_tbl := List.mem_append_right _ (List.mem_of_getElem? (i := 200) (by decide +kernel))
theorem w_201 : Cond.instanceMethod ⟨"BranchLayout", "tellPlaces", "()V"⟩ ∈ zt := zt_in (List.mem_append_right _ (List.mem_of_getElem? (i := 201) (by decide +kernel))) rfl
theorem w_202 : Cond.code ⟨"BranchLayout", "tellPlaces", "()V"⟩ prog_1_method_19_code 3 none ∈ zt := zt_in (List.mem_append_right _ (List.mem_of_getElem? (i := 202) (by decide +kernel))) rfl
theorem w_203 : Cond.methodLink "BranchLayout" 117 ⟨"BranchLayout", "tellLabelsBefore", "(II)I"⟩ ∈ zt := zt_in (List.mem_append_right _ (List.mem_of_getElem? (i := 203) (by decide +kernel))) rfl
theorem w_204 : Cond.privateMethod ⟨"BranchLayout", "tellLabelsBefore", "(II)I"⟩ ∈ lw_tbl := List.mem_append_right _ (List.mem_of_getElem? (i := 204) (by decide +kernel))
theorem w_205 : Cond.instanceMethod ⟨"BranchLayout", "tellLabelsBefore", "(II)I"⟩ ∈ zt := zt_in (List.mem_append_right _ (List.mem_of_getElem? (i := 205) (by decide +kernel))) rfl
theorem w_206 : Cond.code ⟨"BranchLayout", "tellLabelsBefore", "(II)I"⟩ prog_1_method_21_code 4 (some FieldType.int) ∈ zt := zt_in (List.mem_append_right _ (List.mem_of_getElem? (i := 206) (by decide +kernel))) rfl
theorem w_207 : Cond.methodLink "BranchLayout" 121 ⟨"BranchLayout", "tellStatement", "(LBranchLayout$Statement;)V"⟩ ∈ zt := zt_in (List.mem_append_right _ (List.mem_of_getElem? (i := 207) (by decide +kernel))) rfl
theorem w_208 : Cond.privateMethod ⟨"BranchLayout", "tellStatement", "(LBranchLayout$Statement;)V"⟩ ∈ lw_tbl := List.mem_append_right _ (List.mem_of_getElem? (i := 208) (by decide +kernel))
theorem w_209 : Cond.instanceMethod ⟨"BranchLayout", "tellStatement", "(LBranchLayout$Statement;)V"⟩ ∈ zt := zt_in (List.mem_append_right _ (List.mem_of_getElem? (i := 209) (by decide +kernel))) rfl
theorem w_210 : Cond.code ⟨"BranchLayout", "tellStatement", "(LBranchLayout$Statement;)V"⟩ prog_1_method_20_code 2 none ∈ zt := zt_in (List.mem_append_right _ (List.mem_of_getElem? (i := 210) (by decide +kernel))) rfl
theorem w_211 : Cond.methodLink "BranchLayout" 127 ⟨"BranchLayout$Statement", "lengthFrom", "(I)I"⟩ ∈ zt := zt_in (List.mem_append_right _ (List.mem_of_getElem? (i := 211) (by decide +kernel))) rfl
theorem w_212 : Cond.declares ⟨"BranchLayout$Statement", "lengthFrom", "(I)I"⟩ ∈ lw_tbl := List.mem_append_right _ (List.mem_of_getElem? (i := 212) (by decide +kernel))
theorem w_213 : Cond.sameMethod "BranchLayout$Statement" "BranchLayout$Statement" "lengthFrom" "(I)I" ∈ zt := zt_in (List.mem_append_right _ (List.mem_of_getElem? (i := 213) (by decide +kernel))) rfl
theorem w_214 : Cond.selects "BranchLayout$Alignment" ⟨"BranchLayout$Statement", "lengthFrom", "(I)I"⟩ ⟨"BranchLayout$Alignment", "lengthFrom", "(I)I"⟩ ∈ zt := zt_in (List.mem_append_right _ (List.mem_of_getElem? (i := 214) (by decide +kernel))) rfl
theorem w_215 : Cond.instanceMethod ⟨"BranchLayout$Alignment", "lengthFrom", "(I)I"⟩ ∈ zt := zt_in (List.mem_append_right _ (List.mem_of_getElem? (i := 215) (by decide +kernel))) rfl
theorem w_216 : Cond.code ⟨"BranchLayout$Alignment", "lengthFrom", "(I)I"⟩ prog_2_method_2_code 2 (some FieldType.int) ∈ zt := zt_in (List.mem_append_right _ (List.mem_of_getElem? (i := 216) (by decide +kernel))) rfl
theorem w_217 : Cond.selects "BranchLayout$Branch" ⟨"BranchLayout$Statement", "lengthFrom", "(I)I"⟩ ⟨"BranchLayout$Branch", "lengthFrom", "(I)I"⟩ ∈ zt := zt_in (List.mem_append_right _ (List.mem_of_getElem? (i := 217) (by decide +kernel))) rfl
theorem w_218 : Cond.instanceMethod ⟨"BranchLayout$Branch", "lengthFrom", "(I)I"⟩ ∈ zt := zt_in (List.mem_append_right _ (List.mem_of_getElem? (i := 218) (by decide +kernel))) rfl
theorem w_219 : Cond.code ⟨"BranchLayout$Branch", "lengthFrom", "(I)I"⟩ prog_3_method_2_code 2 (some FieldType.int) ∈ zt := zt_in (List.mem_append_right _ (List.mem_of_getElem? (i := 219) (by decide +kernel))) rfl
theorem w_220 : Cond.selects "BranchLayout$Bytes" ⟨"BranchLayout$Statement", "lengthFrom", "(I)I"⟩ ⟨"BranchLayout$Bytes", "lengthFrom", "(I)I"⟩ ∈ zt := zt_in (List.mem_append_right _ (List.mem_of_getElem? (i := 220) (by decide +kernel))) rfl
theorem w_221 : Cond.instanceMethod ⟨"BranchLayout$Bytes", "lengthFrom", "(I)I"⟩ ∈ zt := zt_in (List.mem_append_right _ (List.mem_of_getElem? (i := 221) (by decide +kernel))) rfl
theorem w_222 : Cond.code ⟨"BranchLayout$Bytes", "lengthFrom", "(I)I"⟩ prog_4_method_2_code 2 (some FieldType.int) ∈ zt := zt_in (List.mem_append_right _ (List.mem_of_getElem? (i := 222) (by decide +kernel))) rfl
theorem w_223 : Cond.methodLink "BranchLayout" 89 ⟨"BranchLayout", "lengthenAllTooFar", "()Z"⟩ ∈ zt := zt_in (List.mem_append_right _ (List.mem_of_getElem? (i := 223) (by decide +kernel))) rfl
theorem w_224 : Cond.privateMethod ⟨"BranchLayout", "lengthenAllTooFar", "()Z"⟩ ∈ lw_tbl := List.mem_append_right _ (List.mem_of_getElem? (i := 224) (by decide +kernel))
theorem w_225 : Cond.instanceMethod ⟨"BranchLayout", "lengthenAllTooFar", "()Z"⟩ ∈ zt := zt_in (List.mem_append_right _ (List.mem_of_getElem? (i := 225) (by decide +kernel))) rfl
theorem w_226 : Cond.code ⟨"BranchLayout", "lengthenAllTooFar", "()Z"⟩ prog_1_method_22_code 5 (some FieldType.boolean) ∈ zt := zt_in (List.mem_append_right _ (List.mem_of_getElem? (i := 226) (by decide +kernel))) rfl
theorem w_227 : Cond.methodLink "BranchLayout" 137 ⟨"BranchLayout$Branch", "lengthenIfTooFar", "()Z"⟩ ∈ zt := zt_in (List.mem_append_right _ (List.mem_of_getElem? (i := 227) (by decide +kernel))) rfl
theorem w_228 : Cond.instanceMethod ⟨"BranchLayout$Branch", "lengthenIfTooFar", "()Z"⟩ ∈ zt := zt_in (List.mem_append_right _ (List.mem_of_getElem? (i := 228) (by decide +kernel))) rfl
theorem w_229 : Cond.selects "BranchLayout$Branch" ⟨"BranchLayout$Branch", "lengthenIfTooFar", "()Z"⟩ ⟨"BranchLayout$Branch", "lengthenIfTooFar", "()Z"⟩ ∈ zt := zt_in (List.mem_append_right _ (List.mem_of_getElem? (i := 229) (by decide +kernel))) rfl
theorem w_230 : Cond.code ⟨"BranchLayout$Branch", "lengthenIfTooFar", "()Z"⟩ prog_3_method_4_code 3 (some FieldType.boolean) ∈ zt := zt_in (List.mem_append_right _ (List.mem_of_getElem? (i := 230) (by decide +kernel))) rfl
theorem w_231 : Cond.constantLong "BranchLayout$Branch" 42 (-128) ∈ zt := zt_in (List.mem_append_right _ (List.mem_of_getElem? (i := 231) (by decide +kernel))) rfl
theorem w_232 : Cond.constantLong "BranchLayout$Branch" 44 127 ∈ zt := zt_in (List.mem_append_right _ (List.mem_of_getElem? (i := 232) (by decide +kernel))) rfl
theorem w_233 : Cond.methodLink "BranchLayout" 93 ⟨"BranchLayout", "countLong", "()I"⟩ ∈ zt := zt_in (List.mem_append_right _ (List.mem_of_getElem? (i := 233) (by decide +kernel))) rfl
theorem w_234 : Cond.privateMethod ⟨"BranchLayout", "countLong", "()I"⟩ ∈ lw_tbl := List.mem_append_right _ (List.mem_of_getElem? (i := 234) (by decide +kernel))
theorem w_235 : Cond.instanceMethod ⟨"BranchLayout", "countLong", "()I"⟩ ∈ zt := zt_in (List.mem_append_right _ (List.mem_of_getElem? (i := 235) (by decide +kernel))) rfl
theorem w_236 : Cond.code ⟨"BranchLayout", "countLong", "()I"⟩ prog_1_method_23_code 5 (some FieldType.int) ∈ zt := zt_in (List.mem_append_right _ (List.mem_of_getElem? (i := 236) (by decide +kernel))) rfl
theorem w_237 : Cond.methodLink "BranchLayoutLaw" 45 ⟨"BranchLayout", "statement", "(II)I"⟩ ∈ zt := zt_in (List.mem_append_right _ (List.mem_of_getElem? (i := 237) (by decide +kernel))) rfl
theorem w_238 : Cond.instanceMethod ⟨"BranchLayout", "statement", "(II)I"⟩ ∈ zt := zt_in (List.mem_append_right _ (List.mem_of_getElem? (i := 238) (by decide +kernel))) rfl
theorem w_239 : Cond.selects "BranchLayout" ⟨"BranchLayout", "statement", "(II)I"⟩ ⟨"BranchLayout", "statement", "(II)I"⟩ ∈ zt := zt_in (List.mem_append_right _ (List.mem_of_getElem? (i := 239) (by decide +kernel))) rfl
theorem w_240 : Cond.code ⟨"BranchLayout", "statement", "(II)I"⟩ prog_1_method_9_code 4 (some FieldType.int) ∈ zt := zt_in (List.mem_append_right _ (List.mem_of_getElem? (i := 240) (by decide +kernel))) rfl
theorem w_241 : Cond.methodLink "BranchLayout" 97 ⟨"BranchLayout$Statement", "fact", "(I)I"⟩ ∈ zt := zt_in (List.mem_append_right _ (List.mem_of_getElem? (i := 241) (by decide +kernel))) rfl
theorem w_242 : Cond.instanceMethod ⟨"BranchLayout$Statement", "fact", "(I)I"⟩ ∈ zt := zt_in (List.mem_append_right _ (List.mem_of_getElem? (i := 242) (by decide +kernel))) rfl
theorem w_243 : Cond.sameMethod "BranchLayout$Statement" "BranchLayout$Statement" "fact" "(I)I" ∈ zt := zt_in (List.mem_append_right _ (List.mem_of_getElem? (i := 243) (by decide +kernel))) rfl
theorem w_244 : Cond.selects "BranchLayout$Alignment" ⟨"BranchLayout$Statement", "fact", "(I)I"⟩ ⟨"BranchLayout$Statement", "fact", "(I)I"⟩ ∈ zt := zt_in (List.mem_append_right _ (List.mem_of_getElem? (i := 244) (by decide +kernel))) rfl
theorem w_245 : Cond.selects "BranchLayout$Branch" ⟨"BranchLayout$Statement", "fact", "(I)I"⟩ ⟨"BranchLayout$Branch", "fact", "(I)I"⟩ ∈ zt := zt_in (List.mem_append_right _ (List.mem_of_getElem? (i := 245) (by decide +kernel))) rfl
theorem w_246 : Cond.instanceMethod ⟨"BranchLayout$Branch", "fact", "(I)I"⟩ ∈ zt := zt_in (List.mem_append_right _ (List.mem_of_getElem? (i := 246) (by decide +kernel))) rfl
theorem w_247 : Cond.code ⟨"BranchLayout$Branch", "fact", "(I)I"⟩ prog_3_method_3_code 2 (some FieldType.int) ∈ zt := zt_in (List.mem_append_right _ (List.mem_of_getElem? (i := 247) (by decide +kernel))) rfl
theorem w_248 : Cond.methodLink "BranchLayout$Branch" 22 ⟨"BranchLayout$Statement", "fact", "(I)I"⟩ ∈ zt := zt_in (List.mem_append_right _ (List.mem_of_getElem? (i := 248) (by decide +kernel))) rfl
theorem w_249 : Cond.selects "BranchLayout$Bytes" ⟨"BranchLayout$Statement", "fact", "(I)I"⟩ ⟨"BranchLayout$Statement", "fact", "(I)I"⟩ ∈ zt := zt_in (List.mem_append_right _ (List.mem_of_getElem? (i := 249) (by decide +kernel))) rfl
theorem w_250 : Cond.code ⟨"BranchLayout$Statement", "fact", "(I)I"⟩ prog_7_method_3_code 2 (some FieldType.int) ∈ zt := zt_in (List.mem_append_right _ (List.mem_of_getElem? (i := 250) (by decide +kernel))) rfl
theorem w_251 : Cond.methodLink "BranchLayoutLaw" 49 ⟨"BranchLayout", "place", "(I)I"⟩ ∈ zt := zt_in (List.mem_append_right _ (List.mem_of_getElem? (i := 251) (by decide +kernel))) rfl
theorem w_252 : Cond.instanceMethod ⟨"BranchLayout", "place", "(I)I"⟩ ∈ zt := zt_in (List.mem_append_right _ (List.mem_of_getElem? (i := 252) (by decide +kernel))) rfl
theorem w_253 : Cond.selects "BranchLayout" ⟨"BranchLayout", "place", "(I)I"⟩ ⟨"BranchLayout", "place", "(I)I"⟩ ∈ zt := zt_in (List.mem_append_right _ (List.mem_of_getElem? (i := 253) (by decide +kernel))) rfl
theorem w_254 : Cond.code ⟨"BranchLayout", "place", "(I)I"⟩ prog_1_method_10_code 3 (some FieldType.int) ∈ zt := zt_in (List.mem_append_right _ (List.mem_of_getElem? (i := 254) (by decide +kernel))) rfl
theorem w_255 : Cond.methodLink "BranchLayoutLaw" 53 ⟨"BranchLayout", "size", "(I)I"⟩ ∈ zt := zt_in (List.mem_append_right _ (List.mem_of_getElem? (i := 255) (by decide +kernel))) rfl
theorem w_256 : Cond.instanceMethod ⟨"BranchLayout", "size", "(I)I"⟩ ∈ zt := zt_in (List.mem_append_right _ (List.mem_of_getElem? (i := 256) (by decide +kernel))) rfl
theorem w_257 : Cond.selects "BranchLayout" ⟨"BranchLayout", "size", "(I)I"⟩ ⟨"BranchLayout", "size", "(I)I"⟩ ∈ zt := zt_in (List.mem_append_right _ (List.mem_of_getElem? (i := 257) (by decide +kernel))) rfl
theorem w_258 : Cond.code ⟨"BranchLayout", "size", "(I)I"⟩ prog_1_method_11_code 2 (some FieldType.int) ∈ zt := zt_in (List.mem_append_right _ (List.mem_of_getElem? (i := 258) (by decide +kernel))) rfl
theorem w_259 : Cond.classLink "BranchLayoutLaw" 10 "BranchLayoutModel" ∈ zt := zt_in (List.mem_append_right _ (List.mem_of_getElem? (i := 259) (by decide +kernel))) rfl
theorem w_260 : Cond.instantiable "BranchLayoutModel" 17 ∈ zt := zt_in (List.mem_append_right _ (List.mem_of_getElem? (i := 260) (by decide +kernel))) rfl
theorem w_261 : Cond.methodLink "BranchLayoutLaw" 12 ⟨"BranchLayoutModel", "<init>", "()V"⟩ ∈ zt := zt_in (List.mem_append_right _ (List.mem_of_getElem? (i := 261) (by decide +kernel))) rfl
theorem w_262 : Cond.instanceMethod ⟨"BranchLayoutModel", "<init>", "()V"⟩ ∈ zt := zt_in (List.mem_append_right _ (List.mem_of_getElem? (i := 262) (by decide +kernel))) rfl
theorem w_263 : Cond.code ⟨"BranchLayoutModel", "<init>", "()V"⟩ prog_9_method_1_code 1 none ∈ zt := zt_in (List.mem_append_right _ (List.mem_of_getElem? (i := 263) (by decide +kernel))) rfl
theorem w_264 : Cond.methodLink "BranchLayoutModel" 1 ⟨"java/lang/Object", "<init>", "()V"⟩ ∈ zt := zt_in (List.mem_append_right _ (List.mem_of_getElem? (i := 264) (by decide +kernel))) rfl
theorem w_265 : Cond.fieldLink "BranchLayoutModel" 53 "BranchLayoutModel" "thrown" "I" ∈ zt := zt_in (List.mem_append_right _ (List.mem_of_getElem? (i := 265) (by decide +kernel))) rfl
theorem w_266 : Cond.fieldLink "BranchLayoutModel" 57 "BranchLayoutModel" "statements" "I" ∈ zt := zt_in (List.mem_append_right _ (List.mem_of_getElem? (i := 266) (by decide +kernel))) rfl
theorem w_267 : Cond.fieldLink "BranchLayoutModel" 60 "BranchLayoutModel" "labels" "I" ∈ zt := zt_in (List.mem_append_right _ (List.mem_of_getElem? (i := 267) (by decide +kernel))) rfl
theorem w_268 : Cond.fieldLink "BranchLayoutModel" 7 "BranchLayoutModel" "kind" "[I" ∈ zt := zt_in (List.mem_append_right _ (List.mem_of_getElem? (i := 268) (by decide +kernel))) rfl
theorem w_269 : Cond.fieldLink "BranchLayoutModel" 13 "BranchLayoutModel" "section" "[I" ∈ zt := zt_in (List.mem_append_right _ (List.mem_of_getElem? (i := 269) (by decide +kernel))) rfl
theorem w_270 : Cond.fieldLink "BranchLayoutModel" 16 "BranchLayoutModel" "amount" "[I" ∈ zt := zt_in (List.mem_append_right _ (List.mem_of_getElem? (i := 270) (by decide +kernel))) rfl
theorem w_271 : Cond.fieldLink "BranchLayoutModel" 19 "BranchLayoutModel" "goal" "[I" ∈ zt := zt_in (List.mem_append_right _ (List.mem_of_getElem? (i := 271) (by decide +kernel))) rfl
theorem w_272 : Cond.fieldLink "BranchLayoutModel" 22 "BranchLayoutModel" "more" "[I" ∈ zt := zt_in (List.mem_append_right _ (List.mem_of_getElem? (i := 272) (by decide +kernel))) rfl
theorem w_273 : Cond.fieldLink "BranchLayoutModel" 25 "BranchLayoutModel" "labelSection" "[I" ∈ zt := zt_in (List.mem_append_right _ (List.mem_of_getElem? (i := 273) (by decide +kernel))) rfl
theorem w_274 : Cond.fieldLink "BranchLayoutModel" 28 "BranchLayoutModel" "labelAhead" "[I" ∈ zt := zt_in (List.mem_append_right _ (List.mem_of_getElem? (i := 274) (by decide +kernel))) rfl
theorem w_275 : Cond.fieldLink "BranchLayoutModel" 31 "BranchLayoutModel" "brief" "[Z" ∈ zt := zt_in (List.mem_append_right _ (List.mem_of_getElem? (i := 275) (by decide +kernel))) rfl
theorem w_276 : Cond.fieldLink "BranchLayoutModel" 35 "BranchLayoutModel" "at" "[I" ∈ zt := zt_in (List.mem_append_right _ (List.mem_of_getElem? (i := 276) (by decide +kernel))) rfl
theorem w_277 : Cond.fieldLink "BranchLayoutModel" 38 "BranchLayoutModel" "size" "[I" ∈ zt := zt_in (List.mem_append_right _ (List.mem_of_getElem? (i := 277) (by decide +kernel))) rfl
theorem w_278 : Cond.fieldLink "BranchLayoutModel" 41 "BranchLayoutModel" "far" "[I" ∈ zt := zt_in (List.mem_append_right _ (List.mem_of_getElem? (i := 278) (by decide +kernel))) rfl
theorem w_279 : Cond.fieldLink "BranchLayoutModel" 44 "BranchLayoutModel" "labelPlace" "[I" ∈ zt := zt_in (List.mem_append_right _ (List.mem_of_getElem? (i := 279) (by decide +kernel))) rfl
theorem w_280 : Cond.fieldLink "BranchLayoutModel" 47 "BranchLayoutModel" "sectionSize" "[I" ∈ zt := zt_in (List.mem_append_right _ (List.mem_of_getElem? (i := 280) (by decide +kernel))) rfl
theorem w_281 : Cond.fieldLink "BranchLayoutModel" 50 "BranchLayoutModel" "laidShort" "[Z" ∈ zt := zt_in (List.mem_append_right _ (List.mem_of_getElem? (i := 281) (by decide +kernel))) rfl
theorem w_282 : Cond.lays "BranchLayoutModel" "BranchLayoutModel" "thrown" "I" ∈ zt := zt_in (List.mem_append_right _ (List.mem_of_getElem? (i := 282) (by decide +kernel))) rfl
theorem w_283 : Cond.soleField "BranchLayoutModel" "thrown" ∈ zt := zt_in (List.mem_append_right _ (List.mem_of_getElem? (i := 283) (by decide +kernel))) rfl
theorem w_284 : Cond.lays "BranchLayoutModel" "BranchLayoutModel" "statements" "I" ∈ zt := zt_in (List.mem_append_right _ (List.mem_of_getElem? (i := 284) (by decide +kernel))) rfl
theorem w_285 : Cond.soleField "BranchLayoutModel" "statements" ∈ zt := zt_in (List.mem_append_right _ (List.mem_of_getElem? (i := 285) (by decide +kernel))) rfl
theorem w_286 : Cond.lays "BranchLayoutModel" "BranchLayoutModel" "labels" "I" ∈ zt := zt_in (List.mem_append_right _ (List.mem_of_getElem? (i := 286) (by decide +kernel))) rfl
theorem w_287 : Cond.soleField "BranchLayoutModel" "labels" ∈ zt := zt_in (List.mem_append_right _ (List.mem_of_getElem? (i := 287) (by decide +kernel))) rfl
theorem w_288 : Cond.laysFinal "BranchLayoutModel" "BranchLayoutModel" "kind" "[I" ∈ zt := zt_in (List.mem_append_right _ (List.mem_of_getElem? (i := 288) (by decide +kernel))) rfl
theorem w_289 : Cond.soleField "BranchLayoutModel" "kind" ∈ zt := zt_in (List.mem_append_right _ (List.mem_of_getElem? (i := 289) (by decide +kernel))) rfl
theorem w_290 : Cond.laysFinal "BranchLayoutModel" "BranchLayoutModel" "section" "[I" ∈ zt := zt_in (List.mem_append_right _ (List.mem_of_getElem? (i := 290) (by decide +kernel))) rfl
theorem w_291 : Cond.soleField "BranchLayoutModel" "section" ∈ zt := zt_in (List.mem_append_right _ (List.mem_of_getElem? (i := 291) (by decide +kernel))) rfl
theorem w_292 : Cond.laysFinal "BranchLayoutModel" "BranchLayoutModel" "amount" "[I" ∈ zt := zt_in (List.mem_append_right _ (List.mem_of_getElem? (i := 292) (by decide +kernel))) rfl
theorem w_293 : Cond.soleField "BranchLayoutModel" "amount" ∈ zt := zt_in (List.mem_append_right _ (List.mem_of_getElem? (i := 293) (by decide +kernel))) rfl
theorem w_294 : Cond.laysFinal "BranchLayoutModel" "BranchLayoutModel" "goal" "[I" ∈ zt := zt_in (List.mem_append_right _ (List.mem_of_getElem? (i := 294) (by decide +kernel))) rfl
theorem w_295 : Cond.soleField "BranchLayoutModel" "goal" ∈ zt := zt_in (List.mem_append_right _ (List.mem_of_getElem? (i := 295) (by decide +kernel))) rfl
theorem w_296 : Cond.laysFinal "BranchLayoutModel" "BranchLayoutModel" "more" "[I" ∈ zt := zt_in (List.mem_append_right _ (List.mem_of_getElem? (i := 296) (by decide +kernel))) rfl
theorem w_297 : Cond.soleField "BranchLayoutModel" "more" ∈ zt := zt_in (List.mem_append_right _ (List.mem_of_getElem? (i := 297) (by decide +kernel))) rfl
theorem w_298 : Cond.laysFinal "BranchLayoutModel" "BranchLayoutModel" "labelSection" "[I" ∈ zt := zt_in (List.mem_append_right _ (List.mem_of_getElem? (i := 298) (by decide +kernel))) rfl
theorem w_299 : Cond.soleField "BranchLayoutModel" "labelSection" ∈ zt := zt_in (List.mem_append_right _ (List.mem_of_getElem? (i := 299) (by decide +kernel))) rfl
theorem w_300 : Cond.laysFinal "BranchLayoutModel" "BranchLayoutModel" "labelAhead" "[I" ∈ zt := zt_in (List.mem_append_right _ (List.mem_of_getElem? (i := 300) (by decide +kernel))) rfl
theorem w_301 : Cond.soleField "BranchLayoutModel" "labelAhead" ∈ zt := zt_in (List.mem_append_right _ (List.mem_of_getElem? (i := 301) (by decide +kernel))) rfl
theorem w_302 : Cond.laysFinal "BranchLayoutModel" "BranchLayoutModel" "brief" "[Z" ∈ zt := zt_in (List.mem_append_right _ (List.mem_of_getElem? (i := 302) (by decide +kernel))) rfl
theorem w_303 : Cond.soleField "BranchLayoutModel" "brief" ∈ zt := zt_in (List.mem_append_right _ (List.mem_of_getElem? (i := 303) (by decide +kernel))) rfl
theorem w_304 : Cond.laysFinal "BranchLayoutModel" "BranchLayoutModel" "at" "[I" ∈ zt := zt_in (List.mem_append_right _ (List.mem_of_getElem? (i := 304) (by decide +kernel))) rfl
theorem w_305 : Cond.soleField "BranchLayoutModel" "at" ∈ zt := zt_in (List.mem_append_right _ (List.mem_of_getElem? (i := 305) (by decide +kernel))) rfl
theorem w_306 : Cond.laysFinal "BranchLayoutModel" "BranchLayoutModel" "size" "[I" ∈ zt := zt_in (List.mem_append_right _ (List.mem_of_getElem? (i := 306) (by decide +kernel))) rfl
theorem w_307 : Cond.soleField "BranchLayoutModel" "size" ∈ zt := zt_in (List.mem_append_right _ (List.mem_of_getElem? (i := 307) (by decide +kernel))) rfl
theorem w_308 : Cond.laysFinal "BranchLayoutModel" "BranchLayoutModel" "far" "[I" ∈ zt := zt_in (List.mem_append_right _ (List.mem_of_getElem? (i := 308) (by decide +kernel))) rfl
theorem w_309 : Cond.soleField "BranchLayoutModel" "far" ∈ zt := zt_in (List.mem_append_right _ (List.mem_of_getElem? (i := 309) (by decide +kernel))) rfl
theorem w_310 : Cond.laysFinal "BranchLayoutModel" "BranchLayoutModel" "labelPlace" "[I" ∈ zt := zt_in (List.mem_append_right _ (List.mem_of_getElem? (i := 310) (by decide +kernel))) rfl
theorem w_311 : Cond.soleField "BranchLayoutModel" "labelPlace" ∈ zt := zt_in (List.mem_append_right _ (List.mem_of_getElem? (i := 311) (by decide +kernel))) rfl
theorem w_312 : Cond.laysFinal "BranchLayoutModel" "BranchLayoutModel" "sectionSize" "[I" ∈ zt := zt_in (List.mem_append_right _ (List.mem_of_getElem? (i := 312) (by decide +kernel))) rfl
theorem w_313 : Cond.soleField "BranchLayoutModel" "sectionSize" ∈ zt := zt_in (List.mem_append_right _ (List.mem_of_getElem? (i := 313) (by decide +kernel))) rfl
theorem w_314 : Cond.laysFinal "BranchLayoutModel" "BranchLayoutModel" "laidShort" "[Z" ∈ zt := zt_in (List.mem_append_right _ (List.mem_of_getElem? (i := 314) (by decide +kernel))) rfl
theorem w_315 : Cond.soleField "BranchLayoutModel" "laidShort" ∈ zt := zt_in (List.mem_append_right _ (List.mem_of_getElem? (i := 315) (by decide +kernel))) rfl
theorem w_316 : Cond.superclass "BranchLayoutModel" "java/lang/Object" ∈ zt := zt_in (List.mem_append_right _ (List.mem_of_getElem? (i := 316) (by decide +kernel))) rfl
theorem w_317 : Cond.arrayClass FieldType.boolean ∈ zt := zt_in (List.mem_append_right _ (List.mem_of_getElem? (i := 317) (by decide +kernel))) rfl
theorem w_318 : Cond.methodLink "BranchLayoutLaw" 16 ⟨"BranchLayoutModel", "clear", "()V"⟩ ∈ zt := zt_in (List.mem_append_right _ (List.mem_of_getElem? (i := 318) (by decide +kernel))) rfl
theorem w_319 : Cond.instanceMethod ⟨"BranchLayoutModel", "clear", "()V"⟩ ∈ zt := zt_in (List.mem_append_right _ (List.mem_of_getElem? (i := 319) (by decide +kernel))) rfl
theorem w_320 : Cond.selects "BranchLayoutModel" ⟨"BranchLayoutModel", "clear", "()V"⟩ ⟨"BranchLayoutModel", "clear", "()V"⟩ ∈ zt := zt_in (List.mem_append_right _ (List.mem_of_getElem? (i := 320) (by decide +kernel))) rfl
theorem w_321 : Cond.code ⟨"BranchLayoutModel", "clear", "()V"⟩ prog_9_method_3_code 2 none ∈ zt := zt_in (List.mem_append_right _ (List.mem_of_getElem? (i := 321) (by decide +kernel))) rfl
theorem w_322 : Cond.methodLink "BranchLayoutLaw" 21 ⟨"BranchLayoutModel", "bytes", "(II)I"⟩ ∈ zt := zt_in (List.mem_append_right _ (List.mem_of_getElem? (i := 322) (by decide +kernel))) rfl
theorem w_323 : Cond.instanceMethod ⟨"BranchLayoutModel", "bytes", "(II)I"⟩ ∈ zt := zt_in (List.mem_append_right _ (List.mem_of_getElem? (i := 323) (by decide +kernel))) rfl
theorem w_324 : Cond.selects "BranchLayoutModel" ⟨"BranchLayoutModel", "bytes", "(II)I"⟩ ⟨"BranchLayoutModel", "bytes", "(II)I"⟩ ∈ zt := zt_in (List.mem_append_right _ (List.mem_of_getElem? (i := 324) (by decide +kernel))) rfl
theorem w_325 : Cond.code ⟨"BranchLayoutModel", "bytes", "(II)I"⟩ prog_9_method_5_code 3 (some FieldType.int) ∈ zt := zt_in (List.mem_append_right _ (List.mem_of_getElem? (i := 325) (by decide +kernel))) rfl
theorem w_326 : Cond.constant "BranchLayoutModel" 63 65536 ∈ zt := zt_in (List.mem_append_right _ (List.mem_of_getElem? (i := 326) (by decide +kernel))) rfl
theorem w_327 : Cond.methodLink "BranchLayoutModel" 64 ⟨"BranchLayoutModel", "add", "(IIIZ)I"⟩ ∈ zt := zt_in (List.mem_append_right _ (List.mem_of_getElem? (i := 327) (by decide +kernel))) rfl
theorem w_328 : Cond.privateMethod ⟨"BranchLayoutModel", "add", "(IIIZ)I"⟩ ∈ lw_tbl := List.mem_append_right _ (List.mem_of_getElem? (i := 328) (by decide +kernel))
theorem w_329 : Cond.instanceMethod ⟨"BranchLayoutModel", "add", "(IIIZ)I"⟩ ∈ zt := zt_in (List.mem_append_right _ (List.mem_of_getElem? (i := 329) (by decide +kernel))) rfl
theorem w_330 : Cond.code ⟨"BranchLayoutModel", "add", "(IIIZ)I"⟩ prog_9_method_4_code 6 (some FieldType.int) ∈ zt := zt_in (List.mem_append_right _ (List.mem_of_getElem? (i := 330) (by decide +kernel))) rfl
theorem w_331 : Cond.methodLink "BranchLayoutLaw" 25 ⟨"BranchLayoutModel", "align", "(II)I"⟩ ∈ zt := zt_in (List.mem_append_right _ (List.mem_of_getElem? (i := 331) (by decide +kernel))) rfl
theorem w_332 : Cond.instanceMethod ⟨"BranchLayoutModel", "align", "(II)I"⟩ ∈ zt := zt_in (List.mem_append_right _ (List.mem_of_getElem? (i := 332) (by decide +kernel))) rfl
theorem w_333 : Cond.selects "BranchLayoutModel" ⟨"BranchLayoutModel", "align", "(II)I"⟩ ⟨"BranchLayoutModel", "align", "(II)I"⟩ ∈ zt := zt_in (List.mem_append_right _ (List.mem_of_getElem? (i := 333) (by decide +kernel))) rfl
theorem w_334 : Cond.code ⟨"BranchLayoutModel", "align", "(II)I"⟩ prog_9_method_6_code 3 (some FieldType.int) ∈ zt := zt_in (List.mem_append_right _ (List.mem_of_getElem? (i := 334) (by decide +kernel))) rfl
theorem w_335 : Cond.methodLink "BranchLayoutLaw" 29 ⟨"BranchLayoutModel", "branch", "(II)I"⟩ ∈ zt := zt_in (List.mem_append_right _ (List.mem_of_getElem? (i := 335) (by decide +kernel))) rfl
theorem w_336 : Cond.instanceMethod ⟨"BranchLayoutModel", "branch", "(II)I"⟩ ∈ zt := zt_in (List.mem_append_right _ (List.mem_of_getElem? (i := 336) (by decide +kernel))) rfl
theorem w_337 : Cond.selects "BranchLayoutModel" ⟨"BranchLayoutModel", "branch", "(II)I"⟩ ⟨"BranchLayoutModel", "branch", "(II)I"⟩ ∈ zt := zt_in (List.mem_append_right _ (List.mem_of_getElem? (i := 337) (by decide +kernel))) rfl
theorem w_338 : Cond.code ⟨"BranchLayoutModel", "branch", "(II)I"⟩ prog_9_method_7_code 3 (some FieldType.int) ∈ zt := zt_in (List.mem_append_right _ (List.mem_of_getElem? (i := 338) (by decide +kernel))) rfl
theorem w_339 : Cond.methodLink "BranchLayoutLaw" 34 ⟨"BranchLayoutModel", "label", "(I)I"⟩ ∈ zt := zt_in (List.mem_append_right _ (List.mem_of_getElem? (i := 339) (by decide +kernel))) rfl
theorem w_340 : Cond.instanceMethod ⟨"BranchLayoutModel", "label", "(I)I"⟩ ∈ zt := zt_in (List.mem_append_right _ (List.mem_of_getElem? (i := 340) (by decide +kernel))) rfl
theorem w_341 : Cond.selects "BranchLayoutModel" ⟨"BranchLayoutModel", "label", "(I)I"⟩ ⟨"BranchLayoutModel", "label", "(I)I"⟩ ∈ zt := zt_in (List.mem_append_right _ (List.mem_of_getElem? (i := 341) (by decide +kernel))) rfl
theorem w_342 : Cond.code ⟨"BranchLayoutModel", "label", "(I)I"⟩ prog_9_method_8_code 2 (some FieldType.int) ∈ zt := zt_in (List.mem_append_right _ (List.mem_of_getElem? (i := 342) (by decide +kernel))) rfl
theorem w_343 : Cond.methodLink "BranchLayoutLaw" 39 ⟨"BranchLayoutModel", "go", "(III)Z"⟩ ∈ zt := zt_in (List.mem_append_right _ (List.mem_of_getElem? (i := 343) (by decide +kernel))) rfl
theorem w_344 : Cond.instanceMethod ⟨"BranchLayoutModel", "go", "(III)Z"⟩ ∈ zt := zt_in (List.mem_append_right _ (List.mem_of_getElem? (i := 344) (by decide +kernel))) rfl
theorem w_345 : Cond.selects "BranchLayoutModel" ⟨"BranchLayoutModel", "go", "(III)Z"⟩ ⟨"BranchLayoutModel", "go", "(III)Z"⟩ ∈ zt := zt_in (List.mem_append_right _ (List.mem_of_getElem? (i := 345) (by decide +kernel))) rfl
theorem w_346 : Cond.code ⟨"BranchLayoutModel", "go", "(III)Z"⟩ prog_9_method_9_code 6 (some FieldType.boolean) ∈ zt := zt_in (List.mem_append_right _ (List.mem_of_getElem? (i := 346) (by decide +kernel))) rfl
theorem w_347 : Cond.methodLink "BranchLayoutLaw" 44 ⟨"BranchLayoutModel", "relax", "()I"⟩ ∈ zt := zt_in (List.mem_append_right _ (List.mem_of_getElem? (i := 347) (by decide +kernel))) rfl
theorem w_348 : Cond.instanceMethod ⟨"BranchLayoutModel", "relax", "()I"⟩ ∈ zt := zt_in (List.mem_append_right _ (List.mem_of_getElem? (i := 348) (by decide +kernel))) rfl
theorem w_349 : Cond.selects "BranchLayoutModel" ⟨"BranchLayoutModel", "relax", "()I"⟩ ⟨"BranchLayoutModel", "relax", "()I"⟩ ∈ zt := zt_in (List.mem_append_right _ (List.mem_of_getElem? (i := 349) (by decide +kernel))) rfl
theorem w_350 : Cond.code ⟨"BranchLayoutModel", "relax", "()I"⟩ prog_9_method_12_code 4 (some FieldType.int) ∈ zt := zt_in (List.mem_append_right _ (List.mem_of_getElem? (i := 350) (by decide +kernel))) rfl
theorem w_351 : Cond.methodLink "BranchLayoutModel" 68 ⟨"BranchLayoutModel", "walk", "(I)V"⟩ ∈ zt := zt_in (List.mem_append_right _ (List.mem_of_getElem? (i := 351) (by decide +kernel))) rfl
theorem w_352 : Cond.privateMethod ⟨"BranchLayoutModel", "walk", "(I)V"⟩ ∈ lw_tbl := List.mem_append_right _ (List.mem_of_getElem? (i := 352) (by decide +kernel))
theorem w_353 : Cond.instanceMethod ⟨"BranchLayoutModel", "walk", "(I)V"⟩ ∈ zt := zt_in (List.mem_append_right _ (List.mem_of_getElem? (i := 353) (by decide +kernel))) rfl
theorem w_354 : Cond.code ⟨"BranchLayoutModel", "walk", "(I)V"⟩ prog_9_method_10_code 6 none ∈ zt := zt_in (List.mem_append_right _ (List.mem_of_getElem? (i := 354) (by decide +kernel))) rfl
theorem w_355 : Cond.methodLink "BranchLayoutModel" 72 ⟨"BranchLayoutModel", "distance", "(I)J"⟩ ∈ zt := zt_in (List.mem_append_right _ (List.mem_of_getElem? (i := 355) (by decide +kernel))) rfl
theorem w_356 : Cond.privateMethod ⟨"BranchLayoutModel", "distance", "(I)J"⟩ ∈ lw_tbl := List.mem_append_right _ (List.mem_of_getElem? (i := 356) (by decide +kernel))
theorem w_357 : Cond.instanceMethod ⟨"BranchLayoutModel", "distance", "(I)J"⟩ ∈ zt := zt_in (List.mem_append_right _ (List.mem_of_getElem? (i := 357) (by decide +kernel))) rfl
theorem w_358 : Cond.code ⟨"BranchLayoutModel", "distance", "(I)J"⟩ prog_9_method_11_code 4 (some FieldType.long) ∈ zt := zt_in (List.mem_append_right _ (List.mem_of_getElem? (i := 358) (by decide +kernel))) rfl
theorem w_359 : Cond.constantLong "BranchLayoutModel" 76 (-128) ∈ zt := zt_in (List.mem_append_right _ (List.mem_of_getElem? (i := 359) (by decide +kernel))) rfl
theorem w_360 : Cond.constantLong "BranchLayoutModel" 78 127 ∈ zt := zt_in (List.mem_append_right _ (List.mem_of_getElem? (i := 360) (by decide +kernel))) rfl
theorem w_361 : Cond.methodLink "BranchLayoutLaw" 48 ⟨"BranchLayoutModel", "statement", "(II)I"⟩ ∈ zt := zt_in (List.mem_append_right _ (List.mem_of_getElem? (i := 361) (by decide +kernel))) rfl
theorem w_362 : Cond.instanceMethod ⟨"BranchLayoutModel", "statement", "(II)I"⟩ ∈ zt := zt_in (List.mem_append_right _ (List.mem_of_getElem? (i := 362) (by decide +kernel))) rfl
theorem w_363 : Cond.selects "BranchLayoutModel" ⟨"BranchLayoutModel", "statement", "(II)I"⟩ ⟨"BranchLayoutModel", "statement", "(II)I"⟩ ∈ zt := zt_in (List.mem_append_right _ (List.mem_of_getElem? (i := 363) (by decide +kernel))) rfl
theorem w_364 : Cond.code ⟨"BranchLayoutModel", "statement", "(II)I"⟩ prog_9_method_13_code 3 (some FieldType.int) ∈ zt := zt_in (List.mem_append_right _ (List.mem_of_getElem? (i := 364) (by decide +kernel))) rfl
theorem w_365 : Cond.methodLink "BranchLayoutLaw" 52 ⟨"BranchLayoutModel", "place", "(I)I"⟩ ∈ zt := zt_in (List.mem_append_right _ (List.mem_of_getElem? (i := 365) (by decide +kernel))) rfl
theorem w_366 : Cond.instanceMethod ⟨"BranchLayoutModel", "place", "(I)I"⟩ ∈ zt := zt_in (List.mem_append_right _ (List.mem_of_getElem? (i := 366) (by decide +kernel))) rfl
theorem w_367 : Cond.selects "BranchLayoutModel" ⟨"BranchLayoutModel", "place", "(I)I"⟩ ⟨"BranchLayoutModel", "place", "(I)I"⟩ ∈ zt := zt_in (List.mem_append_right _ (List.mem_of_getElem? (i := 367) (by decide +kernel))) rfl
theorem w_368 : Cond.code ⟨"BranchLayoutModel", "place", "(I)I"⟩ prog_9_method_14_code 2 (some FieldType.int) ∈ zt := zt_in (List.mem_append_right _ (List.mem_of_getElem? (i := 368) (by decide +kernel))) rfl
theorem w_369 : Cond.methodLink "BranchLayoutLaw" 56 ⟨"BranchLayoutModel", "size", "(I)I"⟩ ∈ zt := zt_in (List.mem_append_right _ (List.mem_of_getElem? (i := 369) (by decide +kernel))) rfl
theorem w_370 : Cond.instanceMethod ⟨"BranchLayoutModel", "size", "(I)I"⟩ ∈ zt := zt_in (List.mem_append_right _ (List.mem_of_getElem? (i := 370) (by decide +kernel))) rfl
theorem w_371 : Cond.selects "BranchLayoutModel" ⟨"BranchLayoutModel", "size", "(I)I"⟩ ⟨"BranchLayoutModel", "size", "(I)I"⟩ ∈ zt := zt_in (List.mem_append_right _ (List.mem_of_getElem? (i := 371) (by decide +kernel))) rfl
theorem w_372 : Cond.code ⟨"BranchLayoutModel", "size", "(I)I"⟩ prog_9_method_15_code 2 (some FieldType.int) ∈ zt := zt_in (List.mem_append_right _ (List.mem_of_getElem? (i := 372) (by decide +kernel))) rfl
theorem w_373 : Cond.castable "BranchLayout$Branch" "BranchLayout$Branch" ∈ lw_tbl := List.mem_append_right _ (List.mem_of_getElem? (i := 373) (by decide +kernel))
theorem w_374 : Cond.castable "BranchLayout$Alignment" "BranchLayout$Statement" ∈ lw_tbl := List.mem_append_right _ (List.mem_of_getElem? (i := 374) (by decide +kernel))
theorem w_375 : Cond.castable "BranchLayout$Branch" "BranchLayout$Statement" ∈ lw_tbl := List.mem_append_right _ (List.mem_of_getElem? (i := 375) (by decide +kernel))
theorem w_376 : Cond.castable "BranchLayout$Bytes" "BranchLayout$Statement" ∈ lw_tbl := List.mem_append_right _ (List.mem_of_getElem? (i := 376) (by decide +kernel))
def T_Al : u_T := fun k => match k with
  | 0 => ("BranchLayout$Statement", "length", "I", false)
  | 1 => ("BranchLayout$Place", "section", "I", true)
  | 2 => ("BranchLayout$Place", "at", "I", false)
  | _ => ("BranchLayout$Alignment", "n", "I", true)
def ty_Al : Nat → FieldType := fun k => match k with
  | 0 => .int
  | 1 => .int
  | 2 => .int
  | _ => .int
theorem nm_Al : ∀ a, a < 4 → ∀ b, b < 4 → a ≠ b → (T_Al a).2.1 ≠ (T_Al b).2.1 := by decide +kernel
theorem ok_Al : ∀ k, k < 4 → parseFieldDescriptor (T_Al k).2.2.1 = some (ty_Al k) := by decide +kernel
theorem in_Al : ∀ w ∈ u_ws "BranchLayout$Alignment" T_Al 4, w ∈ zt := by decide +kernel
def T_Br : u_T := fun k => match k with
  | 0 => ("BranchLayout$Statement", "length", "I", false)
  | 1 => ("BranchLayout$Place", "section", "I", true)
  | 2 => ("BranchLayout$Place", "at", "I", false)
  | 3 => ("BranchLayout$Branch", "longLength", "I", true)
  | 4 => ("BranchLayout$Branch", "goal", "LBranchLayout$Place;", false)
  | 5 => ("BranchLayout$Branch", "more", "I", false)
  | 6 => ("BranchLayout$Branch", "isShort", "Z", false)
  | _ => ("BranchLayout$Branch", "distance", "I", false)
def ty_Br : Nat → FieldType := fun k => match k with
  | 0 => .int
  | 1 => .int
  | 2 => .int
  | 3 => .int
  | 4 => .object "BranchLayout$Place"
  | 5 => .int
  | 6 => .boolean
  | _ => .int
theorem nm_Br : ∀ a, a < 8 → ∀ b, b < 8 → a ≠ b → (T_Br a).2.1 ≠ (T_Br b).2.1 := by decide +kernel
theorem ok_Br : ∀ k, k < 8 → parseFieldDescriptor (T_Br k).2.2.1 = some (ty_Br k) := by decide +kernel
theorem in_Br : ∀ w ∈ u_ws "BranchLayout$Branch" T_Br 8, w ∈ zt := by decide +kernel
def T_By : u_T := fun k => match k with
  | 0 => ("BranchLayout$Statement", "length", "I", false)
  | 1 => ("BranchLayout$Place", "section", "I", true)
  | 2 => ("BranchLayout$Place", "at", "I", false)
  | _ => ("BranchLayout$Bytes", "n", "I", true)
def ty_By : Nat → FieldType := fun k => match k with
  | 0 => .int
  | 1 => .int
  | 2 => .int
  | _ => .int
theorem nm_By : ∀ a, a < 4 → ∀ b, b < 4 → a ≠ b → (T_By a).2.1 ≠ (T_By b).2.1 := by decide +kernel
theorem ok_By : ∀ k, k < 4 → parseFieldDescriptor (T_By k).2.2.1 = some (ty_By k) := by decide +kernel
theorem in_By : ∀ w ∈ u_ws "BranchLayout$Bytes" T_By 4, w ∈ zt := by decide +kernel
def T_La : u_T := fun k => match k with
  | 0 => ("BranchLayout$Place", "section", "I", true)
  | 1 => ("BranchLayout$Place", "at", "I", false)
  | _ => ("BranchLayout$Label", "next", "I", true)
def ty_La : Nat → FieldType := fun k => match k with
  | 0 => .int
  | 1 => .int
  | _ => .int
theorem nm_La : ∀ a, a < 3 → ∀ b, b < 3 → a ≠ b → (T_La a).2.1 ≠ (T_La b).2.1 := by decide +kernel
theorem ok_La : ∀ k, k < 3 → parseFieldDescriptor (T_La k).2.2.1 = some (ty_La k) := by decide +kernel
theorem in_La : ∀ w ∈ u_ws "BranchLayout$Label" T_La 3, w ∈ zt := by decide +kernel
def T_BL : u_T := fun k => match k with
  | 0 => ("BranchLayout", "statements", "[LBranchLayout$Statement;", true)
  | 1 => ("BranchLayout", "labels", "[LBranchLayout$Label;", true)
  | 2 => ("BranchLayout", "sizes", "[I", true)
  | 3 => ("BranchLayout", "statementCount", "I", false)
  | _ => ("BranchLayout", "labelCount", "I", false)
def ty_BL : Nat → FieldType := fun k => match k with
  | 0 => .array (.object "BranchLayout$Statement")
  | 1 => .array (.object "BranchLayout$Label")
  | 2 => .array .int
  | 3 => .int
  | _ => .int
theorem nm_BL : ∀ a, a < 5 → ∀ b, b < 5 → a ≠ b → (T_BL a).2.1 ≠ (T_BL b).2.1 := by decide +kernel
theorem ok_BL : ∀ k, k < 5 → parseFieldDescriptor (T_BL k).2.2.1 = some (ty_BL k) := by decide +kernel
theorem in_BL : ∀ w ∈ u_ws "BranchLayout" T_BL 5, w ∈ zt := by decide +kernel
def T_Mo : u_T := fun k => match k with
  | 0 => ("BranchLayoutModel", "thrown", "I", false)
  | 1 => ("BranchLayoutModel", "statements", "I", false)
  | 2 => ("BranchLayoutModel", "labels", "I", false)
  | 3 => ("BranchLayoutModel", "kind", "[I", true)
  | 4 => ("BranchLayoutModel", "section", "[I", true)
  | 5 => ("BranchLayoutModel", "amount", "[I", true)
  | 6 => ("BranchLayoutModel", "goal", "[I", true)
  | 7 => ("BranchLayoutModel", "more", "[I", true)
  | 8 => ("BranchLayoutModel", "labelSection", "[I", true)
  | 9 => ("BranchLayoutModel", "labelAhead", "[I", true)
  | 10 => ("BranchLayoutModel", "brief", "[Z", true)
  | 11 => ("BranchLayoutModel", "at", "[I", true)
  | 12 => ("BranchLayoutModel", "size", "[I", true)
  | 13 => ("BranchLayoutModel", "far", "[I", true)
  | 14 => ("BranchLayoutModel", "labelPlace", "[I", true)
  | 15 => ("BranchLayoutModel", "sectionSize", "[I", true)
  | _ => ("BranchLayoutModel", "laidShort", "[Z", true)
def ty_Mo : Nat → FieldType := fun k => match k with
  | 0 => .int
  | 1 => .int
  | 2 => .int
  | 3 => .array .int
  | 4 => .array .int
  | 5 => .array .int
  | 6 => .array .int
  | 7 => .array .int
  | 8 => .array .int
  | 9 => .array .int
  | 10 => .array .boolean
  | 11 => .array .int
  | 12 => .array .int
  | 13 => .array .int
  | 14 => .array .int
  | 15 => .array .int
  | _ => .array .boolean
theorem nm_Mo : ∀ a, a < 17 → ∀ b, b < 17 → a ≠ b → (T_Mo a).2.1 ≠ (T_Mo b).2.1 := by decide +kernel
theorem ok_Mo : ∀ k, k < 17 → parseFieldDescriptor (T_Mo k).2.2.1 = some (ty_Mo k) := by decide +kernel
theorem in_Mo : ∀ w ∈ u_ws "BranchLayoutModel" T_Mo 17, w ∈ zt := by decide +kernel
abbrev zcl : List vw_C := [("BranchLayout$Alignment", T_Al, 4), ("BranchLayout$Branch", T_Br, 8), ("BranchLayout$Bytes", T_By, 4), ("BranchLayout$Label", T_La, 3), ("BranchLayout", T_BL, 5), ("BranchLayoutModel", T_Mo, 17)]
end
section
theorem d_BL_init_0 : decode c_BL_init 0 = .ok (.aload_n 0, 1) := by decide +kernel
theorem d_BL_init_1 : decode c_BL_init 1 = .ok (.invokespecial 1, 3) := by decide +kernel
theorem d_BL_init_4 : decode c_BL_init 4 = .ok (.aload_n 0, 1) := by decide +kernel
theorem d_BL_init_5 : decode c_BL_init 5 = .ok (.sipush 4096, 3) := by decide +kernel
theorem d_BL_init_8 : decode c_BL_init 8 = .ok (.anewarray 9, 3) := by decide +kernel
theorem d_BL_init_11 : decode c_BL_init 11 = .ok (.putfield 11, 3) := by decide +kernel
theorem d_BL_init_14 : decode c_BL_init 14 = .ok (.aload_n 0, 1) := by decide +kernel
theorem d_BL_init_15 : decode c_BL_init 15 = .ok (.sipush 1024, 3) := by decide +kernel
theorem d_BL_init_18 : decode c_BL_init 18 = .ok (.anewarray 15, 3) := by decide +kernel
theorem d_BL_init_21 : decode c_BL_init 21 = .ok (.putfield 17, 3) := by decide +kernel
theorem d_BL_init_24 : decode c_BL_init 24 = .ok (.aload_n 0, 1) := by decide +kernel
theorem d_BL_init_25 : decode c_BL_init 25 = .ok (.iconst 4, 1) := by decide +kernel
theorem d_BL_init_26 : decode c_BL_init 26 = .ok (.newarray .int, 2) := by decide +kernel
theorem d_BL_init_28 : decode c_BL_init 28 = .ok (.putfield 21, 3) := by decide +kernel
theorem d_BL_init_31 : decode c_BL_init 31 = .ok (.return_, 1) := by decide +kernel
theorem d_Ob_init_0 : decode c_Ob_init 0 = .ok (.return_, 1) := by decide +kernel
theorem d_BL_clear_0 : decode c_BL_clear 0 = .ok (.aload_n 0, 1) := by decide +kernel
theorem d_BL_clear_1 : decode c_BL_clear 1 = .ok (.iconst 0, 1) := by decide +kernel
theorem d_BL_clear_2 : decode c_BL_clear 2 = .ok (.putfield 25, 3) := by decide +kernel
theorem d_BL_clear_5 : decode c_BL_clear 5 = .ok (.aload_n 0, 1) := by decide +kernel
theorem d_BL_clear_6 : decode c_BL_clear 6 = .ok (.iconst 0, 1) := by decide +kernel
theorem d_BL_clear_7 : decode c_BL_clear 7 = .ok (.putfield 29, 3) := by decide +kernel
theorem d_BL_clear_10 : decode c_BL_clear 10 = .ok (.aload_n 0, 1) := by decide +kernel
theorem d_BL_clear_11 : decode c_BL_clear 11 = .ok (.getfield 21, 3) := by decide +kernel
theorem d_BL_clear_14 : decode c_BL_clear 14 = .ok (.iconst 0, 1) := by decide +kernel
theorem d_BL_clear_15 : decode c_BL_clear 15 = .ok (.invokestatic 32, 3) := by decide +kernel
theorem d_BL_clear_18 : decode c_BL_clear 18 = .ok (.return_, 1) := by decide +kernel
theorem d_Ar_fill_0 : decode c_Ar_fill 0 = .ok (.iconst 0, 1) := by decide +kernel
theorem d_Ar_fill_1 : decode c_Ar_fill 1 = .ok (.istore_n 2, 1) := by decide +kernel
theorem d_Ar_fill_2 : decode c_Ar_fill 2 = .ok (.aload_n 0, 1) := by decide +kernel
theorem d_Ar_fill_3 : decode c_Ar_fill 3 = .ok (.arraylength, 1) := by decide +kernel
theorem d_Ar_fill_4 : decode c_Ar_fill 4 = .ok (.istore_n 3, 1) := by decide +kernel
theorem d_Ar_fill_5 : decode c_Ar_fill 5 = .ok (.iload_n 2, 1) := by decide +kernel
theorem d_Ar_fill_6 : decode c_Ar_fill 6 = .ok (.iload_n 3, 1) := by decide +kernel
theorem d_Ar_fill_7 : decode c_Ar_fill 7 = .ok (.if_icmp .ge 13, 3) := by decide +kernel
theorem d_Ar_fill_10 : decode c_Ar_fill 10 = .ok (.aload_n 0, 1) := by decide +kernel
theorem d_Ar_fill_11 : decode c_Ar_fill 11 = .ok (.iload_n 2, 1) := by decide +kernel
theorem d_Ar_fill_12 : decode c_Ar_fill 12 = .ok (.iload_n 1, 1) := by decide +kernel
theorem d_Ar_fill_13 : decode c_Ar_fill 13 = .ok (.iastore, 1) := by decide +kernel
theorem d_Ar_fill_14 : decode c_Ar_fill 14 = .ok (.iinc 2 1, 3) := by decide +kernel
theorem d_Ar_fill_17 : decode c_Ar_fill 17 = .ok (.goto (-12), 3) := by decide +kernel
theorem d_Ar_fill_20 : decode c_Ar_fill 20 = .ok (.return_, 1) := by decide +kernel
theorem d_BL_bytes_0 : decode c_BL_bytes 0 = .ok (.iload_n 1, 1) := by decide +kernel
theorem d_BL_bytes_1 : decode c_BL_bytes 1 = .ok (.invokestatic 38, 3) := by decide +kernel
theorem d_BL_bytes_4 : decode c_BL_bytes 4 = .ok (.ifCond .eq 13, 3) := by decide +kernel
theorem d_BL_bytes_7 : decode c_BL_bytes 7 = .ok (.iload_n 2, 1) := by decide +kernel
theorem d_BL_bytes_8 : decode c_BL_bytes 8 = .ok (.ifCond .lt 9, 3) := by decide +kernel
theorem d_BL_bytes_11 : decode c_BL_bytes 11 = .ok (.iload_n 2, 1) := by decide +kernel
theorem d_BL_bytes_12 : decode c_BL_bytes 12 = .ok (.ldc 42, 2) := by decide +kernel
theorem d_BL_bytes_14 : decode c_BL_bytes 14 = .ok (.if_icmp .le 5, 3) := by decide +kernel
theorem d_BL_bytes_17 : decode c_BL_bytes 17 = .ok (.iconst (-1), 1) := by decide +kernel
theorem d_BL_bytes_18 : decode c_BL_bytes 18 = .ok (.ireturn, 1) := by decide +kernel
theorem d_BL_bytes_19 : decode c_BL_bytes 19 = .ok (.aload_n 0, 1) := by decide +kernel
theorem d_BL_bytes_20 : decode c_BL_bytes 20 = .ok (.new 43, 3) := by decide +kernel
theorem d_BL_bytes_23 : decode c_BL_bytes 23 = .ok (.dup, 1) := by decide +kernel
theorem d_BL_bytes_24 : decode c_BL_bytes 24 = .ok (.iload_n 1, 1) := by decide +kernel
theorem d_BL_bytes_25 : decode c_BL_bytes 25 = .ok (.iload_n 2, 1) := by decide +kernel
theorem d_BL_bytes_26 : decode c_BL_bytes 26 = .ok (.invokespecial 45, 3) := by decide +kernel
theorem d_BL_bytes_29 : decode c_BL_bytes 29 = .ok (.invokevirtual 48, 3) := by decide +kernel
theorem d_BL_bytes_32 : decode c_BL_bytes 32 = .ok (.ireturn, 1) := by decide +kernel
theorem d_BL_isSection_0 : decode c_BL_isSection 0 = .ok (.iload_n 0, 1) := by decide +kernel
theorem d_BL_isSection_1 : decode c_BL_isSection 1 = .ok (.ifCond .lt 12, 3) := by decide +kernel
theorem d_BL_isSection_4 : decode c_BL_isSection 4 = .ok (.iload_n 0, 1) := by decide +kernel
theorem d_BL_isSection_5 : decode c_BL_isSection 5 = .ok (.iconst 4, 1) := by decide +kernel
theorem d_BL_isSection_6 : decode c_BL_isSection 6 = .ok (.if_icmp .ge 7, 3) := by decide +kernel
theorem d_BL_isSection_9 : decode c_BL_isSection 9 = .ok (.iconst 1, 1) := by decide +kernel
theorem d_BL_isSection_10 : decode c_BL_isSection 10 = .ok (.goto 4, 3) := by decide +kernel
theorem d_BL_isSection_13 : decode c_BL_isSection 13 = .ok (.iconst 0, 1) := by decide +kernel
theorem d_BL_isSection_14 : decode c_BL_isSection 14 = .ok (.ireturn, 1) := by decide +kernel
theorem d_By_init_0 : decode c_By_init 0 = .ok (.aload_n 0, 1) := by decide +kernel
theorem d_By_init_1 : decode c_By_init 1 = .ok (.iload_n 1, 1) := by decide +kernel
theorem d_By_init_2 : decode c_By_init 2 = .ok (.invokespecial 1, 3) := by decide +kernel
theorem d_By_init_5 : decode c_By_init 5 = .ok (.aload_n 0, 1) := by decide +kernel
theorem d_By_init_6 : decode c_By_init 6 = .ok (.iload_n 2, 1) := by decide +kernel
theorem d_By_init_7 : decode c_By_init 7 = .ok (.putfield 7, 3) := by decide +kernel
theorem d_By_init_10 : decode c_By_init 10 = .ok (.return_, 1) := by decide +kernel
theorem d_St_init_0 : decode c_St_init 0 = .ok (.aload_n 0, 1) := by decide +kernel
theorem d_St_init_1 : decode c_St_init 1 = .ok (.iload_n 1, 1) := by decide +kernel
theorem d_St_init_2 : decode c_St_init 2 = .ok (.invokespecial 3, 3) := by decide +kernel
theorem d_St_init_5 : decode c_St_init 5 = .ok (.return_, 1) := by decide +kernel
theorem d_Pl_init_0 : decode c_Pl_init 0 = .ok (.aload_n 0, 1) := by decide +kernel
theorem d_Pl_init_1 : decode c_Pl_init 1 = .ok (.invokespecial 1, 3) := by decide +kernel
theorem d_Pl_init_4 : decode c_Pl_init 4 = .ok (.aload_n 0, 1) := by decide +kernel
theorem d_Pl_init_5 : decode c_Pl_init 5 = .ok (.iload_n 1, 1) := by decide +kernel
theorem d_Pl_init_6 : decode c_Pl_init 6 = .ok (.putfield 7, 3) := by decide +kernel
theorem d_Pl_init_9 : decode c_Pl_init 9 = .ok (.return_, 1) := by decide +kernel
theorem d_BL_addStatement_0 : decode c_BL_addStatement 0 = .ok (.aload_n 0, 1) := by decide +kernel
theorem d_BL_addStatement_1 : decode c_BL_addStatement 1 = .ok (.getfield 25, 3) := by decide +kernel
theorem d_BL_addStatement_4 : decode c_BL_addStatement 4 = .ok (.aload_n 0, 1) := by decide +kernel
theorem d_BL_addStatement_5 : decode c_BL_addStatement 5 = .ok (.getfield 11, 3) := by decide +kernel
theorem d_BL_addStatement_8 : decode c_BL_addStatement 8 = .ok (.arraylength, 1) := by decide +kernel
theorem d_BL_addStatement_9 : decode c_BL_addStatement 9 = .ok (.if_icmp .lt 5, 3) := by decide +kernel
theorem d_BL_addStatement_12 : decode c_BL_addStatement 12 = .ok (.iconst (-1), 1) := by decide +kernel
theorem d_BL_addStatement_13 : decode c_BL_addStatement 13 = .ok (.ireturn, 1) := by decide +kernel
theorem d_BL_addStatement_14 : decode c_BL_addStatement 14 = .ok (.aload_n 0, 1) := by decide +kernel
theorem d_BL_addStatement_15 : decode c_BL_addStatement 15 = .ok (.getfield 11, 3) := by decide +kernel
theorem d_BL_addStatement_18 : decode c_BL_addStatement 18 = .ok (.aload_n 0, 1) := by decide +kernel
theorem d_BL_addStatement_19 : decode c_BL_addStatement 19 = .ok (.getfield 25, 3) := by decide +kernel
theorem d_BL_addStatement_22 : decode c_BL_addStatement 22 = .ok (.aload_n 1, 1) := by decide +kernel
theorem d_BL_addStatement_23 : decode c_BL_addStatement 23 = .ok (.aastore, 1) := by decide +kernel
theorem d_BL_addStatement_24 : decode c_BL_addStatement 24 = .ok (.aload_n 0, 1) := by decide +kernel
theorem d_BL_addStatement_25 : decode c_BL_addStatement 25 = .ok (.dup, 1) := by decide +kernel
theorem d_BL_addStatement_26 : decode c_BL_addStatement 26 = .ok (.getfield 25, 3) := by decide +kernel
theorem d_BL_addStatement_29 : decode c_BL_addStatement 29 = .ok (.dup_x1, 1) := by decide +kernel
theorem d_BL_addStatement_30 : decode c_BL_addStatement 30 = .ok (.iconst 1, 1) := by decide +kernel
theorem d_BL_addStatement_31 : decode c_BL_addStatement 31 = .ok (.iadd, 1) := by decide +kernel
theorem d_BL_addStatement_32 : decode c_BL_addStatement 32 = .ok (.putfield 25, 3) := by decide +kernel
theorem d_BL_addStatement_35 : decode c_BL_addStatement 35 = .ok (.ireturn, 1) := by decide +kernel
theorem d_BL_align_0 : decode c_BL_align 0 = .ok (.iload_n 1, 1) := by decide +kernel
theorem d_BL_align_1 : decode c_BL_align 1 = .ok (.invokestatic 38, 3) := by decide +kernel
theorem d_BL_align_4 : decode c_BL_align 4 = .ok (.ifCond .eq 10, 3) := by decide +kernel
theorem d_BL_align_7 : decode c_BL_align 7 = .ok (.iload_n 2, 1) := by decide +kernel
theorem d_BL_align_8 : decode c_BL_align 8 = .ok (.invokestatic 52, 3) := by decide +kernel
theorem d_BL_align_11 : decode c_BL_align 11 = .ok (.ifCond .ne 5, 3) := by decide +kernel
theorem d_BL_align_14 : decode c_BL_align 14 = .ok (.iconst (-1), 1) := by decide +kernel
theorem d_BL_align_15 : decode c_BL_align 15 = .ok (.ireturn, 1) := by decide +kernel
theorem d_BL_align_16 : decode c_BL_align 16 = .ok (.aload_n 0, 1) := by decide +kernel
theorem d_BL_align_17 : decode c_BL_align 17 = .ok (.new 55, 3) := by decide +kernel
theorem d_BL_align_20 : decode c_BL_align 20 = .ok (.dup, 1) := by decide +kernel
theorem d_BL_align_21 : decode c_BL_align 21 = .ok (.iload_n 1, 1) := by decide +kernel
theorem d_BL_align_22 : decode c_BL_align 22 = .ok (.iload_n 2, 1) := by decide +kernel
theorem d_BL_align_23 : decode c_BL_align 23 = .ok (.invokespecial 57, 3) := by decide +kernel
theorem d_BL_align_26 : decode c_BL_align 26 = .ok (.invokevirtual 48, 3) := by decide +kernel
theorem d_BL_align_29 : decode c_BL_align 29 = .ok (.ireturn, 1) := by decide +kernel
theorem d_BL_isAlignment_0 : decode c_BL_isAlignment 0 = .ok (.iload_n 0, 1) := by decide +kernel
theorem d_BL_isAlignment_1 : decode c_BL_isAlignment 1 = .ok (.iconst 1, 1) := by decide +kernel
theorem d_BL_isAlignment_2 : decode c_BL_isAlignment 2 = .ok (.if_icmp .lt 22, 3) := by decide +kernel
theorem d_BL_isAlignment_5 : decode c_BL_isAlignment 5 = .ok (.iload_n 0, 1) := by decide +kernel
theorem d_BL_isAlignment_6 : decode c_BL_isAlignment 6 = .ok (.sipush 4096, 3) := by decide +kernel
theorem d_BL_isAlignment_9 : decode c_BL_isAlignment 9 = .ok (.if_icmp .gt 15, 3) := by decide +kernel
theorem d_BL_isAlignment_12 : decode c_BL_isAlignment 12 = .ok (.iload_n 0, 1) := by decide +kernel
theorem d_BL_isAlignment_13 : decode c_BL_isAlignment 13 = .ok (.invokestatic 108, 3) := by decide +kernel
theorem d_BL_isAlignment_16 : decode c_BL_isAlignment 16 = .ok (.iconst 1, 1) := by decide +kernel
theorem d_BL_isAlignment_17 : decode c_BL_isAlignment 17 = .ok (.if_icmp .ne 7, 3) := by decide +kernel
theorem d_BL_isAlignment_20 : decode c_BL_isAlignment 20 = .ok (.iconst 1, 1) := by decide +kernel
theorem d_BL_isAlignment_21 : decode c_BL_isAlignment 21 = .ok (.goto 4, 3) := by decide +kernel
theorem d_BL_isAlignment_24 : decode c_BL_isAlignment 24 = .ok (.iconst 0, 1) := by decide +kernel
theorem d_BL_isAlignment_25 : decode c_BL_isAlignment 25 = .ok (.ireturn, 1) := by decide +kernel
theorem d_In_bitCount_0 : decode c_In_bitCount 0 = .ok (.iload_n 0, 1) := by decide +kernel
theorem d_In_bitCount_1 : decode c_In_bitCount 1 = .ok (.iload_n 0, 1) := by decide +kernel
theorem d_In_bitCount_2 : decode c_In_bitCount 2 = .ok (.iconst 1, 1) := by decide +kernel
theorem d_In_bitCount_3 : decode c_In_bitCount 3 = .ok (.iushr, 1) := by decide +kernel
theorem d_In_bitCount_4 : decode c_In_bitCount 4 = .ok (.ldc_w 265, 3) := by decide +kernel
theorem d_In_bitCount_7 : decode c_In_bitCount 7 = .ok (.iand, 1) := by decide +kernel
theorem d_In_bitCount_8 : decode c_In_bitCount 8 = .ok (.isub, 1) := by decide +kernel
theorem d_In_bitCount_9 : decode c_In_bitCount 9 = .ok (.istore_n 0, 1) := by decide +kernel
theorem d_In_bitCount_10 : decode c_In_bitCount 10 = .ok (.iload_n 0, 1) := by decide +kernel
theorem d_In_bitCount_11 : decode c_In_bitCount 11 = .ok (.ldc_w 266, 3) := by decide +kernel
theorem d_In_bitCount_14 : decode c_In_bitCount 14 = .ok (.iand, 1) := by decide +kernel
theorem d_In_bitCount_15 : decode c_In_bitCount 15 = .ok (.iload_n 0, 1) := by decide +kernel
theorem d_In_bitCount_16 : decode c_In_bitCount 16 = .ok (.iconst 2, 1) := by decide +kernel
theorem d_In_bitCount_17 : decode c_In_bitCount 17 = .ok (.iushr, 1) := by decide +kernel
theorem d_In_bitCount_18 : decode c_In_bitCount 18 = .ok (.ldc_w 266, 3) := by decide +kernel
theorem d_In_bitCount_21 : decode c_In_bitCount 21 = .ok (.iand, 1) := by decide +kernel
theorem d_In_bitCount_22 : decode c_In_bitCount 22 = .ok (.iadd, 1) := by decide +kernel
theorem d_In_bitCount_23 : decode c_In_bitCount 23 = .ok (.istore_n 0, 1) := by decide +kernel
theorem d_In_bitCount_24 : decode c_In_bitCount 24 = .ok (.iload_n 0, 1) := by decide +kernel
theorem d_In_bitCount_25 : decode c_In_bitCount 25 = .ok (.iload_n 0, 1) := by decide +kernel
theorem d_In_bitCount_26 : decode c_In_bitCount 26 = .ok (.iconst 4, 1) := by decide +kernel
theorem d_In_bitCount_27 : decode c_In_bitCount 27 = .ok (.iushr, 1) := by decide +kernel
theorem d_In_bitCount_28 : decode c_In_bitCount 28 = .ok (.iadd, 1) := by decide +kernel
theorem d_In_bitCount_29 : decode c_In_bitCount 29 = .ok (.ldc_w 267, 3) := by decide +kernel
theorem d_In_bitCount_32 : decode c_In_bitCount 32 = .ok (.iand, 1) := by decide +kernel
theorem d_In_bitCount_33 : decode c_In_bitCount 33 = .ok (.istore_n 0, 1) := by decide +kernel
theorem d_In_bitCount_34 : decode c_In_bitCount 34 = .ok (.iload_n 0, 1) := by decide +kernel
theorem d_In_bitCount_35 : decode c_In_bitCount 35 = .ok (.iload_n 0, 1) := by decide +kernel
theorem d_In_bitCount_36 : decode c_In_bitCount 36 = .ok (.bipush 8, 2) := by decide +kernel
theorem d_In_bitCount_38 : decode c_In_bitCount 38 = .ok (.iushr, 1) := by decide +kernel
theorem d_In_bitCount_39 : decode c_In_bitCount 39 = .ok (.iadd, 1) := by decide +kernel
theorem d_In_bitCount_40 : decode c_In_bitCount 40 = .ok (.istore_n 0, 1) := by decide +kernel
theorem d_In_bitCount_41 : decode c_In_bitCount 41 = .ok (.iload_n 0, 1) := by decide +kernel
theorem d_In_bitCount_42 : decode c_In_bitCount 42 = .ok (.iload_n 0, 1) := by decide +kernel
theorem d_In_bitCount_43 : decode c_In_bitCount 43 = .ok (.bipush 16, 2) := by decide +kernel
theorem d_In_bitCount_45 : decode c_In_bitCount 45 = .ok (.iushr, 1) := by decide +kernel
theorem d_In_bitCount_46 : decode c_In_bitCount 46 = .ok (.iadd, 1) := by decide +kernel
theorem d_In_bitCount_47 : decode c_In_bitCount 47 = .ok (.istore_n 0, 1) := by decide +kernel
theorem d_In_bitCount_48 : decode c_In_bitCount 48 = .ok (.iload_n 0, 1) := by decide +kernel
theorem d_In_bitCount_49 : decode c_In_bitCount 49 = .ok (.bipush 63, 2) := by decide +kernel
theorem d_In_bitCount_51 : decode c_In_bitCount 51 = .ok (.iand, 1) := by decide +kernel
theorem d_In_bitCount_52 : decode c_In_bitCount 52 = .ok (.ireturn, 1) := by decide +kernel
theorem d_Al_init_0 : decode c_Al_init 0 = .ok (.aload_n 0, 1) := by decide +kernel
theorem d_Al_init_1 : decode c_Al_init 1 = .ok (.iload_n 1, 1) := by decide +kernel
theorem d_Al_init_2 : decode c_Al_init 2 = .ok (.invokespecial 1, 3) := by decide +kernel
theorem d_Al_init_5 : decode c_Al_init 5 = .ok (.aload_n 0, 1) := by decide +kernel
theorem d_Al_init_6 : decode c_Al_init 6 = .ok (.iload_n 2, 1) := by decide +kernel
theorem d_Al_init_7 : decode c_Al_init 7 = .ok (.putfield 7, 3) := by decide +kernel
theorem d_Al_init_10 : decode c_Al_init 10 = .ok (.return_, 1) := by decide +kernel
theorem d_BL_branch_0 : decode c_BL_branch 0 = .ok (.iload_n 1, 1) := by decide +kernel
theorem d_BL_branch_1 : decode c_BL_branch 1 = .ok (.invokestatic 38, 3) := by decide +kernel
theorem d_BL_branch_4 : decode c_BL_branch 4 = .ok (.ifCond .eq 14, 3) := by decide +kernel
theorem d_BL_branch_7 : decode c_BL_branch 7 = .ok (.iload_n 2, 1) := by decide +kernel
theorem d_BL_branch_8 : decode c_BL_branch 8 = .ok (.iconst 5, 1) := by decide +kernel
theorem d_BL_branch_9 : decode c_BL_branch 9 = .ok (.if_icmp .eq 11, 3) := by decide +kernel
theorem d_BL_branch_12 : decode c_BL_branch 12 = .ok (.iload_n 2, 1) := by decide +kernel
theorem d_BL_branch_13 : decode c_BL_branch 13 = .ok (.bipush 6, 2) := by decide +kernel
theorem d_BL_branch_15 : decode c_BL_branch 15 = .ok (.if_icmp .eq 5, 3) := by decide +kernel
theorem d_BL_branch_18 : decode c_BL_branch 18 = .ok (.iconst (-1), 1) := by decide +kernel
theorem d_BL_branch_19 : decode c_BL_branch 19 = .ok (.ireturn, 1) := by decide +kernel
theorem d_BL_branch_20 : decode c_BL_branch 20 = .ok (.aload_n 0, 1) := by decide +kernel
theorem d_BL_branch_21 : decode c_BL_branch 21 = .ok (.new 58, 3) := by decide +kernel
theorem d_BL_branch_24 : decode c_BL_branch 24 = .ok (.dup, 1) := by decide +kernel
theorem d_BL_branch_25 : decode c_BL_branch 25 = .ok (.iload_n 1, 1) := by decide +kernel
theorem d_BL_branch_26 : decode c_BL_branch 26 = .ok (.iload_n 2, 1) := by decide +kernel
theorem d_BL_branch_27 : decode c_BL_branch 27 = .ok (.invokespecial 60, 3) := by decide +kernel
theorem d_BL_branch_30 : decode c_BL_branch 30 = .ok (.invokevirtual 48, 3) := by decide +kernel
theorem d_BL_branch_33 : decode c_BL_branch 33 = .ok (.ireturn, 1) := by decide +kernel
theorem d_Br_init_0 : decode c_Br_init 0 = .ok (.aload_n 0, 1) := by decide +kernel
theorem d_Br_init_1 : decode c_Br_init 1 = .ok (.iload_n 1, 1) := by decide +kernel
theorem d_Br_init_2 : decode c_Br_init 2 = .ok (.invokespecial 3, 3) := by decide +kernel
theorem d_Br_init_5 : decode c_Br_init 5 = .ok (.aload_n 0, 1) := by decide +kernel
theorem d_Br_init_6 : decode c_Br_init 6 = .ok (.iload_n 2, 1) := by decide +kernel
theorem d_Br_init_7 : decode c_Br_init 7 = .ok (.putfield 9, 3) := by decide +kernel
theorem d_Br_init_10 : decode c_Br_init 10 = .ok (.return_, 1) := by decide +kernel
theorem d_BL_label_0 : decode c_BL_label 0 = .ok (.iload_n 1, 1) := by decide +kernel
theorem d_BL_label_1 : decode c_BL_label 1 = .ok (.invokestatic 38, 3) := by decide +kernel
theorem d_BL_label_4 : decode c_BL_label 4 = .ok (.ifCond .eq 15, 3) := by decide +kernel
theorem d_BL_label_7 : decode c_BL_label 7 = .ok (.aload_n 0, 1) := by decide +kernel
theorem d_BL_label_8 : decode c_BL_label 8 = .ok (.getfield 29, 3) := by decide +kernel
theorem d_BL_label_11 : decode c_BL_label 11 = .ok (.aload_n 0, 1) := by decide +kernel
theorem d_BL_label_12 : decode c_BL_label 12 = .ok (.getfield 17, 3) := by decide +kernel
theorem d_BL_label_15 : decode c_BL_label 15 = .ok (.arraylength, 1) := by decide +kernel
theorem d_BL_label_16 : decode c_BL_label 16 = .ok (.if_icmp .lt 5, 3) := by decide +kernel
theorem d_BL_label_19 : decode c_BL_label 19 = .ok (.iconst (-1), 1) := by decide +kernel
theorem d_BL_label_20 : decode c_BL_label 20 = .ok (.ireturn, 1) := by decide +kernel
theorem d_BL_label_21 : decode c_BL_label 21 = .ok (.aload_n 0, 1) := by decide +kernel
theorem d_BL_label_22 : decode c_BL_label 22 = .ok (.getfield 17, 3) := by decide +kernel
theorem d_BL_label_25 : decode c_BL_label 25 = .ok (.aload_n 0, 1) := by decide +kernel
theorem d_BL_label_26 : decode c_BL_label 26 = .ok (.getfield 29, 3) := by decide +kernel
theorem d_BL_label_29 : decode c_BL_label 29 = .ok (.new 15, 3) := by decide +kernel
theorem d_BL_label_32 : decode c_BL_label 32 = .ok (.dup, 1) := by decide +kernel
theorem d_BL_label_33 : decode c_BL_label 33 = .ok (.iload_n 1, 1) := by decide +kernel
theorem d_BL_label_34 : decode c_BL_label 34 = .ok (.aload_n 0, 1) := by decide +kernel
theorem d_BL_label_35 : decode c_BL_label 35 = .ok (.getfield 25, 3) := by decide +kernel
theorem d_BL_label_38 : decode c_BL_label 38 = .ok (.invokespecial 61, 3) := by decide +kernel
theorem d_BL_label_41 : decode c_BL_label 41 = .ok (.aastore, 1) := by decide +kernel
theorem d_BL_label_42 : decode c_BL_label 42 = .ok (.aload_n 0, 1) := by decide +kernel
theorem d_BL_label_43 : decode c_BL_label 43 = .ok (.dup, 1) := by decide +kernel
theorem d_BL_label_44 : decode c_BL_label 44 = .ok (.getfield 29, 3) := by decide +kernel
theorem d_BL_label_47 : decode c_BL_label 47 = .ok (.dup_x1, 1) := by decide +kernel
theorem d_BL_label_48 : decode c_BL_label 48 = .ok (.iconst 1, 1) := by decide +kernel
theorem d_BL_label_49 : decode c_BL_label 49 = .ok (.iadd, 1) := by decide +kernel
theorem d_BL_label_50 : decode c_BL_label 50 = .ok (.putfield 29, 3) := by decide +kernel
theorem d_BL_label_53 : decode c_BL_label 53 = .ok (.ireturn, 1) := by decide +kernel
theorem d_La_init_0 : decode c_La_init 0 = .ok (.aload_n 0, 1) := by decide +kernel
theorem d_La_init_1 : decode c_La_init 1 = .ok (.iload_n 1, 1) := by decide +kernel
theorem d_La_init_2 : decode c_La_init 2 = .ok (.invokespecial 1, 3) := by decide +kernel
theorem d_La_init_5 : decode c_La_init 5 = .ok (.aload_n 0, 1) := by decide +kernel
theorem d_La_init_6 : decode c_La_init 6 = .ok (.iload_n 2, 1) := by decide +kernel
theorem d_La_init_7 : decode c_La_init 7 = .ok (.putfield 7, 3) := by decide +kernel
theorem d_La_init_10 : decode c_La_init 10 = .ok (.return_, 1) := by decide +kernel
theorem d_BL_go_0 : decode c_BL_go 0 = .ok (.aload_n 0, 1) := by decide +kernel
theorem d_BL_go_1 : decode c_BL_go 1 = .ok (.iload_n 1, 1) := by decide +kernel
theorem d_BL_go_2 : decode c_BL_go 2 = .ok (.invokevirtual 62, 3) := by decide +kernel
theorem d_BL_go_5 : decode c_BL_go 5 = .ok (.astore 5, 2) := by decide +kernel
theorem d_BL_go_7 : decode c_BL_go 7 = .ok (.aload 5, 2) := by decide +kernel
theorem d_BL_go_9 : decode c_BL_go 9 = .ok (.instanceof 58, 3) := by decide +kernel
theorem d_BL_go_12 : decode c_BL_go 12 = .ok (.ifCond .eq 13, 3) := by decide +kernel
theorem d_BL_go_15 : decode c_BL_go 15 = .ok (.aload 5, 2) := by decide +kernel
theorem d_BL_go_17 : decode c_BL_go 17 = .ok (.checkcast 58, 3) := by decide +kernel
theorem d_BL_go_20 : decode c_BL_go 20 = .ok (.astore 4, 2) := by decide +kernel
theorem d_BL_go_22 : decode c_BL_go 22 = .ok (.goto 5, 3) := by decide +kernel
theorem d_BL_go_25 : decode c_BL_go 25 = .ok (.iconst 0, 1) := by decide +kernel
theorem d_BL_go_26 : decode c_BL_go 26 = .ok (.ireturn, 1) := by decide +kernel
theorem d_BL_go_27 : decode c_BL_go 27 = .ok (.aload_n 0, 1) := by decide +kernel
theorem d_BL_go_28 : decode c_BL_go 28 = .ok (.iload_n 2, 1) := by decide +kernel
theorem d_BL_go_29 : decode c_BL_go 29 = .ok (.invokevirtual 66, 3) := by decide +kernel
theorem d_BL_go_32 : decode c_BL_go 32 = .ok (.astore 5, 2) := by decide +kernel
theorem d_BL_go_34 : decode c_BL_go 34 = .ok (.aload 5, 2) := by decide +kernel
theorem d_BL_go_36 : decode c_BL_go 36 = .ok (.ifnull 16, 3) := by decide +kernel
theorem d_BL_go_39 : decode c_BL_go 39 = .ok (.aload 5, 2) := by decide +kernel
theorem d_BL_go_41 : decode c_BL_go 41 = .ok (.getfield 70, 3) := by decide +kernel
theorem d_BL_go_44 : decode c_BL_go 44 = .ok (.aload 4, 2) := by decide +kernel
theorem d_BL_go_46 : decode c_BL_go 46 = .ok (.getfield 75, 3) := by decide +kernel
theorem d_BL_go_49 : decode c_BL_go 49 = .ok (.if_icmp .eq 5, 3) := by decide +kernel
theorem d_BL_go_52 : decode c_BL_go 52 = .ok (.iconst 0, 1) := by decide +kernel
theorem d_BL_go_53 : decode c_BL_go 53 = .ok (.ireturn, 1) := by decide +kernel
theorem d_BL_go_54 : decode c_BL_go 54 = .ok (.aload 4, 2) := by decide +kernel
theorem d_BL_go_56 : decode c_BL_go 56 = .ok (.aload 5, 2) := by decide +kernel
theorem d_BL_go_58 : decode c_BL_go 58 = .ok (.putfield 76, 3) := by decide +kernel
theorem d_BL_go_61 : decode c_BL_go 61 = .ok (.aload 4, 2) := by decide +kernel
theorem d_BL_go_63 : decode c_BL_go 63 = .ok (.iload_n 3, 1) := by decide +kernel
theorem d_BL_go_64 : decode c_BL_go 64 = .ok (.putfield 80, 3) := by decide +kernel
theorem d_BL_go_67 : decode c_BL_go 67 = .ok (.iconst 1, 1) := by decide +kernel
theorem d_BL_go_68 : decode c_BL_go 68 = .ok (.ireturn, 1) := by decide +kernel
theorem d_BL_statementNumbered_0 : decode c_BL_statementNumbered 0 = .ok (.iload_n 1, 1) := by decide +kernel
theorem d_BL_statementNumbered_1 : decode c_BL_statementNumbered 1 = .ok (.ifCond .lt 20, 3) := by decide +kernel
theorem d_BL_statementNumbered_4 : decode c_BL_statementNumbered 4 = .ok (.iload_n 1, 1) := by decide +kernel
theorem d_BL_statementNumbered_5 : decode c_BL_statementNumbered 5 = .ok (.aload_n 0, 1) := by decide +kernel
theorem d_BL_statementNumbered_6 : decode c_BL_statementNumbered 6 = .ok (.getfield 25, 3) := by decide +kernel
theorem d_BL_statementNumbered_9 : decode c_BL_statementNumbered 9 = .ok (.if_icmp .ge 12, 3) := by decide +kernel
theorem d_BL_statementNumbered_12 : decode c_BL_statementNumbered 12 = .ok (.aload_n 0, 1) := by decide +kernel
theorem d_BL_statementNumbered_13 : decode c_BL_statementNumbered 13 = .ok (.getfield 11, 3) := by decide +kernel
theorem d_BL_statementNumbered_16 : decode c_BL_statementNumbered 16 = .ok (.iload_n 1, 1) := by decide +kernel
theorem d_BL_statementNumbered_17 : decode c_BL_statementNumbered 17 = .ok (.aaload, 1) := by decide +kernel
theorem d_BL_statementNumbered_18 : decode c_BL_statementNumbered 18 = .ok (.goto 4, 3) := by decide +kernel
theorem d_BL_statementNumbered_21 : decode c_BL_statementNumbered 21 = .ok (.aconst_null, 1) := by decide +kernel
theorem d_BL_statementNumbered_22 : decode c_BL_statementNumbered 22 = .ok (.areturn, 1) := by decide +kernel
theorem d_BL_placeNamed_0 : decode c_BL_placeNamed 0 = .ok (.iload_n 1, 1) := by decide +kernel
theorem d_BL_placeNamed_1 : decode c_BL_placeNamed 1 = .ok (.ifCond .lt 11, 3) := by decide +kernel
theorem d_BL_placeNamed_4 : decode c_BL_placeNamed 4 = .ok (.aload_n 0, 1) := by decide +kernel
theorem d_BL_placeNamed_5 : decode c_BL_placeNamed 5 = .ok (.iload_n 1, 1) := by decide +kernel
theorem d_BL_placeNamed_6 : decode c_BL_placeNamed 6 = .ok (.invokevirtual 101, 3) := by decide +kernel
theorem d_BL_placeNamed_9 : decode c_BL_placeNamed 9 = .ok (.goto 11, 3) := by decide +kernel
theorem d_BL_placeNamed_12 : decode c_BL_placeNamed 12 = .ok (.aload_n 0, 1) := by decide +kernel
theorem d_BL_placeNamed_13 : decode c_BL_placeNamed 13 = .ok (.bipush (-2), 2) := by decide +kernel
theorem d_BL_placeNamed_15 : decode c_BL_placeNamed 15 = .ok (.iload_n 1, 1) := by decide +kernel
theorem d_BL_placeNamed_16 : decode c_BL_placeNamed 16 = .ok (.isub, 1) := by decide +kernel
theorem d_BL_placeNamed_17 : decode c_BL_placeNamed 17 = .ok (.invokevirtual 62, 3) := by decide +kernel
theorem d_BL_placeNamed_20 : decode c_BL_placeNamed 20 = .ok (.areturn, 1) := by decide +kernel
theorem d_BL_labelNumbered_0 : decode c_BL_labelNumbered 0 = .ok (.iload_n 1, 1) := by decide +kernel
theorem d_BL_labelNumbered_1 : decode c_BL_labelNumbered 1 = .ok (.ifCond .lt 20, 3) := by decide +kernel
theorem d_BL_labelNumbered_4 : decode c_BL_labelNumbered 4 = .ok (.iload_n 1, 1) := by decide +kernel
theorem d_BL_labelNumbered_5 : decode c_BL_labelNumbered 5 = .ok (.aload_n 0, 1) := by decide +kernel
theorem d_BL_labelNumbered_6 : decode c_BL_labelNumbered 6 = .ok (.getfield 29, 3) := by decide +kernel
theorem d_BL_labelNumbered_9 : decode c_BL_labelNumbered 9 = .ok (.if_icmp .ge 12, 3) := by decide +kernel
theorem d_BL_labelNumbered_12 : decode c_BL_labelNumbered 12 = .ok (.aload_n 0, 1) := by decide +kernel
theorem d_BL_labelNumbered_13 : decode c_BL_labelNumbered 13 = .ok (.getfield 17, 3) := by decide +kernel
theorem d_BL_labelNumbered_16 : decode c_BL_labelNumbered 16 = .ok (.iload_n 1, 1) := by decide +kernel
theorem d_BL_labelNumbered_17 : decode c_BL_labelNumbered 17 = .ok (.aaload, 1) := by decide +kernel
theorem d_BL_labelNumbered_18 : decode c_BL_labelNumbered 18 = .ok (.goto 4, 3) := by decide +kernel
theorem d_BL_labelNumbered_21 : decode c_BL_labelNumbered 21 = .ok (.aconst_null, 1) := by decide +kernel
theorem d_BL_labelNumbered_22 : decode c_BL_labelNumbered 22 = .ok (.areturn, 1) := by decide +kernel
theorem d_BL_relax_0 : decode c_BL_relax 0 = .ok (.aload_n 0, 1) := by decide +kernel
theorem d_BL_relax_1 : decode c_BL_relax 1 = .ok (.invokevirtual 83, 3) := by decide +kernel
theorem d_BL_relax_4 : decode c_BL_relax 4 = .ok (.iconst 0, 1) := by decide +kernel
theorem d_BL_relax_5 : decode c_BL_relax 5 = .ok (.istore_n 1, 1) := by decide +kernel
theorem d_BL_relax_6 : decode c_BL_relax 6 = .ok (.iload_n 1, 1) := by decide +kernel
theorem d_BL_relax_7 : decode c_BL_relax 7 = .ok (.aload_n 0, 1) := by decide +kernel
theorem d_BL_relax_8 : decode c_BL_relax 8 = .ok (.getfield 25, 3) := by decide +kernel
theorem d_BL_relax_11 : decode c_BL_relax 11 = .ok (.if_icmp .gt 23, 3) := by decide +kernel
theorem d_BL_relax_14 : decode c_BL_relax 14 = .ok (.aload_n 0, 1) := by decide +kernel
theorem d_BL_relax_15 : decode c_BL_relax 15 = .ok (.invokevirtual 86, 3) := by decide +kernel
theorem d_BL_relax_18 : decode c_BL_relax 18 = .ok (.aload_n 0, 1) := by decide +kernel
theorem d_BL_relax_19 : decode c_BL_relax 19 = .ok (.invokevirtual 89, 3) := by decide +kernel
theorem d_BL_relax_22 : decode c_BL_relax 22 = .ok (.ifCond .ne 6, 3) := by decide +kernel
theorem d_BL_relax_25 : decode c_BL_relax 25 = .ok (.goto 9, 3) := by decide +kernel
theorem d_BL_relax_28 : decode c_BL_relax 28 = .ok (.iinc 1 1, 3) := by decide +kernel
theorem d_BL_relax_31 : decode c_BL_relax 31 = .ok (.goto (-25), 3) := by decide +kernel
theorem d_BL_relax_34 : decode c_BL_relax 34 = .ok (.aload_n 0, 1) := by decide +kernel
theorem d_BL_relax_35 : decode c_BL_relax 35 = .ok (.invokevirtual 93, 3) := by decide +kernel
theorem d_BL_relax_38 : decode c_BL_relax 38 = .ok (.ireturn, 1) := by decide +kernel
theorem d_BL_shortenAllThatGo_0 : decode c_BL_shortenAllThatGo 0 = .ok (.iconst 0, 1) := by decide +kernel
theorem d_BL_shortenAllThatGo_1 : decode c_BL_shortenAllThatGo 1 = .ok (.istore_n 1, 1) := by decide +kernel
theorem d_BL_shortenAllThatGo_2 : decode c_BL_shortenAllThatGo 2 = .ok (.iload_n 1, 1) := by decide +kernel
theorem d_BL_shortenAllThatGo_3 : decode c_BL_shortenAllThatGo 3 = .ok (.aload_n 0, 1) := by decide +kernel
theorem d_BL_shortenAllThatGo_4 : decode c_BL_shortenAllThatGo 4 = .ok (.getfield 25, 3) := by decide +kernel
theorem d_BL_shortenAllThatGo_7 : decode c_BL_shortenAllThatGo 7 = .ok (.if_icmp .ge 44, 3) := by decide +kernel
theorem d_BL_shortenAllThatGo_10 : decode c_BL_shortenAllThatGo 10 = .ok (.aload_n 0, 1) := by decide +kernel
theorem d_BL_shortenAllThatGo_11 : decode c_BL_shortenAllThatGo 11 = .ok (.getfield 11, 3) := by decide +kernel
theorem d_BL_shortenAllThatGo_14 : decode c_BL_shortenAllThatGo 14 = .ok (.iload_n 1, 1) := by decide +kernel
theorem d_BL_shortenAllThatGo_15 : decode c_BL_shortenAllThatGo 15 = .ok (.aaload, 1) := by decide +kernel
theorem d_BL_shortenAllThatGo_16 : decode c_BL_shortenAllThatGo 16 = .ok (.astore_n 3, 1) := by decide +kernel
theorem d_BL_shortenAllThatGo_17 : decode c_BL_shortenAllThatGo 17 = .ok (.aload_n 3, 1) := by decide +kernel
theorem d_BL_shortenAllThatGo_18 : decode c_BL_shortenAllThatGo 18 = .ok (.instanceof 58, 3) := by decide +kernel
theorem d_BL_shortenAllThatGo_21 : decode c_BL_shortenAllThatGo 21 = .ok (.ifCond .eq 24, 3) := by decide +kernel
theorem d_BL_shortenAllThatGo_24 : decode c_BL_shortenAllThatGo 24 = .ok (.aload_n 3, 1) := by decide +kernel
theorem d_BL_shortenAllThatGo_25 : decode c_BL_shortenAllThatGo 25 = .ok (.checkcast 58, 3) := by decide +kernel
theorem d_BL_shortenAllThatGo_28 : decode c_BL_shortenAllThatGo 28 = .ok (.astore_n 2, 1) := by decide +kernel
theorem d_BL_shortenAllThatGo_29 : decode c_BL_shortenAllThatGo 29 = .ok (.aload_n 2, 1) := by decide +kernel
theorem d_BL_shortenAllThatGo_30 : decode c_BL_shortenAllThatGo 30 = .ok (.aload_n 2, 1) := by decide +kernel
theorem d_BL_shortenAllThatGo_31 : decode c_BL_shortenAllThatGo 31 = .ok (.getfield 76, 3) := by decide +kernel
theorem d_BL_shortenAllThatGo_34 : decode c_BL_shortenAllThatGo 34 = .ok (.ifnull 7, 3) := by decide +kernel
theorem d_BL_shortenAllThatGo_37 : decode c_BL_shortenAllThatGo 37 = .ok (.iconst 1, 1) := by decide +kernel
theorem d_BL_shortenAllThatGo_38 : decode c_BL_shortenAllThatGo 38 = .ok (.goto 4, 3) := by decide +kernel
theorem d_BL_shortenAllThatGo_41 : decode c_BL_shortenAllThatGo 41 = .ok (.iconst 0, 1) := by decide +kernel
theorem d_BL_shortenAllThatGo_42 : decode c_BL_shortenAllThatGo 42 = .ok (.putfield 113, 3) := by decide +kernel
theorem d_BL_shortenAllThatGo_45 : decode c_BL_shortenAllThatGo 45 = .ok (.iinc 1 1, 3) := by decide +kernel
theorem d_BL_shortenAllThatGo_48 : decode c_BL_shortenAllThatGo 48 = .ok (.goto (-46), 3) := by decide +kernel
theorem d_BL_shortenAllThatGo_51 : decode c_BL_shortenAllThatGo 51 = .ok (.return_, 1) := by decide +kernel
theorem d_BL_tellPlaces_0 : decode c_BL_tellPlaces 0 = .ok (.aload_n 0, 1) := by decide +kernel
theorem d_BL_tellPlaces_1 : decode c_BL_tellPlaces 1 = .ok (.getfield 21, 3) := by decide +kernel
theorem d_BL_tellPlaces_4 : decode c_BL_tellPlaces 4 = .ok (.iconst 0, 1) := by decide +kernel
theorem d_BL_tellPlaces_5 : decode c_BL_tellPlaces 5 = .ok (.invokestatic 32, 3) := by decide +kernel
theorem d_BL_tellPlaces_8 : decode c_BL_tellPlaces 8 = .ok (.iconst 0, 1) := by decide +kernel
theorem d_BL_tellPlaces_9 : decode c_BL_tellPlaces 9 = .ok (.istore_n 1, 1) := by decide +kernel
theorem d_BL_tellPlaces_10 : decode c_BL_tellPlaces 10 = .ok (.iconst 0, 1) := by decide +kernel
theorem d_BL_tellPlaces_11 : decode c_BL_tellPlaces 11 = .ok (.istore_n 2, 1) := by decide +kernel
theorem d_BL_tellPlaces_12 : decode c_BL_tellPlaces 12 = .ok (.iload_n 2, 1) := by decide +kernel
theorem d_BL_tellPlaces_13 : decode c_BL_tellPlaces 13 = .ok (.aload_n 0, 1) := by decide +kernel
theorem d_BL_tellPlaces_14 : decode c_BL_tellPlaces 14 = .ok (.getfield 25, 3) := by decide +kernel
theorem d_BL_tellPlaces_17 : decode c_BL_tellPlaces 17 = .ok (.if_icmp .ge 26, 3) := by decide +kernel
theorem d_BL_tellPlaces_20 : decode c_BL_tellPlaces 20 = .ok (.aload_n 0, 1) := by decide +kernel
theorem d_BL_tellPlaces_21 : decode c_BL_tellPlaces 21 = .ok (.iload_n 2, 1) := by decide +kernel
theorem d_BL_tellPlaces_22 : decode c_BL_tellPlaces 22 = .ok (.iload_n 1, 1) := by decide +kernel
theorem d_BL_tellPlaces_23 : decode c_BL_tellPlaces 23 = .ok (.invokevirtual 117, 3) := by decide +kernel
theorem d_BL_tellPlaces_26 : decode c_BL_tellPlaces 26 = .ok (.istore_n 1, 1) := by decide +kernel
theorem d_BL_tellPlaces_27 : decode c_BL_tellPlaces 27 = .ok (.aload_n 0, 1) := by decide +kernel
theorem d_BL_tellPlaces_28 : decode c_BL_tellPlaces 28 = .ok (.aload_n 0, 1) := by decide +kernel
theorem d_BL_tellPlaces_29 : decode c_BL_tellPlaces 29 = .ok (.getfield 11, 3) := by decide +kernel
theorem d_BL_tellPlaces_32 : decode c_BL_tellPlaces 32 = .ok (.iload_n 2, 1) := by decide +kernel
theorem d_BL_tellPlaces_33 : decode c_BL_tellPlaces 33 = .ok (.aaload, 1) := by decide +kernel
theorem d_BL_tellPlaces_34 : decode c_BL_tellPlaces 34 = .ok (.invokevirtual 121, 3) := by decide +kernel
theorem d_BL_tellPlaces_37 : decode c_BL_tellPlaces 37 = .ok (.iinc 2 1, 3) := by decide +kernel
theorem d_BL_tellPlaces_40 : decode c_BL_tellPlaces 40 = .ok (.goto (-28), 3) := by decide +kernel
theorem d_BL_tellPlaces_43 : decode c_BL_tellPlaces 43 = .ok (.aload_n 0, 1) := by decide +kernel
theorem d_BL_tellPlaces_44 : decode c_BL_tellPlaces 44 = .ok (.aload_n 0, 1) := by decide +kernel
theorem d_BL_tellPlaces_45 : decode c_BL_tellPlaces 45 = .ok (.getfield 25, 3) := by decide +kernel
theorem d_BL_tellPlaces_48 : decode c_BL_tellPlaces 48 = .ok (.iload_n 1, 1) := by decide +kernel
theorem d_BL_tellPlaces_49 : decode c_BL_tellPlaces 49 = .ok (.invokevirtual 117, 3) := by decide +kernel
theorem d_BL_tellPlaces_52 : decode c_BL_tellPlaces 52 = .ok (.pop, 1) := by decide +kernel
end
section
theorem d_BL_tellPlaces_53 : decode c_BL_tellPlaces 53 = .ok (.return_, 1) := by decide +kernel
theorem d_BL_tellLabelsBefore_0 : decode c_BL_tellLabelsBefore 0 = .ok (.iload_n 2, 1) := by decide +kernel
theorem d_BL_tellLabelsBefore_1 : decode c_BL_tellLabelsBefore 1 = .ok (.istore_n 3, 1) := by decide +kernel
theorem d_BL_tellLabelsBefore_2 : decode c_BL_tellLabelsBefore 2 = .ok (.iload_n 3, 1) := by decide +kernel
theorem d_BL_tellLabelsBefore_3 : decode c_BL_tellLabelsBefore 3 = .ok (.aload_n 0, 1) := by decide +kernel
theorem d_BL_tellLabelsBefore_4 : decode c_BL_tellLabelsBefore 4 = .ok (.getfield 29, 3) := by decide +kernel
theorem d_BL_tellLabelsBefore_7 : decode c_BL_tellLabelsBefore 7 = .ok (.if_icmp .ge 45, 3) := by decide +kernel
theorem d_BL_tellLabelsBefore_10 : decode c_BL_tellLabelsBefore 10 = .ok (.aload_n 0, 1) := by decide +kernel
theorem d_BL_tellLabelsBefore_11 : decode c_BL_tellLabelsBefore 11 = .ok (.getfield 17, 3) := by decide +kernel
theorem d_BL_tellLabelsBefore_14 : decode c_BL_tellLabelsBefore 14 = .ok (.iload_n 3, 1) := by decide +kernel
theorem d_BL_tellLabelsBefore_15 : decode c_BL_tellLabelsBefore 15 = .ok (.aaload, 1) := by decide +kernel
theorem d_BL_tellLabelsBefore_16 : decode c_BL_tellLabelsBefore 16 = .ok (.getfield 133, 3) := by decide +kernel
theorem d_BL_tellLabelsBefore_19 : decode c_BL_tellLabelsBefore 19 = .ok (.iload_n 1, 1) := by decide +kernel
theorem d_BL_tellLabelsBefore_20 : decode c_BL_tellLabelsBefore 20 = .ok (.if_icmp .gt 32, 3) := by decide +kernel
theorem d_BL_tellLabelsBefore_23 : decode c_BL_tellLabelsBefore 23 = .ok (.aload_n 0, 1) := by decide +kernel
theorem d_BL_tellLabelsBefore_24 : decode c_BL_tellLabelsBefore 24 = .ok (.getfield 17, 3) := by decide +kernel
theorem d_BL_tellLabelsBefore_27 : decode c_BL_tellLabelsBefore 27 = .ok (.iload_n 3, 1) := by decide +kernel
theorem d_BL_tellLabelsBefore_28 : decode c_BL_tellLabelsBefore 28 = .ok (.aaload, 1) := by decide +kernel
theorem d_BL_tellLabelsBefore_29 : decode c_BL_tellLabelsBefore 29 = .ok (.aload_n 0, 1) := by decide +kernel
theorem d_BL_tellLabelsBefore_30 : decode c_BL_tellLabelsBefore 30 = .ok (.getfield 21, 3) := by decide +kernel
theorem d_BL_tellLabelsBefore_33 : decode c_BL_tellLabelsBefore 33 = .ok (.aload_n 0, 1) := by decide +kernel
theorem d_BL_tellLabelsBefore_34 : decode c_BL_tellLabelsBefore 34 = .ok (.getfield 17, 3) := by decide +kernel
theorem d_BL_tellLabelsBefore_37 : decode c_BL_tellLabelsBefore 37 = .ok (.iload_n 3, 1) := by decide +kernel
theorem d_BL_tellLabelsBefore_38 : decode c_BL_tellLabelsBefore 38 = .ok (.aaload, 1) := by decide +kernel
theorem d_BL_tellLabelsBefore_39 : decode c_BL_tellLabelsBefore 39 = .ok (.getfield 136, 3) := by decide +kernel
theorem d_BL_tellLabelsBefore_42 : decode c_BL_tellLabelsBefore 42 = .ok (.iaload, 1) := by decide +kernel
theorem d_BL_tellLabelsBefore_43 : decode c_BL_tellLabelsBefore 43 = .ok (.putfield 105, 3) := by decide +kernel
theorem d_BL_tellLabelsBefore_46 : decode c_BL_tellLabelsBefore 46 = .ok (.iinc 3 1, 3) := by decide +kernel
theorem d_BL_tellLabelsBefore_49 : decode c_BL_tellLabelsBefore 49 = .ok (.goto (-47), 3) := by decide +kernel
theorem d_BL_tellLabelsBefore_52 : decode c_BL_tellLabelsBefore 52 = .ok (.iload_n 3, 1) := by decide +kernel
theorem d_BL_tellLabelsBefore_53 : decode c_BL_tellLabelsBefore 53 = .ok (.ireturn, 1) := by decide +kernel
theorem d_BL_tellStatement_0 : decode c_BL_tellStatement 0 = .ok (.aload_n 1, 1) := by decide +kernel
theorem d_BL_tellStatement_1 : decode c_BL_tellStatement 1 = .ok (.aload_n 0, 1) := by decide +kernel
theorem d_BL_tellStatement_2 : decode c_BL_tellStatement 2 = .ok (.getfield 21, 3) := by decide +kernel
theorem d_BL_tellStatement_5 : decode c_BL_tellStatement 5 = .ok (.aload_n 1, 1) := by decide +kernel
theorem d_BL_tellStatement_6 : decode c_BL_tellStatement 6 = .ok (.getfield 125, 3) := by decide +kernel
theorem d_BL_tellStatement_9 : decode c_BL_tellStatement 9 = .ok (.iaload, 1) := by decide +kernel
theorem d_BL_tellStatement_10 : decode c_BL_tellStatement 10 = .ok (.putfield 126, 3) := by decide +kernel
theorem d_BL_tellStatement_13 : decode c_BL_tellStatement 13 = .ok (.aload_n 1, 1) := by decide +kernel
theorem d_BL_tellStatement_14 : decode c_BL_tellStatement 14 = .ok (.aload_n 1, 1) := by decide +kernel
theorem d_BL_tellStatement_15 : decode c_BL_tellStatement 15 = .ok (.aload_n 1, 1) := by decide +kernel
theorem d_BL_tellStatement_16 : decode c_BL_tellStatement 16 = .ok (.getfield 126, 3) := by decide +kernel
theorem d_BL_tellStatement_19 : decode c_BL_tellStatement 19 = .ok (.invokevirtual 127, 3) := by decide +kernel
theorem d_BL_tellStatement_22 : decode c_BL_tellStatement 22 = .ok (.putfield 130, 3) := by decide +kernel
theorem d_BL_tellStatement_25 : decode c_BL_tellStatement 25 = .ok (.aload_n 0, 1) := by decide +kernel
theorem d_BL_tellStatement_26 : decode c_BL_tellStatement 26 = .ok (.getfield 21, 3) := by decide +kernel
theorem d_BL_tellStatement_29 : decode c_BL_tellStatement 29 = .ok (.aload_n 1, 1) := by decide +kernel
theorem d_BL_tellStatement_30 : decode c_BL_tellStatement 30 = .ok (.getfield 125, 3) := by decide +kernel
theorem d_BL_tellStatement_33 : decode c_BL_tellStatement 33 = .ok (.dup2, 1) := by decide +kernel
theorem d_BL_tellStatement_34 : decode c_BL_tellStatement 34 = .ok (.iaload, 1) := by decide +kernel
theorem d_BL_tellStatement_35 : decode c_BL_tellStatement 35 = .ok (.aload_n 1, 1) := by decide +kernel
theorem d_BL_tellStatement_36 : decode c_BL_tellStatement 36 = .ok (.getfield 130, 3) := by decide +kernel
theorem d_BL_tellStatement_39 : decode c_BL_tellStatement 39 = .ok (.iadd, 1) := by decide +kernel
theorem d_BL_tellStatement_40 : decode c_BL_tellStatement 40 = .ok (.iastore, 1) := by decide +kernel
theorem d_BL_tellStatement_41 : decode c_BL_tellStatement 41 = .ok (.return_, 1) := by decide +kernel
theorem d_Al_lengthFrom_0 : decode c_Al_lengthFrom 0 = .ok (.iload_n 1, 1) := by decide +kernel
theorem d_Al_lengthFrom_1 : decode c_Al_lengthFrom 1 = .ok (.ineg, 1) := by decide +kernel
theorem d_Al_lengthFrom_2 : decode c_Al_lengthFrom 2 = .ok (.aload_n 0, 1) := by decide +kernel
theorem d_Al_lengthFrom_3 : decode c_Al_lengthFrom 3 = .ok (.getfield 7, 3) := by decide +kernel
theorem d_Al_lengthFrom_6 : decode c_Al_lengthFrom 6 = .ok (.iconst 1, 1) := by decide +kernel
theorem d_Al_lengthFrom_7 : decode c_Al_lengthFrom 7 = .ok (.isub, 1) := by decide +kernel
theorem d_Al_lengthFrom_8 : decode c_Al_lengthFrom 8 = .ok (.iand, 1) := by decide +kernel
theorem d_Al_lengthFrom_9 : decode c_Al_lengthFrom 9 = .ok (.ireturn, 1) := by decide +kernel
theorem d_Br_lengthFrom_0 : decode c_Br_lengthFrom 0 = .ok (.aload_n 0, 1) := by decide +kernel
theorem d_Br_lengthFrom_1 : decode c_Br_lengthFrom 1 = .ok (.getfield 15, 3) := by decide +kernel
theorem d_Br_lengthFrom_4 : decode c_Br_lengthFrom 4 = .ok (.ifCond .eq 7, 3) := by decide +kernel
theorem d_Br_lengthFrom_7 : decode c_Br_lengthFrom 7 = .ok (.iconst 2, 1) := by decide +kernel
theorem d_Br_lengthFrom_8 : decode c_Br_lengthFrom 8 = .ok (.goto 7, 3) := by decide +kernel
theorem d_Br_lengthFrom_11 : decode c_Br_lengthFrom 11 = .ok (.aload_n 0, 1) := by decide +kernel
theorem d_Br_lengthFrom_12 : decode c_Br_lengthFrom 12 = .ok (.getfield 9, 3) := by decide +kernel
theorem d_Br_lengthFrom_15 : decode c_Br_lengthFrom 15 = .ok (.ireturn, 1) := by decide +kernel
theorem d_By_lengthFrom_0 : decode c_By_lengthFrom 0 = .ok (.aload_n 0, 1) := by decide +kernel
theorem d_By_lengthFrom_1 : decode c_By_lengthFrom 1 = .ok (.getfield 7, 3) := by decide +kernel
theorem d_By_lengthFrom_4 : decode c_By_lengthFrom 4 = .ok (.ireturn, 1) := by decide +kernel
theorem d_BL_lengthenAllTooFar_0 : decode c_BL_lengthenAllTooFar 0 = .ok (.iconst 0, 1) := by decide +kernel
theorem d_BL_lengthenAllTooFar_1 : decode c_BL_lengthenAllTooFar 1 = .ok (.istore_n 1, 1) := by decide +kernel
theorem d_BL_lengthenAllTooFar_2 : decode c_BL_lengthenAllTooFar 2 = .ok (.iconst 0, 1) := by decide +kernel
theorem d_BL_lengthenAllTooFar_3 : decode c_BL_lengthenAllTooFar 3 = .ok (.istore_n 2, 1) := by decide +kernel
theorem d_BL_lengthenAllTooFar_4 : decode c_BL_lengthenAllTooFar 4 = .ok (.iload_n 2, 1) := by decide +kernel
theorem d_BL_lengthenAllTooFar_5 : decode c_BL_lengthenAllTooFar 5 = .ok (.aload_n 0, 1) := by decide +kernel
theorem d_BL_lengthenAllTooFar_6 : decode c_BL_lengthenAllTooFar 6 = .ok (.getfield 25, 3) := by decide +kernel
theorem d_BL_lengthenAllTooFar_9 : decode c_BL_lengthenAllTooFar 9 = .ok (.if_icmp .ge 40, 3) := by decide +kernel
theorem d_BL_lengthenAllTooFar_12 : decode c_BL_lengthenAllTooFar 12 = .ok (.aload_n 0, 1) := by decide +kernel
theorem d_BL_lengthenAllTooFar_13 : decode c_BL_lengthenAllTooFar 13 = .ok (.getfield 11, 3) := by decide +kernel
theorem d_BL_lengthenAllTooFar_16 : decode c_BL_lengthenAllTooFar 16 = .ok (.iload_n 2, 1) := by decide +kernel
theorem d_BL_lengthenAllTooFar_17 : decode c_BL_lengthenAllTooFar 17 = .ok (.aaload, 1) := by decide +kernel
theorem d_BL_lengthenAllTooFar_18 : decode c_BL_lengthenAllTooFar 18 = .ok (.astore 4, 2) := by decide +kernel
theorem d_BL_lengthenAllTooFar_20 : decode c_BL_lengthenAllTooFar 20 = .ok (.aload 4, 2) := by decide +kernel
theorem d_BL_lengthenAllTooFar_22 : decode c_BL_lengthenAllTooFar 22 = .ok (.instanceof 58, 3) := by decide +kernel
theorem d_BL_lengthenAllTooFar_25 : decode c_BL_lengthenAllTooFar 25 = .ok (.ifCond .eq 18, 3) := by decide +kernel
theorem d_BL_lengthenAllTooFar_28 : decode c_BL_lengthenAllTooFar 28 = .ok (.aload 4, 2) := by decide +kernel
theorem d_BL_lengthenAllTooFar_30 : decode c_BL_lengthenAllTooFar 30 = .ok (.checkcast 58, 3) := by decide +kernel
theorem d_BL_lengthenAllTooFar_33 : decode c_BL_lengthenAllTooFar 33 = .ok (.astore_n 3, 1) := by decide +kernel
theorem d_BL_lengthenAllTooFar_34 : decode c_BL_lengthenAllTooFar 34 = .ok (.aload_n 3, 1) := by decide +kernel
theorem d_BL_lengthenAllTooFar_35 : decode c_BL_lengthenAllTooFar 35 = .ok (.invokevirtual 137, 3) := by decide +kernel
theorem d_BL_lengthenAllTooFar_38 : decode c_BL_lengthenAllTooFar 38 = .ok (.ifCond .eq 5, 3) := by decide +kernel
theorem d_BL_lengthenAllTooFar_41 : decode c_BL_lengthenAllTooFar 41 = .ok (.iconst 1, 1) := by decide +kernel
theorem d_BL_lengthenAllTooFar_42 : decode c_BL_lengthenAllTooFar 42 = .ok (.istore_n 1, 1) := by decide +kernel
theorem d_BL_lengthenAllTooFar_43 : decode c_BL_lengthenAllTooFar 43 = .ok (.iinc 2 1, 3) := by decide +kernel
theorem d_BL_lengthenAllTooFar_46 : decode c_BL_lengthenAllTooFar 46 = .ok (.goto (-42), 3) := by decide +kernel
theorem d_BL_lengthenAllTooFar_49 : decode c_BL_lengthenAllTooFar 49 = .ok (.iload_n 1, 1) := by decide +kernel
theorem d_BL_lengthenAllTooFar_50 : decode c_BL_lengthenAllTooFar 50 = .ok (.ireturn, 1) := by decide +kernel
theorem d_Br_lengthenIfTooFar_0 : decode c_Br_lengthenIfTooFar 0 = .ok (.aload_n 0, 1) := by decide +kernel
theorem d_Br_lengthenIfTooFar_1 : decode c_Br_lengthenIfTooFar 1 = .ok (.getfield 15, 3) := by decide +kernel
theorem d_Br_lengthenIfTooFar_4 : decode c_Br_lengthenIfTooFar 4 = .ok (.ifCond .eq 10, 3) := by decide +kernel
theorem d_Br_lengthenIfTooFar_7 : decode c_Br_lengthenIfTooFar 7 = .ok (.aload_n 0, 1) := by decide +kernel
theorem d_Br_lengthenIfTooFar_8 : decode c_Br_lengthenIfTooFar 8 = .ok (.getfield 26, 3) := by decide +kernel
theorem d_Br_lengthenIfTooFar_11 : decode c_Br_lengthenIfTooFar 11 = .ok (.ifnonnull 5, 3) := by decide +kernel
theorem d_Br_lengthenIfTooFar_14 : decode c_Br_lengthenIfTooFar 14 = .ok (.iconst 0, 1) := by decide +kernel
theorem d_Br_lengthenIfTooFar_15 : decode c_Br_lengthenIfTooFar 15 = .ok (.ireturn, 1) := by decide +kernel
theorem d_Br_lengthenIfTooFar_16 : decode c_Br_lengthenIfTooFar 16 = .ok (.aload_n 0, 1) := by decide +kernel
theorem d_Br_lengthenIfTooFar_17 : decode c_Br_lengthenIfTooFar 17 = .ok (.getfield 26, 3) := by decide +kernel
theorem d_Br_lengthenIfTooFar_20 : decode c_Br_lengthenIfTooFar 20 = .ok (.getfield 30, 3) := by decide +kernel
theorem d_Br_lengthenIfTooFar_23 : decode c_Br_lengthenIfTooFar 23 = .ok (.i2l, 1) := by decide +kernel
theorem d_Br_lengthenIfTooFar_24 : decode c_Br_lengthenIfTooFar 24 = .ok (.aload_n 0, 1) := by decide +kernel
theorem d_Br_lengthenIfTooFar_25 : decode c_Br_lengthenIfTooFar 25 = .ok (.getfield 35, 3) := by decide +kernel
theorem d_Br_lengthenIfTooFar_28 : decode c_Br_lengthenIfTooFar 28 = .ok (.i2l, 1) := by decide +kernel
theorem d_Br_lengthenIfTooFar_29 : decode c_Br_lengthenIfTooFar 29 = .ok (.ladd, 1) := by decide +kernel
theorem d_Br_lengthenIfTooFar_30 : decode c_Br_lengthenIfTooFar 30 = .ok (.aload_n 0, 1) := by decide +kernel
theorem d_Br_lengthenIfTooFar_31 : decode c_Br_lengthenIfTooFar 31 = .ok (.getfield 38, 3) := by decide +kernel
theorem d_Br_lengthenIfTooFar_34 : decode c_Br_lengthenIfTooFar 34 = .ok (.aload_n 0, 1) := by decide +kernel
theorem d_Br_lengthenIfTooFar_35 : decode c_Br_lengthenIfTooFar 35 = .ok (.getfield 39, 3) := by decide +kernel
theorem d_Br_lengthenIfTooFar_38 : decode c_Br_lengthenIfTooFar 38 = .ok (.iadd, 1) := by decide +kernel
theorem d_Br_lengthenIfTooFar_39 : decode c_Br_lengthenIfTooFar 39 = .ok (.i2l, 1) := by decide +kernel
theorem d_Br_lengthenIfTooFar_40 : decode c_Br_lengthenIfTooFar 40 = .ok (.lsub, 1) := by decide +kernel
theorem d_Br_lengthenIfTooFar_41 : decode c_Br_lengthenIfTooFar 41 = .ok (.lstore_n 1, 1) := by decide +kernel
theorem d_Br_lengthenIfTooFar_42 : decode c_Br_lengthenIfTooFar 42 = .ok (.aload_n 0, 1) := by decide +kernel
theorem d_Br_lengthenIfTooFar_43 : decode c_Br_lengthenIfTooFar 43 = .ok (.lload_n 1, 1) := by decide +kernel
theorem d_Br_lengthenIfTooFar_44 : decode c_Br_lengthenIfTooFar 44 = .ok (.ldc2_w 42, 3) := by decide +kernel
theorem d_Br_lengthenIfTooFar_47 : decode c_Br_lengthenIfTooFar 47 = .ok (.lcmp, 1) := by decide +kernel
theorem d_Br_lengthenIfTooFar_48 : decode c_Br_lengthenIfTooFar 48 = .ok (.ifCond .lt 15, 3) := by decide +kernel
theorem d_Br_lengthenIfTooFar_51 : decode c_Br_lengthenIfTooFar 51 = .ok (.lload_n 1, 1) := by decide +kernel
theorem d_Br_lengthenIfTooFar_52 : decode c_Br_lengthenIfTooFar 52 = .ok (.ldc2_w 44, 3) := by decide +kernel
theorem d_Br_lengthenIfTooFar_55 : decode c_Br_lengthenIfTooFar 55 = .ok (.lcmp, 1) := by decide +kernel
theorem d_Br_lengthenIfTooFar_56 : decode c_Br_lengthenIfTooFar 56 = .ok (.ifCond .gt 7, 3) := by decide +kernel
theorem d_Br_lengthenIfTooFar_59 : decode c_Br_lengthenIfTooFar 59 = .ok (.iconst 1, 1) := by decide +kernel
theorem d_Br_lengthenIfTooFar_60 : decode c_Br_lengthenIfTooFar 60 = .ok (.goto 4, 3) := by decide +kernel
theorem d_Br_lengthenIfTooFar_63 : decode c_Br_lengthenIfTooFar 63 = .ok (.iconst 0, 1) := by decide +kernel
theorem d_Br_lengthenIfTooFar_64 : decode c_Br_lengthenIfTooFar 64 = .ok (.putfield 15, 3) := by decide +kernel
theorem d_Br_lengthenIfTooFar_67 : decode c_Br_lengthenIfTooFar 67 = .ok (.aload_n 0, 1) := by decide +kernel
theorem d_Br_lengthenIfTooFar_68 : decode c_Br_lengthenIfTooFar 68 = .ok (.aload_n 0, 1) := by decide +kernel
theorem d_Br_lengthenIfTooFar_69 : decode c_Br_lengthenIfTooFar 69 = .ok (.getfield 15, 3) := by decide +kernel
theorem d_Br_lengthenIfTooFar_72 : decode c_Br_lengthenIfTooFar 72 = .ok (.ifCond .eq 8, 3) := by decide +kernel
theorem d_Br_lengthenIfTooFar_75 : decode c_Br_lengthenIfTooFar 75 = .ok (.lload_n 1, 1) := by decide +kernel
theorem d_Br_lengthenIfTooFar_76 : decode c_Br_lengthenIfTooFar 76 = .ok (.l2i, 1) := by decide +kernel
theorem d_Br_lengthenIfTooFar_77 : decode c_Br_lengthenIfTooFar 77 = .ok (.goto 4, 3) := by decide +kernel
theorem d_Br_lengthenIfTooFar_80 : decode c_Br_lengthenIfTooFar 80 = .ok (.iconst 0, 1) := by decide +kernel
theorem d_Br_lengthenIfTooFar_81 : decode c_Br_lengthenIfTooFar 81 = .ok (.putfield 19, 3) := by decide +kernel
theorem d_Br_lengthenIfTooFar_84 : decode c_Br_lengthenIfTooFar 84 = .ok (.aload_n 0, 1) := by decide +kernel
theorem d_Br_lengthenIfTooFar_85 : decode c_Br_lengthenIfTooFar 85 = .ok (.getfield 15, 3) := by decide +kernel
theorem d_Br_lengthenIfTooFar_88 : decode c_Br_lengthenIfTooFar 88 = .ok (.ifCond .ne 7, 3) := by decide +kernel
theorem d_Br_lengthenIfTooFar_91 : decode c_Br_lengthenIfTooFar 91 = .ok (.iconst 1, 1) := by decide +kernel
theorem d_Br_lengthenIfTooFar_92 : decode c_Br_lengthenIfTooFar 92 = .ok (.goto 4, 3) := by decide +kernel
theorem d_Br_lengthenIfTooFar_95 : decode c_Br_lengthenIfTooFar 95 = .ok (.iconst 0, 1) := by decide +kernel
theorem d_Br_lengthenIfTooFar_96 : decode c_Br_lengthenIfTooFar 96 = .ok (.ireturn, 1) := by decide +kernel
theorem d_BL_countLong_0 : decode c_BL_countLong 0 = .ok (.iconst 0, 1) := by decide +kernel
theorem d_BL_countLong_1 : decode c_BL_countLong 1 = .ok (.istore_n 1, 1) := by decide +kernel
theorem d_BL_countLong_2 : decode c_BL_countLong 2 = .ok (.iconst 0, 1) := by decide +kernel
theorem d_BL_countLong_3 : decode c_BL_countLong 3 = .ok (.istore_n 2, 1) := by decide +kernel
theorem d_BL_countLong_4 : decode c_BL_countLong 4 = .ok (.iload_n 2, 1) := by decide +kernel
theorem d_BL_countLong_5 : decode c_BL_countLong 5 = .ok (.aload_n 0, 1) := by decide +kernel
theorem d_BL_countLong_6 : decode c_BL_countLong 6 = .ok (.getfield 25, 3) := by decide +kernel
theorem d_BL_countLong_9 : decode c_BL_countLong 9 = .ok (.if_icmp .ge 41, 3) := by decide +kernel
theorem d_BL_countLong_12 : decode c_BL_countLong 12 = .ok (.aload_n 0, 1) := by decide +kernel
theorem d_BL_countLong_13 : decode c_BL_countLong 13 = .ok (.getfield 11, 3) := by decide +kernel
theorem d_BL_countLong_16 : decode c_BL_countLong 16 = .ok (.iload_n 2, 1) := by decide +kernel
theorem d_BL_countLong_17 : decode c_BL_countLong 17 = .ok (.aaload, 1) := by decide +kernel
theorem d_BL_countLong_18 : decode c_BL_countLong 18 = .ok (.astore 4, 2) := by decide +kernel
theorem d_BL_countLong_20 : decode c_BL_countLong 20 = .ok (.aload 4, 2) := by decide +kernel
theorem d_BL_countLong_22 : decode c_BL_countLong 22 = .ok (.instanceof 58, 3) := by decide +kernel
theorem d_BL_countLong_25 : decode c_BL_countLong 25 = .ok (.ifCond .eq 19, 3) := by decide +kernel
theorem d_BL_countLong_28 : decode c_BL_countLong 28 = .ok (.aload 4, 2) := by decide +kernel
theorem d_BL_countLong_30 : decode c_BL_countLong 30 = .ok (.checkcast 58, 3) := by decide +kernel
theorem d_BL_countLong_33 : decode c_BL_countLong 33 = .ok (.astore_n 3, 1) := by decide +kernel
theorem d_BL_countLong_34 : decode c_BL_countLong 34 = .ok (.aload_n 3, 1) := by decide +kernel
theorem d_BL_countLong_35 : decode c_BL_countLong 35 = .ok (.getfield 113, 3) := by decide +kernel
theorem d_BL_countLong_38 : decode c_BL_countLong 38 = .ok (.ifCond .ne 6, 3) := by decide +kernel
theorem d_BL_countLong_41 : decode c_BL_countLong 41 = .ok (.iinc 1 1, 3) := by decide +kernel
theorem d_BL_countLong_44 : decode c_BL_countLong 44 = .ok (.iinc 2 1, 3) := by decide +kernel
theorem d_BL_countLong_47 : decode c_BL_countLong 47 = .ok (.goto (-43), 3) := by decide +kernel
theorem d_BL_countLong_50 : decode c_BL_countLong 50 = .ok (.iload_n 1, 1) := by decide +kernel
theorem d_BL_countLong_51 : decode c_BL_countLong 51 = .ok (.ireturn, 1) := by decide +kernel
theorem d_BL_statement_0 : decode c_BL_statement 0 = .ok (.aload_n 0, 1) := by decide +kernel
theorem d_BL_statement_1 : decode c_BL_statement 1 = .ok (.iload_n 1, 1) := by decide +kernel
theorem d_BL_statement_2 : decode c_BL_statement 2 = .ok (.invokevirtual 62, 3) := by decide +kernel
theorem d_BL_statement_5 : decode c_BL_statement 5 = .ok (.astore_n 3, 1) := by decide +kernel
theorem d_BL_statement_6 : decode c_BL_statement 6 = .ok (.aload_n 3, 1) := by decide +kernel
theorem d_BL_statement_7 : decode c_BL_statement 7 = .ok (.ifnonnull 7, 3) := by decide +kernel
theorem d_BL_statement_10 : decode c_BL_statement 10 = .ok (.iconst (-1), 1) := by decide +kernel
theorem d_BL_statement_11 : decode c_BL_statement 11 = .ok (.goto 8, 3) := by decide +kernel
theorem d_BL_statement_14 : decode c_BL_statement 14 = .ok (.aload_n 3, 1) := by decide +kernel
theorem d_BL_statement_15 : decode c_BL_statement 15 = .ok (.iload_n 2, 1) := by decide +kernel
theorem d_BL_statement_16 : decode c_BL_statement 16 = .ok (.invokevirtual 97, 3) := by decide +kernel
theorem d_BL_statement_19 : decode c_BL_statement 19 = .ok (.ireturn, 1) := by decide +kernel
theorem d_Br_fact_0 : decode c_Br_fact 0 = .ok (.iload_n 1, 1) := by decide +kernel
theorem d_Br_fact_1 : decode c_Br_fact 1 = .ok (.lookupswitch 45 #[(2, 27), (3, 40)], 27) := by decide +kernel
theorem d_Br_fact_28 : decode c_Br_fact 28 = .ok (.aload_n 0, 1) := by decide +kernel
theorem d_Br_fact_29 : decode c_Br_fact 29 = .ok (.getfield 15, 3) := by decide +kernel
theorem d_Br_fact_32 : decode c_Br_fact 32 = .ok (.ifCond .eq 7, 3) := by decide +kernel
theorem d_Br_fact_35 : decode c_Br_fact 35 = .ok (.iconst 1, 1) := by decide +kernel
theorem d_Br_fact_36 : decode c_Br_fact 36 = .ok (.goto 4, 3) := by decide +kernel
theorem d_Br_fact_39 : decode c_Br_fact 39 = .ok (.iconst 0, 1) := by decide +kernel
theorem d_Br_fact_40 : decode c_Br_fact 40 = .ok (.ireturn, 1) := by decide +kernel
theorem d_Br_fact_41 : decode c_Br_fact 41 = .ok (.aload_n 0, 1) := by decide +kernel
theorem d_Br_fact_42 : decode c_Br_fact 42 = .ok (.getfield 19, 3) := by decide +kernel
theorem d_Br_fact_45 : decode c_Br_fact 45 = .ok (.ireturn, 1) := by decide +kernel
theorem d_Br_fact_46 : decode c_Br_fact 46 = .ok (.aload_n 0, 1) := by decide +kernel
theorem d_Br_fact_47 : decode c_Br_fact 47 = .ok (.iload_n 1, 1) := by decide +kernel
theorem d_Br_fact_48 : decode c_Br_fact 48 = .ok (.invokespecial 22, 3) := by decide +kernel
theorem d_Br_fact_51 : decode c_Br_fact 51 = .ok (.ireturn, 1) := by decide +kernel
theorem d_St_fact_0 : decode c_St_fact 0 = .ok (.iload_n 1, 1) := by decide +kernel
theorem d_St_fact_1 : decode c_St_fact 1 = .ok (.tableswitch 43 0 3 #[31, 36, 41, 41], 31) := by decide +kernel
theorem d_St_fact_32 : decode c_St_fact 32 = .ok (.aload_n 0, 1) := by decide +kernel
theorem d_St_fact_33 : decode c_St_fact 33 = .ok (.getfield 9, 3) := by decide +kernel
theorem d_St_fact_36 : decode c_St_fact 36 = .ok (.ireturn, 1) := by decide +kernel
theorem d_St_fact_37 : decode c_St_fact 37 = .ok (.aload_n 0, 1) := by decide +kernel
theorem d_St_fact_38 : decode c_St_fact 38 = .ok (.getfield 15, 3) := by decide +kernel
theorem d_St_fact_41 : decode c_St_fact 41 = .ok (.ireturn, 1) := by decide +kernel
theorem d_St_fact_42 : decode c_St_fact 42 = .ok (.iconst 0, 1) := by decide +kernel
theorem d_St_fact_43 : decode c_St_fact 43 = .ok (.ireturn, 1) := by decide +kernel
theorem d_St_fact_44 : decode c_St_fact 44 = .ok (.iconst (-1), 1) := by decide +kernel
theorem d_St_fact_45 : decode c_St_fact 45 = .ok (.ireturn, 1) := by decide +kernel
theorem d_BL_place_0 : decode c_BL_place 0 = .ok (.aload_n 0, 1) := by decide +kernel
theorem d_BL_place_1 : decode c_BL_place 1 = .ok (.iload_n 1, 1) := by decide +kernel
theorem d_BL_place_2 : decode c_BL_place 2 = .ok (.invokevirtual 101, 3) := by decide +kernel
theorem d_BL_place_5 : decode c_BL_place 5 = .ok (.astore_n 2, 1) := by decide +kernel
theorem d_BL_place_6 : decode c_BL_place 6 = .ok (.aload_n 2, 1) := by decide +kernel
theorem d_BL_place_7 : decode c_BL_place 7 = .ok (.ifnonnull 7, 3) := by decide +kernel
theorem d_BL_place_10 : decode c_BL_place 10 = .ok (.iconst (-1), 1) := by decide +kernel
theorem d_BL_place_11 : decode c_BL_place 11 = .ok (.goto 7, 3) := by decide +kernel
theorem d_BL_place_14 : decode c_BL_place 14 = .ok (.aload_n 2, 1) := by decide +kernel
theorem d_BL_place_15 : decode c_BL_place 15 = .ok (.getfield 105, 3) := by decide +kernel
theorem d_BL_place_18 : decode c_BL_place 18 = .ok (.ireturn, 1) := by decide +kernel
theorem d_BL_size_0 : decode c_BL_size 0 = .ok (.iload_n 1, 1) := by decide +kernel
theorem d_BL_size_1 : decode c_BL_size 1 = .ok (.invokestatic 38, 3) := by decide +kernel
theorem d_BL_size_4 : decode c_BL_size 4 = .ok (.ifCond .eq 12, 3) := by decide +kernel
theorem d_BL_size_7 : decode c_BL_size 7 = .ok (.aload_n 0, 1) := by decide +kernel
theorem d_BL_size_8 : decode c_BL_size 8 = .ok (.getfield 21, 3) := by decide +kernel
theorem d_BL_size_11 : decode c_BL_size 11 = .ok (.iload_n 1, 1) := by decide +kernel
theorem d_BL_size_12 : decode c_BL_size 12 = .ok (.iaload, 1) := by decide +kernel
theorem d_BL_size_13 : decode c_BL_size 13 = .ok (.goto 4, 3) := by decide +kernel
theorem d_BL_size_16 : decode c_BL_size 16 = .ok (.iconst (-1), 1) := by decide +kernel
theorem d_BL_size_17 : decode c_BL_size 17 = .ok (.ireturn, 1) := by decide +kernel
theorem d_Mo_init_0 : decode c_Mo_init 0 = .ok (.aload_n 0, 1) := by decide +kernel
theorem d_Mo_init_1 : decode c_Mo_init 1 = .ok (.invokespecial 1, 3) := by decide +kernel
theorem d_Mo_init_4 : decode c_Mo_init 4 = .ok (.aload_n 0, 1) := by decide +kernel
theorem d_Mo_init_5 : decode c_Mo_init 5 = .ok (.sipush 4096, 3) := by decide +kernel
theorem d_Mo_init_8 : decode c_Mo_init 8 = .ok (.newarray .int, 2) := by decide +kernel
theorem d_Mo_init_10 : decode c_Mo_init 10 = .ok (.putfield 7, 3) := by decide +kernel
theorem d_Mo_init_13 : decode c_Mo_init 13 = .ok (.aload_n 0, 1) := by decide +kernel
theorem d_Mo_init_14 : decode c_Mo_init 14 = .ok (.sipush 4096, 3) := by decide +kernel
theorem d_Mo_init_17 : decode c_Mo_init 17 = .ok (.newarray .int, 2) := by decide +kernel
theorem d_Mo_init_19 : decode c_Mo_init 19 = .ok (.putfield 13, 3) := by decide +kernel
theorem d_Mo_init_22 : decode c_Mo_init 22 = .ok (.aload_n 0, 1) := by decide +kernel
theorem d_Mo_init_23 : decode c_Mo_init 23 = .ok (.sipush 4096, 3) := by decide +kernel
theorem d_Mo_init_26 : decode c_Mo_init 26 = .ok (.newarray .int, 2) := by decide +kernel
theorem d_Mo_init_28 : decode c_Mo_init 28 = .ok (.putfield 16, 3) := by decide +kernel
theorem d_Mo_init_31 : decode c_Mo_init 31 = .ok (.aload_n 0, 1) := by decide +kernel
theorem d_Mo_init_32 : decode c_Mo_init 32 = .ok (.sipush 4096, 3) := by decide +kernel
theorem d_Mo_init_35 : decode c_Mo_init 35 = .ok (.newarray .int, 2) := by decide +kernel
theorem d_Mo_init_37 : decode c_Mo_init 37 = .ok (.putfield 19, 3) := by decide +kernel
theorem d_Mo_init_40 : decode c_Mo_init 40 = .ok (.aload_n 0, 1) := by decide +kernel
theorem d_Mo_init_41 : decode c_Mo_init 41 = .ok (.sipush 4096, 3) := by decide +kernel
theorem d_Mo_init_44 : decode c_Mo_init 44 = .ok (.newarray .int, 2) := by decide +kernel
theorem d_Mo_init_46 : decode c_Mo_init 46 = .ok (.putfield 22, 3) := by decide +kernel
theorem d_Mo_init_49 : decode c_Mo_init 49 = .ok (.aload_n 0, 1) := by decide +kernel
theorem d_Mo_init_50 : decode c_Mo_init 50 = .ok (.sipush 1024, 3) := by decide +kernel
theorem d_Mo_init_53 : decode c_Mo_init 53 = .ok (.newarray .int, 2) := by decide +kernel
theorem d_Mo_init_55 : decode c_Mo_init 55 = .ok (.putfield 25, 3) := by decide +kernel
theorem d_Mo_init_58 : decode c_Mo_init 58 = .ok (.aload_n 0, 1) := by decide +kernel
theorem d_Mo_init_59 : decode c_Mo_init 59 = .ok (.sipush 1024, 3) := by decide +kernel
theorem d_Mo_init_62 : decode c_Mo_init 62 = .ok (.newarray .int, 2) := by decide +kernel
theorem d_Mo_init_64 : decode c_Mo_init 64 = .ok (.putfield 28, 3) := by decide +kernel
theorem d_Mo_init_67 : decode c_Mo_init 67 = .ok (.aload_n 0, 1) := by decide +kernel
theorem d_Mo_init_68 : decode c_Mo_init 68 = .ok (.sipush 4096, 3) := by decide +kernel
theorem d_Mo_init_71 : decode c_Mo_init 71 = .ok (.newarray .boolean, 2) := by decide +kernel
theorem d_Mo_init_73 : decode c_Mo_init 73 = .ok (.putfield 31, 3) := by decide +kernel
theorem d_Mo_init_76 : decode c_Mo_init 76 = .ok (.aload_n 0, 1) := by decide +kernel
theorem d_Mo_init_77 : decode c_Mo_init 77 = .ok (.sipush 4096, 3) := by decide +kernel
theorem d_Mo_init_80 : decode c_Mo_init 80 = .ok (.newarray .int, 2) := by decide +kernel
theorem d_Mo_init_82 : decode c_Mo_init 82 = .ok (.putfield 35, 3) := by decide +kernel
theorem d_Mo_init_85 : decode c_Mo_init 85 = .ok (.aload_n 0, 1) := by decide +kernel
theorem d_Mo_init_86 : decode c_Mo_init 86 = .ok (.sipush 4096, 3) := by decide +kernel
theorem d_Mo_init_89 : decode c_Mo_init 89 = .ok (.newarray .int, 2) := by decide +kernel
theorem d_Mo_init_91 : decode c_Mo_init 91 = .ok (.putfield 38, 3) := by decide +kernel
theorem d_Mo_init_94 : decode c_Mo_init 94 = .ok (.aload_n 0, 1) := by decide +kernel
theorem d_Mo_init_95 : decode c_Mo_init 95 = .ok (.sipush 4096, 3) := by decide +kernel
theorem d_Mo_init_98 : decode c_Mo_init 98 = .ok (.newarray .int, 2) := by decide +kernel
theorem d_Mo_init_100 : decode c_Mo_init 100 = .ok (.putfield 41, 3) := by decide +kernel
theorem d_Mo_init_103 : decode c_Mo_init 103 = .ok (.aload_n 0, 1) := by decide +kernel
theorem d_Mo_init_104 : decode c_Mo_init 104 = .ok (.sipush 1024, 3) := by decide +kernel
theorem d_Mo_init_107 : decode c_Mo_init 107 = .ok (.newarray .int, 2) := by decide +kernel
theorem d_Mo_init_109 : decode c_Mo_init 109 = .ok (.putfield 44, 3) := by decide +kernel
theorem d_Mo_init_112 : decode c_Mo_init 112 = .ok (.aload_n 0, 1) := by decide +kernel
theorem d_Mo_init_113 : decode c_Mo_init 113 = .ok (.iconst 4, 1) := by decide +kernel
theorem d_Mo_init_114 : decode c_Mo_init 114 = .ok (.newarray .int, 2) := by decide +kernel
theorem d_Mo_init_116 : decode c_Mo_init 116 = .ok (.putfield 47, 3) := by decide +kernel
theorem d_Mo_init_119 : decode c_Mo_init 119 = .ok (.aload_n 0, 1) := by decide +kernel
theorem d_Mo_init_120 : decode c_Mo_init 120 = .ok (.sipush 4096, 3) := by decide +kernel
theorem d_Mo_init_123 : decode c_Mo_init 123 = .ok (.newarray .boolean, 2) := by decide +kernel
theorem d_Mo_init_125 : decode c_Mo_init 125 = .ok (.putfield 50, 3) := by decide +kernel
theorem d_Mo_init_128 : decode c_Mo_init 128 = .ok (.return_, 1) := by decide +kernel
theorem d_Mo_clear_0 : decode c_Mo_clear 0 = .ok (.aload_n 0, 1) := by decide +kernel
theorem d_Mo_clear_1 : decode c_Mo_clear 1 = .ok (.iconst 0, 1) := by decide +kernel
theorem d_Mo_clear_2 : decode c_Mo_clear 2 = .ok (.putfield 53, 3) := by decide +kernel
theorem d_Mo_clear_5 : decode c_Mo_clear 5 = .ok (.aload_n 0, 1) := by decide +kernel
theorem d_Mo_clear_6 : decode c_Mo_clear 6 = .ok (.iconst 0, 1) := by decide +kernel
theorem d_Mo_clear_7 : decode c_Mo_clear 7 = .ok (.putfield 57, 3) := by decide +kernel
theorem d_Mo_clear_10 : decode c_Mo_clear 10 = .ok (.aload_n 0, 1) := by decide +kernel
theorem d_Mo_clear_11 : decode c_Mo_clear 11 = .ok (.iconst 0, 1) := by decide +kernel
theorem d_Mo_clear_12 : decode c_Mo_clear 12 = .ok (.putfield 60, 3) := by decide +kernel
theorem d_Mo_clear_15 : decode c_Mo_clear 15 = .ok (.iconst 0, 1) := by decide +kernel
theorem d_Mo_clear_16 : decode c_Mo_clear 16 = .ok (.istore_n 1, 1) := by decide +kernel
theorem d_Mo_clear_17 : decode c_Mo_clear 17 = .ok (.iload_n 1, 1) := by decide +kernel
theorem d_Mo_clear_18 : decode c_Mo_clear 18 = .ok (.iconst 4, 1) := by decide +kernel
theorem d_Mo_clear_19 : decode c_Mo_clear 19 = .ok (.if_icmp .ge 16, 3) := by decide +kernel
theorem d_Mo_clear_22 : decode c_Mo_clear 22 = .ok (.aload_n 0, 1) := by decide +kernel
theorem d_Mo_clear_23 : decode c_Mo_clear 23 = .ok (.getfield 47, 3) := by decide +kernel
theorem d_Mo_clear_26 : decode c_Mo_clear 26 = .ok (.iload_n 1, 1) := by decide +kernel
theorem d_Mo_clear_27 : decode c_Mo_clear 27 = .ok (.iconst 0, 1) := by decide +kernel
theorem d_Mo_clear_28 : decode c_Mo_clear 28 = .ok (.iastore, 1) := by decide +kernel
theorem d_Mo_clear_29 : decode c_Mo_clear 29 = .ok (.iinc 1 1, 3) := by decide +kernel
theorem d_Mo_clear_32 : decode c_Mo_clear 32 = .ok (.goto (-15), 3) := by decide +kernel
theorem d_Mo_clear_35 : decode c_Mo_clear 35 = .ok (.return_, 1) := by decide +kernel
theorem d_Mo_bytes_0 : decode c_Mo_bytes 0 = .ok (.aload_n 0, 1) := by decide +kernel
theorem d_Mo_bytes_1 : decode c_Mo_bytes 1 = .ok (.iload_n 1, 1) := by decide +kernel
theorem d_Mo_bytes_2 : decode c_Mo_bytes 2 = .ok (.iload_n 2, 1) := by decide +kernel
theorem d_Mo_bytes_3 : decode c_Mo_bytes 3 = .ok (.iconst 0, 1) := by decide +kernel
theorem d_Mo_bytes_4 : decode c_Mo_bytes 4 = .ok (.iload_n 2, 1) := by decide +kernel
theorem d_Mo_bytes_5 : decode c_Mo_bytes 5 = .ok (.ifCond .lt 13, 3) := by decide +kernel
theorem d_Mo_bytes_8 : decode c_Mo_bytes 8 = .ok (.iload_n 2, 1) := by decide +kernel
theorem d_Mo_bytes_9 : decode c_Mo_bytes 9 = .ok (.ldc 63, 2) := by decide +kernel
theorem d_Mo_bytes_11 : decode c_Mo_bytes 11 = .ok (.if_icmp .gt 7, 3) := by decide +kernel
theorem d_Mo_bytes_14 : decode c_Mo_bytes 14 = .ok (.iconst 1, 1) := by decide +kernel
theorem d_Mo_bytes_15 : decode c_Mo_bytes 15 = .ok (.goto 4, 3) := by decide +kernel
theorem d_Mo_bytes_18 : decode c_Mo_bytes 18 = .ok (.iconst 0, 1) := by decide +kernel
theorem d_Mo_bytes_19 : decode c_Mo_bytes 19 = .ok (.invokevirtual 64, 3) := by decide +kernel
theorem d_Mo_bytes_22 : decode c_Mo_bytes 22 = .ok (.ireturn, 1) := by decide +kernel
theorem d_Mo_add_0 : decode c_Mo_add 0 = .ok (.aload_n 0, 1) := by decide +kernel
theorem d_Mo_add_1 : decode c_Mo_add 1 = .ok (.iconst 0, 1) := by decide +kernel
theorem d_Mo_add_2 : decode c_Mo_add 2 = .ok (.putfield 53, 3) := by decide +kernel
theorem d_Mo_add_5 : decode c_Mo_add 5 = .ok (.iload_n 1, 1) := by decide +kernel
theorem d_Mo_add_6 : decode c_Mo_add 6 = .ok (.ifCond .lt 23, 3) := by decide +kernel
theorem d_Mo_add_9 : decode c_Mo_add 9 = .ok (.iload_n 1, 1) := by decide +kernel
theorem d_Mo_add_10 : decode c_Mo_add 10 = .ok (.iconst 3, 1) := by decide +kernel
theorem d_Mo_add_11 : decode c_Mo_add 11 = .ok (.if_icmp .gt 18, 3) := by decide +kernel
theorem d_Mo_add_14 : decode c_Mo_add 14 = .ok (.iload 4, 2) := by decide +kernel
theorem d_Mo_add_16 : decode c_Mo_add 16 = .ok (.ifCond .eq 13, 3) := by decide +kernel
theorem d_Mo_add_19 : decode c_Mo_add 19 = .ok (.aload_n 0, 1) := by decide +kernel
theorem d_Mo_add_20 : decode c_Mo_add 20 = .ok (.getfield 57, 3) := by decide +kernel
theorem d_Mo_add_23 : decode c_Mo_add 23 = .ok (.sipush 4096, 3) := by decide +kernel
theorem d_Mo_add_26 : decode c_Mo_add 26 = .ok (.if_icmp .ne 5, 3) := by decide +kernel
theorem d_Mo_add_29 : decode c_Mo_add 29 = .ok (.iconst (-1), 1) := by decide +kernel
theorem d_Mo_add_30 : decode c_Mo_add 30 = .ok (.ireturn, 1) := by decide +kernel
theorem d_Mo_add_31 : decode c_Mo_add 31 = .ok (.aload_n 0, 1) := by decide +kernel
theorem d_Mo_add_32 : decode c_Mo_add 32 = .ok (.getfield 57, 3) := by decide +kernel
theorem d_Mo_add_35 : decode c_Mo_add 35 = .ok (.istore 5, 2) := by decide +kernel
theorem d_Mo_add_37 : decode c_Mo_add 37 = .ok (.aload_n 0, 1) := by decide +kernel
theorem d_Mo_add_38 : decode c_Mo_add 38 = .ok (.getfield 7, 3) := by decide +kernel
theorem d_Mo_add_41 : decode c_Mo_add 41 = .ok (.iload 5, 2) := by decide +kernel
theorem d_Mo_add_43 : decode c_Mo_add 43 = .ok (.iload_n 3, 1) := by decide +kernel
theorem d_Mo_add_44 : decode c_Mo_add 44 = .ok (.iastore, 1) := by decide +kernel
theorem d_Mo_add_45 : decode c_Mo_add 45 = .ok (.aload_n 0, 1) := by decide +kernel
theorem d_Mo_add_46 : decode c_Mo_add 46 = .ok (.getfield 13, 3) := by decide +kernel
theorem d_Mo_add_49 : decode c_Mo_add 49 = .ok (.iload 5, 2) := by decide +kernel
theorem d_Mo_add_51 : decode c_Mo_add 51 = .ok (.iload_n 1, 1) := by decide +kernel
theorem d_Mo_add_52 : decode c_Mo_add 52 = .ok (.iastore, 1) := by decide +kernel
theorem d_Mo_add_53 : decode c_Mo_add 53 = .ok (.aload_n 0, 1) := by decide +kernel
theorem d_Mo_add_54 : decode c_Mo_add 54 = .ok (.getfield 16, 3) := by decide +kernel
theorem d_Mo_add_57 : decode c_Mo_add 57 = .ok (.iload 5, 2) := by decide +kernel
theorem d_Mo_add_59 : decode c_Mo_add 59 = .ok (.iload_n 2, 1) := by decide +kernel
theorem d_Mo_add_60 : decode c_Mo_add 60 = .ok (.iastore, 1) := by decide +kernel
theorem d_Mo_add_61 : decode c_Mo_add 61 = .ok (.aload_n 0, 1) := by decide +kernel
theorem d_Mo_add_62 : decode c_Mo_add 62 = .ok (.getfield 19, 3) := by decide +kernel
theorem d_Mo_add_65 : decode c_Mo_add 65 = .ok (.iload 5, 2) := by decide +kernel
theorem d_Mo_add_67 : decode c_Mo_add 67 = .ok (.iconst (-1), 1) := by decide +kernel
theorem d_Mo_add_68 : decode c_Mo_add 68 = .ok (.iastore, 1) := by decide +kernel
theorem d_Mo_add_69 : decode c_Mo_add 69 = .ok (.aload_n 0, 1) := by decide +kernel
theorem d_Mo_add_70 : decode c_Mo_add 70 = .ok (.getfield 22, 3) := by decide +kernel
theorem d_Mo_add_73 : decode c_Mo_add 73 = .ok (.iload 5, 2) := by decide +kernel
theorem d_Mo_add_75 : decode c_Mo_add 75 = .ok (.iconst 0, 1) := by decide +kernel
theorem d_Mo_add_76 : decode c_Mo_add 76 = .ok (.iastore, 1) := by decide +kernel
theorem d_Mo_add_77 : decode c_Mo_add 77 = .ok (.aload_n 0, 1) := by decide +kernel
theorem d_Mo_add_78 : decode c_Mo_add 78 = .ok (.getfield 31, 3) := by decide +kernel
theorem d_Mo_add_81 : decode c_Mo_add 81 = .ok (.iload 5, 2) := by decide +kernel
theorem d_Mo_add_83 : decode c_Mo_add 83 = .ok (.iconst 0, 1) := by decide +kernel
theorem d_Mo_add_84 : decode c_Mo_add 84 = .ok (.bastore, 1) := by decide +kernel
theorem d_Mo_add_85 : decode c_Mo_add 85 = .ok (.aload_n 0, 1) := by decide +kernel
theorem d_Mo_add_86 : decode c_Mo_add 86 = .ok (.getfield 35, 3) := by decide +kernel
theorem d_Mo_add_89 : decode c_Mo_add 89 = .ok (.iload 5, 2) := by decide +kernel
theorem d_Mo_add_91 : decode c_Mo_add 91 = .ok (.iconst 0, 1) := by decide +kernel
theorem d_Mo_add_92 : decode c_Mo_add 92 = .ok (.iastore, 1) := by decide +kernel
theorem d_Mo_add_93 : decode c_Mo_add 93 = .ok (.aload_n 0, 1) := by decide +kernel
theorem d_Mo_add_94 : decode c_Mo_add 94 = .ok (.getfield 38, 3) := by decide +kernel
theorem d_Mo_add_97 : decode c_Mo_add 97 = .ok (.iload 5, 2) := by decide +kernel
theorem d_Mo_add_99 : decode c_Mo_add 99 = .ok (.iconst 0, 1) := by decide +kernel
theorem d_Mo_add_100 : decode c_Mo_add 100 = .ok (.iastore, 1) := by decide +kernel
theorem d_Mo_add_101 : decode c_Mo_add 101 = .ok (.aload_n 0, 1) := by decide +kernel
theorem d_Mo_add_102 : decode c_Mo_add 102 = .ok (.getfield 41, 3) := by decide +kernel
theorem d_Mo_add_105 : decode c_Mo_add 105 = .ok (.iload 5, 2) := by decide +kernel
end
section
theorem d_Mo_add_107 : decode c_Mo_add 107 = .ok (.iconst 0, 1) := by decide +kernel
theorem d_Mo_add_108 : decode c_Mo_add 108 = .ok (.iastore, 1) := by decide +kernel
theorem d_Mo_add_109 : decode c_Mo_add 109 = .ok (.aload_n 0, 1) := by decide +kernel
theorem d_Mo_add_110 : decode c_Mo_add 110 = .ok (.getfield 50, 3) := by decide +kernel
theorem d_Mo_add_113 : decode c_Mo_add 113 = .ok (.iload 5, 2) := by decide +kernel
theorem d_Mo_add_115 : decode c_Mo_add 115 = .ok (.iconst 0, 1) := by decide +kernel
theorem d_Mo_add_116 : decode c_Mo_add 116 = .ok (.bastore, 1) := by decide +kernel
theorem d_Mo_add_117 : decode c_Mo_add 117 = .ok (.aload_n 0, 1) := by decide +kernel
theorem d_Mo_add_118 : decode c_Mo_add 118 = .ok (.dup, 1) := by decide +kernel
theorem d_Mo_add_119 : decode c_Mo_add 119 = .ok (.getfield 57, 3) := by decide +kernel
theorem d_Mo_add_122 : decode c_Mo_add 122 = .ok (.iconst 1, 1) := by decide +kernel
theorem d_Mo_add_123 : decode c_Mo_add 123 = .ok (.iadd, 1) := by decide +kernel
theorem d_Mo_add_124 : decode c_Mo_add 124 = .ok (.putfield 57, 3) := by decide +kernel
theorem d_Mo_add_127 : decode c_Mo_add 127 = .ok (.iload 5, 2) := by decide +kernel
theorem d_Mo_add_129 : decode c_Mo_add 129 = .ok (.ireturn, 1) := by decide +kernel
theorem d_Mo_align_0 : decode c_Mo_align 0 = .ok (.aload_n 0, 1) := by decide +kernel
theorem d_Mo_align_1 : decode c_Mo_align 1 = .ok (.iload_n 1, 1) := by decide +kernel
theorem d_Mo_align_2 : decode c_Mo_align 2 = .ok (.iload_n 2, 1) := by decide +kernel
theorem d_Mo_align_3 : decode c_Mo_align 3 = .ok (.iconst 1, 1) := by decide +kernel
theorem d_Mo_align_4 : decode c_Mo_align 4 = .ok (.iload_n 2, 1) := by decide +kernel
theorem d_Mo_align_5 : decode c_Mo_align 5 = .ok (.ifCond .le 22, 3) := by decide +kernel
theorem d_Mo_align_8 : decode c_Mo_align 8 = .ok (.iload_n 2, 1) := by decide +kernel
theorem d_Mo_align_9 : decode c_Mo_align 9 = .ok (.sipush 4096, 3) := by decide +kernel
theorem d_Mo_align_12 : decode c_Mo_align 12 = .ok (.if_icmp .gt 15, 3) := by decide +kernel
theorem d_Mo_align_15 : decode c_Mo_align 15 = .ok (.iload_n 2, 1) := by decide +kernel
theorem d_Mo_align_16 : decode c_Mo_align 16 = .ok (.iload_n 2, 1) := by decide +kernel
theorem d_Mo_align_17 : decode c_Mo_align 17 = .ok (.iconst 1, 1) := by decide +kernel
theorem d_Mo_align_18 : decode c_Mo_align 18 = .ok (.isub, 1) := by decide +kernel
theorem d_Mo_align_19 : decode c_Mo_align 19 = .ok (.iand, 1) := by decide +kernel
theorem d_Mo_align_20 : decode c_Mo_align 20 = .ok (.ifCond .ne 7, 3) := by decide +kernel
theorem d_Mo_align_23 : decode c_Mo_align 23 = .ok (.iconst 1, 1) := by decide +kernel
theorem d_Mo_align_24 : decode c_Mo_align 24 = .ok (.goto 4, 3) := by decide +kernel
theorem d_Mo_align_27 : decode c_Mo_align 27 = .ok (.iconst 0, 1) := by decide +kernel
theorem d_Mo_align_28 : decode c_Mo_align 28 = .ok (.invokevirtual 64, 3) := by decide +kernel
theorem d_Mo_align_31 : decode c_Mo_align 31 = .ok (.ireturn, 1) := by decide +kernel
theorem d_Mo_branch_0 : decode c_Mo_branch 0 = .ok (.aload_n 0, 1) := by decide +kernel
theorem d_Mo_branch_1 : decode c_Mo_branch 1 = .ok (.iload_n 1, 1) := by decide +kernel
theorem d_Mo_branch_2 : decode c_Mo_branch 2 = .ok (.iload_n 2, 1) := by decide +kernel
theorem d_Mo_branch_3 : decode c_Mo_branch 3 = .ok (.iconst 2, 1) := by decide +kernel
theorem d_Mo_branch_4 : decode c_Mo_branch 4 = .ok (.iload_n 2, 1) := by decide +kernel
theorem d_Mo_branch_5 : decode c_Mo_branch 5 = .ok (.iconst 5, 1) := by decide +kernel
theorem d_Mo_branch_6 : decode c_Mo_branch 6 = .ok (.if_icmp .eq 9, 3) := by decide +kernel
theorem d_Mo_branch_9 : decode c_Mo_branch 9 = .ok (.iload_n 2, 1) := by decide +kernel
theorem d_Mo_branch_10 : decode c_Mo_branch 10 = .ok (.bipush 6, 2) := by decide +kernel
theorem d_Mo_branch_12 : decode c_Mo_branch 12 = .ok (.if_icmp .ne 7, 3) := by decide +kernel
theorem d_Mo_branch_15 : decode c_Mo_branch 15 = .ok (.iconst 1, 1) := by decide +kernel
theorem d_Mo_branch_16 : decode c_Mo_branch 16 = .ok (.goto 4, 3) := by decide +kernel
theorem d_Mo_branch_19 : decode c_Mo_branch 19 = .ok (.iconst 0, 1) := by decide +kernel
theorem d_Mo_branch_20 : decode c_Mo_branch 20 = .ok (.invokevirtual 64, 3) := by decide +kernel
theorem d_Mo_branch_23 : decode c_Mo_branch 23 = .ok (.ireturn, 1) := by decide +kernel
theorem d_Mo_label_0 : decode c_Mo_label 0 = .ok (.aload_n 0, 1) := by decide +kernel
theorem d_Mo_label_1 : decode c_Mo_label 1 = .ok (.iconst 0, 1) := by decide +kernel
theorem d_Mo_label_2 : decode c_Mo_label 2 = .ok (.putfield 53, 3) := by decide +kernel
theorem d_Mo_label_5 : decode c_Mo_label 5 = .ok (.iload_n 1, 1) := by decide +kernel
theorem d_Mo_label_6 : decode c_Mo_label 6 = .ok (.ifCond .lt 18, 3) := by decide +kernel
theorem d_Mo_label_9 : decode c_Mo_label 9 = .ok (.iload_n 1, 1) := by decide +kernel
theorem d_Mo_label_10 : decode c_Mo_label 10 = .ok (.iconst 3, 1) := by decide +kernel
theorem d_Mo_label_11 : decode c_Mo_label 11 = .ok (.if_icmp .gt 13, 3) := by decide +kernel
theorem d_Mo_label_14 : decode c_Mo_label 14 = .ok (.aload_n 0, 1) := by decide +kernel
theorem d_Mo_label_15 : decode c_Mo_label 15 = .ok (.getfield 60, 3) := by decide +kernel
theorem d_Mo_label_18 : decode c_Mo_label 18 = .ok (.sipush 1024, 3) := by decide +kernel
theorem d_Mo_label_21 : decode c_Mo_label 21 = .ok (.if_icmp .ne 5, 3) := by decide +kernel
theorem d_Mo_label_24 : decode c_Mo_label 24 = .ok (.iconst (-1), 1) := by decide +kernel
theorem d_Mo_label_25 : decode c_Mo_label 25 = .ok (.ireturn, 1) := by decide +kernel
theorem d_Mo_label_26 : decode c_Mo_label 26 = .ok (.aload_n 0, 1) := by decide +kernel
theorem d_Mo_label_27 : decode c_Mo_label 27 = .ok (.getfield 25, 3) := by decide +kernel
theorem d_Mo_label_30 : decode c_Mo_label 30 = .ok (.aload_n 0, 1) := by decide +kernel
theorem d_Mo_label_31 : decode c_Mo_label 31 = .ok (.getfield 60, 3) := by decide +kernel
theorem d_Mo_label_34 : decode c_Mo_label 34 = .ok (.iload_n 1, 1) := by decide +kernel
theorem d_Mo_label_35 : decode c_Mo_label 35 = .ok (.iastore, 1) := by decide +kernel
theorem d_Mo_label_36 : decode c_Mo_label 36 = .ok (.aload_n 0, 1) := by decide +kernel
theorem d_Mo_label_37 : decode c_Mo_label 37 = .ok (.getfield 28, 3) := by decide +kernel
theorem d_Mo_label_40 : decode c_Mo_label 40 = .ok (.aload_n 0, 1) := by decide +kernel
theorem d_Mo_label_41 : decode c_Mo_label 41 = .ok (.getfield 60, 3) := by decide +kernel
theorem d_Mo_label_44 : decode c_Mo_label 44 = .ok (.aload_n 0, 1) := by decide +kernel
theorem d_Mo_label_45 : decode c_Mo_label 45 = .ok (.getfield 57, 3) := by decide +kernel
theorem d_Mo_label_48 : decode c_Mo_label 48 = .ok (.iastore, 1) := by decide +kernel
theorem d_Mo_label_49 : decode c_Mo_label 49 = .ok (.aload_n 0, 1) := by decide +kernel
theorem d_Mo_label_50 : decode c_Mo_label 50 = .ok (.getfield 44, 3) := by decide +kernel
theorem d_Mo_label_53 : decode c_Mo_label 53 = .ok (.aload_n 0, 1) := by decide +kernel
theorem d_Mo_label_54 : decode c_Mo_label 54 = .ok (.getfield 60, 3) := by decide +kernel
theorem d_Mo_label_57 : decode c_Mo_label 57 = .ok (.iconst 0, 1) := by decide +kernel
theorem d_Mo_label_58 : decode c_Mo_label 58 = .ok (.iastore, 1) := by decide +kernel
theorem d_Mo_label_59 : decode c_Mo_label 59 = .ok (.aload_n 0, 1) := by decide +kernel
theorem d_Mo_label_60 : decode c_Mo_label 60 = .ok (.dup, 1) := by decide +kernel
theorem d_Mo_label_61 : decode c_Mo_label 61 = .ok (.getfield 60, 3) := by decide +kernel
theorem d_Mo_label_64 : decode c_Mo_label 64 = .ok (.iconst 1, 1) := by decide +kernel
theorem d_Mo_label_65 : decode c_Mo_label 65 = .ok (.iadd, 1) := by decide +kernel
theorem d_Mo_label_66 : decode c_Mo_label 66 = .ok (.putfield 60, 3) := by decide +kernel
theorem d_Mo_label_69 : decode c_Mo_label 69 = .ok (.aload_n 0, 1) := by decide +kernel
theorem d_Mo_label_70 : decode c_Mo_label 70 = .ok (.getfield 60, 3) := by decide +kernel
theorem d_Mo_label_73 : decode c_Mo_label 73 = .ok (.iconst 1, 1) := by decide +kernel
theorem d_Mo_label_74 : decode c_Mo_label 74 = .ok (.isub, 1) := by decide +kernel
theorem d_Mo_label_75 : decode c_Mo_label 75 = .ok (.ireturn, 1) := by decide +kernel
theorem d_Mo_go_0 : decode c_Mo_go 0 = .ok (.aload_n 0, 1) := by decide +kernel
theorem d_Mo_go_1 : decode c_Mo_go 1 = .ok (.iconst 0, 1) := by decide +kernel
theorem d_Mo_go_2 : decode c_Mo_go 2 = .ok (.putfield 53, 3) := by decide +kernel
theorem d_Mo_go_5 : decode c_Mo_go 5 = .ok (.iload_n 1, 1) := by decide +kernel
theorem d_Mo_go_6 : decode c_Mo_go 6 = .ok (.ifCond .lt 21, 3) := by decide +kernel
theorem d_Mo_go_9 : decode c_Mo_go 9 = .ok (.iload_n 1, 1) := by decide +kernel
theorem d_Mo_go_10 : decode c_Mo_go 10 = .ok (.aload_n 0, 1) := by decide +kernel
theorem d_Mo_go_11 : decode c_Mo_go 11 = .ok (.getfield 57, 3) := by decide +kernel
theorem d_Mo_go_14 : decode c_Mo_go 14 = .ok (.if_icmp .ge 13, 3) := by decide +kernel
theorem d_Mo_go_17 : decode c_Mo_go 17 = .ok (.aload_n 0, 1) := by decide +kernel
theorem d_Mo_go_18 : decode c_Mo_go 18 = .ok (.getfield 7, 3) := by decide +kernel
theorem d_Mo_go_21 : decode c_Mo_go 21 = .ok (.iload_n 1, 1) := by decide +kernel
theorem d_Mo_go_22 : decode c_Mo_go 22 = .ok (.iaload, 1) := by decide +kernel
theorem d_Mo_go_23 : decode c_Mo_go 23 = .ok (.iconst 2, 1) := by decide +kernel
theorem d_Mo_go_24 : decode c_Mo_go 24 = .ok (.if_icmp .eq 5, 3) := by decide +kernel
theorem d_Mo_go_27 : decode c_Mo_go 27 = .ok (.iconst 0, 1) := by decide +kernel
theorem d_Mo_go_28 : decode c_Mo_go 28 = .ok (.ireturn, 1) := by decide +kernel
theorem d_Mo_go_29 : decode c_Mo_go 29 = .ok (.bipush (-2), 2) := by decide +kernel
theorem d_Mo_go_31 : decode c_Mo_go 31 = .ok (.iload_n 2, 1) := by decide +kernel
theorem d_Mo_go_32 : decode c_Mo_go 32 = .ok (.isub, 1) := by decide +kernel
theorem d_Mo_go_33 : decode c_Mo_go 33 = .ok (.istore 4, 2) := by decide +kernel
theorem d_Mo_go_35 : decode c_Mo_go 35 = .ok (.iload_n 2, 1) := by decide +kernel
theorem d_Mo_go_36 : decode c_Mo_go 36 = .ok (.ifCond .lt 34, 3) := by decide +kernel
theorem d_Mo_go_39 : decode c_Mo_go 39 = .ok (.iload_n 2, 1) := by decide +kernel
theorem d_Mo_go_40 : decode c_Mo_go 40 = .ok (.aload_n 0, 1) := by decide +kernel
theorem d_Mo_go_41 : decode c_Mo_go 41 = .ok (.getfield 60, 3) := by decide +kernel
theorem d_Mo_go_44 : decode c_Mo_go 44 = .ok (.if_icmp .ge 22, 3) := by decide +kernel
theorem d_Mo_go_47 : decode c_Mo_go 47 = .ok (.aload_n 0, 1) := by decide +kernel
theorem d_Mo_go_48 : decode c_Mo_go 48 = .ok (.getfield 25, 3) := by decide +kernel
theorem d_Mo_go_51 : decode c_Mo_go 51 = .ok (.iload_n 2, 1) := by decide +kernel
theorem d_Mo_go_52 : decode c_Mo_go 52 = .ok (.iaload, 1) := by decide +kernel
theorem d_Mo_go_53 : decode c_Mo_go 53 = .ok (.aload_n 0, 1) := by decide +kernel
theorem d_Mo_go_54 : decode c_Mo_go 54 = .ok (.getfield 13, 3) := by decide +kernel
theorem d_Mo_go_57 : decode c_Mo_go 57 = .ok (.iload_n 1, 1) := by decide +kernel
theorem d_Mo_go_58 : decode c_Mo_go 58 = .ok (.iaload, 1) := by decide +kernel
theorem d_Mo_go_59 : decode c_Mo_go 59 = .ok (.if_icmp .ne 7, 3) := by decide +kernel
theorem d_Mo_go_62 : decode c_Mo_go 62 = .ok (.iconst 1, 1) := by decide +kernel
theorem d_Mo_go_63 : decode c_Mo_go 63 = .ok (.goto 47, 3) := by decide +kernel
theorem d_Mo_go_66 : decode c_Mo_go 66 = .ok (.iconst 0, 1) := by decide +kernel
theorem d_Mo_go_67 : decode c_Mo_go 67 = .ok (.goto 43, 3) := by decide +kernel
theorem d_Mo_go_70 : decode c_Mo_go 70 = .ok (.iload_n 2, 1) := by decide +kernel
theorem d_Mo_go_71 : decode c_Mo_go 71 = .ok (.iconst (-1), 1) := by decide +kernel
theorem d_Mo_go_72 : decode c_Mo_go 72 = .ok (.if_icmp .ge 37, 3) := by decide +kernel
theorem d_Mo_go_75 : decode c_Mo_go 75 = .ok (.iload 4, 2) := by decide +kernel
theorem d_Mo_go_77 : decode c_Mo_go 77 = .ok (.ifCond .lt 32, 3) := by decide +kernel
theorem d_Mo_go_80 : decode c_Mo_go 80 = .ok (.iload 4, 2) := by decide +kernel
theorem d_Mo_go_82 : decode c_Mo_go 82 = .ok (.aload_n 0, 1) := by decide +kernel
theorem d_Mo_go_83 : decode c_Mo_go 83 = .ok (.getfield 57, 3) := by decide +kernel
theorem d_Mo_go_86 : decode c_Mo_go 86 = .ok (.if_icmp .ge 23, 3) := by decide +kernel
theorem d_Mo_go_89 : decode c_Mo_go 89 = .ok (.aload_n 0, 1) := by decide +kernel
theorem d_Mo_go_90 : decode c_Mo_go 90 = .ok (.getfield 13, 3) := by decide +kernel
theorem d_Mo_go_93 : decode c_Mo_go 93 = .ok (.iload 4, 2) := by decide +kernel
theorem d_Mo_go_95 : decode c_Mo_go 95 = .ok (.iaload, 1) := by decide +kernel
theorem d_Mo_go_96 : decode c_Mo_go 96 = .ok (.aload_n 0, 1) := by decide +kernel
theorem d_Mo_go_97 : decode c_Mo_go 97 = .ok (.getfield 13, 3) := by decide +kernel
theorem d_Mo_go_100 : decode c_Mo_go 100 = .ok (.iload_n 1, 1) := by decide +kernel
theorem d_Mo_go_101 : decode c_Mo_go 101 = .ok (.iaload, 1) := by decide +kernel
theorem d_Mo_go_102 : decode c_Mo_go 102 = .ok (.if_icmp .ne 7, 3) := by decide +kernel
theorem d_Mo_go_105 : decode c_Mo_go 105 = .ok (.iconst 1, 1) := by decide +kernel
theorem d_Mo_go_106 : decode c_Mo_go 106 = .ok (.goto 4, 3) := by decide +kernel
theorem d_Mo_go_109 : decode c_Mo_go 109 = .ok (.iconst 0, 1) := by decide +kernel
theorem d_Mo_go_110 : decode c_Mo_go 110 = .ok (.istore 5, 2) := by decide +kernel
theorem d_Mo_go_112 : decode c_Mo_go 112 = .ok (.iload 5, 2) := by decide +kernel
theorem d_Mo_go_114 : decode c_Mo_go 114 = .ok (.ifCond .ne 5, 3) := by decide +kernel
theorem d_Mo_go_117 : decode c_Mo_go 117 = .ok (.iconst 0, 1) := by decide +kernel
theorem d_Mo_go_118 : decode c_Mo_go 118 = .ok (.ireturn, 1) := by decide +kernel
theorem d_Mo_go_119 : decode c_Mo_go 119 = .ok (.aload_n 0, 1) := by decide +kernel
theorem d_Mo_go_120 : decode c_Mo_go 120 = .ok (.getfield 19, 3) := by decide +kernel
theorem d_Mo_go_123 : decode c_Mo_go 123 = .ok (.iload_n 1, 1) := by decide +kernel
theorem d_Mo_go_124 : decode c_Mo_go 124 = .ok (.iload_n 2, 1) := by decide +kernel
theorem d_Mo_go_125 : decode c_Mo_go 125 = .ok (.iastore, 1) := by decide +kernel
theorem d_Mo_go_126 : decode c_Mo_go 126 = .ok (.aload_n 0, 1) := by decide +kernel
theorem d_Mo_go_127 : decode c_Mo_go 127 = .ok (.getfield 22, 3) := by decide +kernel
theorem d_Mo_go_130 : decode c_Mo_go 130 = .ok (.iload_n 1, 1) := by decide +kernel
theorem d_Mo_go_131 : decode c_Mo_go 131 = .ok (.iload_n 3, 1) := by decide +kernel
theorem d_Mo_go_132 : decode c_Mo_go 132 = .ok (.iastore, 1) := by decide +kernel
theorem d_Mo_go_133 : decode c_Mo_go 133 = .ok (.iconst 1, 1) := by decide +kernel
theorem d_Mo_go_134 : decode c_Mo_go 134 = .ok (.ireturn, 1) := by decide +kernel
theorem d_Mo_relax_0 : decode c_Mo_relax 0 = .ok (.aload_n 0, 1) := by decide +kernel
theorem d_Mo_relax_1 : decode c_Mo_relax 1 = .ok (.iconst 0, 1) := by decide +kernel
theorem d_Mo_relax_2 : decode c_Mo_relax 2 = .ok (.putfield 53, 3) := by decide +kernel
theorem d_Mo_relax_5 : decode c_Mo_relax 5 = .ok (.iconst 0, 1) := by decide +kernel
theorem d_Mo_relax_6 : decode c_Mo_relax 6 = .ok (.istore_n 1, 1) := by decide +kernel
theorem d_Mo_relax_7 : decode c_Mo_relax 7 = .ok (.iload_n 1, 1) := by decide +kernel
theorem d_Mo_relax_8 : decode c_Mo_relax 8 = .ok (.aload_n 0, 1) := by decide +kernel
theorem d_Mo_relax_9 : decode c_Mo_relax 9 = .ok (.getfield 57, 3) := by decide +kernel
theorem d_Mo_relax_12 : decode c_Mo_relax 12 = .ok (.if_icmp .ge 40, 3) := by decide +kernel
theorem d_Mo_relax_15 : decode c_Mo_relax 15 = .ok (.aload_n 0, 1) := by decide +kernel
theorem d_Mo_relax_16 : decode c_Mo_relax 16 = .ok (.getfield 31, 3) := by decide +kernel
theorem d_Mo_relax_19 : decode c_Mo_relax 19 = .ok (.iload_n 1, 1) := by decide +kernel
theorem d_Mo_relax_20 : decode c_Mo_relax 20 = .ok (.aload_n 0, 1) := by decide +kernel
theorem d_Mo_relax_21 : decode c_Mo_relax 21 = .ok (.getfield 7, 3) := by decide +kernel
theorem d_Mo_relax_24 : decode c_Mo_relax 24 = .ok (.iload_n 1, 1) := by decide +kernel
theorem d_Mo_relax_25 : decode c_Mo_relax 25 = .ok (.iaload, 1) := by decide +kernel
theorem d_Mo_relax_26 : decode c_Mo_relax 26 = .ok (.iconst 2, 1) := by decide +kernel
theorem d_Mo_relax_27 : decode c_Mo_relax 27 = .ok (.if_icmp .ne 17, 3) := by decide +kernel
theorem d_Mo_relax_30 : decode c_Mo_relax 30 = .ok (.aload_n 0, 1) := by decide +kernel
theorem d_Mo_relax_31 : decode c_Mo_relax 31 = .ok (.getfield 19, 3) := by decide +kernel
theorem d_Mo_relax_34 : decode c_Mo_relax 34 = .ok (.iload_n 1, 1) := by decide +kernel
theorem d_Mo_relax_35 : decode c_Mo_relax 35 = .ok (.iaload, 1) := by decide +kernel
theorem d_Mo_relax_36 : decode c_Mo_relax 36 = .ok (.iconst (-1), 1) := by decide +kernel
theorem d_Mo_relax_37 : decode c_Mo_relax 37 = .ok (.if_icmp .eq 7, 3) := by decide +kernel
theorem d_Mo_relax_40 : decode c_Mo_relax 40 = .ok (.iconst 1, 1) := by decide +kernel
theorem d_Mo_relax_41 : decode c_Mo_relax 41 = .ok (.goto 4, 3) := by decide +kernel
theorem d_Mo_relax_44 : decode c_Mo_relax 44 = .ok (.iconst 0, 1) := by decide +kernel
theorem d_Mo_relax_45 : decode c_Mo_relax 45 = .ok (.bastore, 1) := by decide +kernel
theorem d_Mo_relax_46 : decode c_Mo_relax 46 = .ok (.iinc 1 1, 3) := by decide +kernel
theorem d_Mo_relax_49 : decode c_Mo_relax 49 = .ok (.goto (-42), 3) := by decide +kernel
theorem d_Mo_relax_52 : decode c_Mo_relax 52 = .ok (.iconst 1, 1) := by decide +kernel
theorem d_Mo_relax_53 : decode c_Mo_relax 53 = .ok (.istore_n 1, 1) := by decide +kernel
theorem d_Mo_relax_54 : decode c_Mo_relax 54 = .ok (.iconst 0, 1) := by decide +kernel
theorem d_Mo_relax_55 : decode c_Mo_relax 55 = .ok (.istore_n 2, 1) := by decide +kernel
theorem d_Mo_relax_56 : decode c_Mo_relax 56 = .ok (.iload_n 2, 1) := by decide +kernel
theorem d_Mo_relax_57 : decode c_Mo_relax 57 = .ok (.sipush 5000, 3) := by decide +kernel
theorem d_Mo_relax_60 : decode c_Mo_relax 60 = .ok (.if_icmp .ge 94, 3) := by decide +kernel
theorem d_Mo_relax_63 : decode c_Mo_relax 63 = .ok (.iload_n 1, 1) := by decide +kernel
theorem d_Mo_relax_64 : decode c_Mo_relax 64 = .ok (.ifCond .eq 90, 3) := by decide +kernel
theorem d_Mo_relax_67 : decode c_Mo_relax 67 = .ok (.iconst 0, 1) := by decide +kernel
theorem d_Mo_relax_68 : decode c_Mo_relax 68 = .ok (.istore_n 3, 1) := by decide +kernel
theorem d_Mo_relax_69 : decode c_Mo_relax 69 = .ok (.iload_n 3, 1) := by decide +kernel
theorem d_Mo_relax_70 : decode c_Mo_relax 70 = .ok (.iconst 4, 1) := by decide +kernel
theorem d_Mo_relax_71 : decode c_Mo_relax 71 = .ok (.if_icmp .ge 14, 3) := by decide +kernel
theorem d_Mo_relax_74 : decode c_Mo_relax 74 = .ok (.aload_n 0, 1) := by decide +kernel
theorem d_Mo_relax_75 : decode c_Mo_relax 75 = .ok (.iload_n 3, 1) := by decide +kernel
theorem d_Mo_relax_76 : decode c_Mo_relax 76 = .ok (.invokevirtual 68, 3) := by decide +kernel
theorem d_Mo_relax_79 : decode c_Mo_relax 79 = .ok (.iinc 3 1, 3) := by decide +kernel
theorem d_Mo_relax_82 : decode c_Mo_relax 82 = .ok (.goto (-13), 3) := by decide +kernel
theorem d_Mo_relax_85 : decode c_Mo_relax 85 = .ok (.iconst 0, 1) := by decide +kernel
theorem d_Mo_relax_86 : decode c_Mo_relax 86 = .ok (.istore_n 1, 1) := by decide +kernel
theorem d_Mo_relax_87 : decode c_Mo_relax 87 = .ok (.iconst 0, 1) := by decide +kernel
theorem d_Mo_relax_88 : decode c_Mo_relax 88 = .ok (.istore_n 3, 1) := by decide +kernel
theorem d_Mo_relax_89 : decode c_Mo_relax 89 = .ok (.iload_n 3, 1) := by decide +kernel
theorem d_Mo_relax_90 : decode c_Mo_relax 90 = .ok (.aload_n 0, 1) := by decide +kernel
theorem d_Mo_relax_91 : decode c_Mo_relax 91 = .ok (.getfield 57, 3) := by decide +kernel
theorem d_Mo_relax_94 : decode c_Mo_relax 94 = .ok (.if_icmp .ge 54, 3) := by decide +kernel
theorem d_Mo_relax_97 : decode c_Mo_relax 97 = .ok (.aload_n 0, 1) := by decide +kernel
theorem d_Mo_relax_98 : decode c_Mo_relax 98 = .ok (.getfield 31, 3) := by decide +kernel
theorem d_Mo_relax_101 : decode c_Mo_relax 101 = .ok (.iload_n 3, 1) := by decide +kernel
theorem d_Mo_relax_102 : decode c_Mo_relax 102 = .ok (.baload, 1) := by decide +kernel
theorem d_Mo_relax_103 : decode c_Mo_relax 103 = .ok (.ifCond .eq 39, 3) := by decide +kernel
theorem d_Mo_relax_106 : decode c_Mo_relax 106 = .ok (.aload_n 0, 1) := by decide +kernel
theorem d_Mo_relax_107 : decode c_Mo_relax 107 = .ok (.iload_n 3, 1) := by decide +kernel
theorem d_Mo_relax_108 : decode c_Mo_relax 108 = .ok (.invokevirtual 72, 3) := by decide +kernel
theorem d_Mo_relax_111 : decode c_Mo_relax 111 = .ok (.ldc2_w 76, 3) := by decide +kernel
theorem d_Mo_relax_114 : decode c_Mo_relax 114 = .ok (.lcmp, 1) := by decide +kernel
theorem d_Mo_relax_115 : decode c_Mo_relax 115 = .ok (.ifCond .lt 18, 3) := by decide +kernel
theorem d_Mo_relax_118 : decode c_Mo_relax 118 = .ok (.aload_n 0, 1) := by decide +kernel
theorem d_Mo_relax_119 : decode c_Mo_relax 119 = .ok (.iload_n 3, 1) := by decide +kernel
theorem d_Mo_relax_120 : decode c_Mo_relax 120 = .ok (.invokevirtual 72, 3) := by decide +kernel
theorem d_Mo_relax_123 : decode c_Mo_relax 123 = .ok (.ldc2_w 78, 3) := by decide +kernel
theorem d_Mo_relax_126 : decode c_Mo_relax 126 = .ok (.lcmp, 1) := by decide +kernel
theorem d_Mo_relax_127 : decode c_Mo_relax 127 = .ok (.ifCond .gt 6, 3) := by decide +kernel
theorem d_Mo_relax_130 : decode c_Mo_relax 130 = .ok (.goto 12, 3) := by decide +kernel
theorem d_Mo_relax_133 : decode c_Mo_relax 133 = .ok (.aload_n 0, 1) := by decide +kernel
theorem d_Mo_relax_134 : decode c_Mo_relax 134 = .ok (.getfield 31, 3) := by decide +kernel
theorem d_Mo_relax_137 : decode c_Mo_relax 137 = .ok (.iload_n 3, 1) := by decide +kernel
theorem d_Mo_relax_138 : decode c_Mo_relax 138 = .ok (.iconst 0, 1) := by decide +kernel
theorem d_Mo_relax_139 : decode c_Mo_relax 139 = .ok (.bastore, 1) := by decide +kernel
theorem d_Mo_relax_140 : decode c_Mo_relax 140 = .ok (.iconst 1, 1) := by decide +kernel
theorem d_Mo_relax_141 : decode c_Mo_relax 141 = .ok (.istore_n 1, 1) := by decide +kernel
theorem d_Mo_relax_142 : decode c_Mo_relax 142 = .ok (.iinc 3 1, 3) := by decide +kernel
theorem d_Mo_relax_145 : decode c_Mo_relax 145 = .ok (.goto (-56), 3) := by decide +kernel
theorem d_Mo_relax_148 : decode c_Mo_relax 148 = .ok (.iinc 2 1, 3) := by decide +kernel
theorem d_Mo_relax_151 : decode c_Mo_relax 151 = .ok (.goto (-95), 3) := by decide +kernel
theorem d_Mo_relax_154 : decode c_Mo_relax 154 = .ok (.iconst 0, 1) := by decide +kernel
theorem d_Mo_relax_155 : decode c_Mo_relax 155 = .ok (.istore_n 2, 1) := by decide +kernel
theorem d_Mo_relax_156 : decode c_Mo_relax 156 = .ok (.iconst 0, 1) := by decide +kernel
theorem d_Mo_relax_157 : decode c_Mo_relax 157 = .ok (.istore_n 3, 1) := by decide +kernel
theorem d_Mo_relax_158 : decode c_Mo_relax 158 = .ok (.iload_n 3, 1) := by decide +kernel
theorem d_Mo_relax_159 : decode c_Mo_relax 159 = .ok (.aload_n 0, 1) := by decide +kernel
theorem d_Mo_relax_160 : decode c_Mo_relax 160 = .ok (.getfield 57, 3) := by decide +kernel
theorem d_Mo_relax_163 : decode c_Mo_relax 163 = .ok (.if_icmp .ge 73, 3) := by decide +kernel
theorem d_Mo_relax_166 : decode c_Mo_relax 166 = .ok (.aload_n 0, 1) := by decide +kernel
theorem d_Mo_relax_167 : decode c_Mo_relax 167 = .ok (.getfield 50, 3) := by decide +kernel
theorem d_Mo_relax_170 : decode c_Mo_relax 170 = .ok (.iload_n 3, 1) := by decide +kernel
theorem d_Mo_relax_171 : decode c_Mo_relax 171 = .ok (.aload_n 0, 1) := by decide +kernel
theorem d_Mo_relax_172 : decode c_Mo_relax 172 = .ok (.getfield 31, 3) := by decide +kernel
theorem d_Mo_relax_175 : decode c_Mo_relax 175 = .ok (.iload_n 3, 1) := by decide +kernel
theorem d_Mo_relax_176 : decode c_Mo_relax 176 = .ok (.baload, 1) := by decide +kernel
theorem d_Mo_relax_177 : decode c_Mo_relax 177 = .ok (.bastore, 1) := by decide +kernel
theorem d_Mo_relax_178 : decode c_Mo_relax 178 = .ok (.aload_n 0, 1) := by decide +kernel
theorem d_Mo_relax_179 : decode c_Mo_relax 179 = .ok (.getfield 41, 3) := by decide +kernel
theorem d_Mo_relax_182 : decode c_Mo_relax 182 = .ok (.iload_n 3, 1) := by decide +kernel
theorem d_Mo_relax_183 : decode c_Mo_relax 183 = .ok (.aload_n 0, 1) := by decide +kernel
theorem d_Mo_relax_184 : decode c_Mo_relax 184 = .ok (.getfield 31, 3) := by decide +kernel
theorem d_Mo_relax_187 : decode c_Mo_relax 187 = .ok (.iload_n 3, 1) := by decide +kernel
theorem d_Mo_relax_188 : decode c_Mo_relax 188 = .ok (.baload, 1) := by decide +kernel
theorem d_Mo_relax_189 : decode c_Mo_relax 189 = .ok (.ifCond .eq 12, 3) := by decide +kernel
theorem d_Mo_relax_192 : decode c_Mo_relax 192 = .ok (.aload_n 0, 1) := by decide +kernel
theorem d_Mo_relax_193 : decode c_Mo_relax 193 = .ok (.iload_n 3, 1) := by decide +kernel
theorem d_Mo_relax_194 : decode c_Mo_relax 194 = .ok (.invokevirtual 72, 3) := by decide +kernel
theorem d_Mo_relax_197 : decode c_Mo_relax 197 = .ok (.l2i, 1) := by decide +kernel
theorem d_Mo_relax_198 : decode c_Mo_relax 198 = .ok (.goto 4, 3) := by decide +kernel
theorem d_Mo_relax_201 : decode c_Mo_relax 201 = .ok (.iconst 0, 1) := by decide +kernel
theorem d_Mo_relax_202 : decode c_Mo_relax 202 = .ok (.iastore, 1) := by decide +kernel
theorem d_Mo_relax_203 : decode c_Mo_relax 203 = .ok (.iload_n 2, 1) := by decide +kernel
theorem d_Mo_relax_204 : decode c_Mo_relax 204 = .ok (.aload_n 0, 1) := by decide +kernel
theorem d_Mo_relax_205 : decode c_Mo_relax 205 = .ok (.getfield 7, 3) := by decide +kernel
theorem d_Mo_relax_208 : decode c_Mo_relax 208 = .ok (.iload_n 3, 1) := by decide +kernel
theorem d_Mo_relax_209 : decode c_Mo_relax 209 = .ok (.iaload, 1) := by decide +kernel
theorem d_Mo_relax_210 : decode c_Mo_relax 210 = .ok (.iconst 2, 1) := by decide +kernel
theorem d_Mo_relax_211 : decode c_Mo_relax 211 = .ok (.if_icmp .ne 16, 3) := by decide +kernel
theorem d_Mo_relax_214 : decode c_Mo_relax 214 = .ok (.aload_n 0, 1) := by decide +kernel
theorem d_Mo_relax_215 : decode c_Mo_relax 215 = .ok (.getfield 31, 3) := by decide +kernel
theorem d_Mo_relax_218 : decode c_Mo_relax 218 = .ok (.iload_n 3, 1) := by decide +kernel
theorem d_Mo_relax_219 : decode c_Mo_relax 219 = .ok (.baload, 1) := by decide +kernel
theorem d_Mo_relax_220 : decode c_Mo_relax 220 = .ok (.ifCond .ne 7, 3) := by decide +kernel
theorem d_Mo_relax_223 : decode c_Mo_relax 223 = .ok (.iconst 1, 1) := by decide +kernel
theorem d_Mo_relax_224 : decode c_Mo_relax 224 = .ok (.goto 4, 3) := by decide +kernel
theorem d_Mo_relax_227 : decode c_Mo_relax 227 = .ok (.iconst 0, 1) := by decide +kernel
theorem d_Mo_relax_228 : decode c_Mo_relax 228 = .ok (.iadd, 1) := by decide +kernel
theorem d_Mo_relax_229 : decode c_Mo_relax 229 = .ok (.istore_n 2, 1) := by decide +kernel
theorem d_Mo_relax_230 : decode c_Mo_relax 230 = .ok (.iinc 3 1, 3) := by decide +kernel
theorem d_Mo_relax_233 : decode c_Mo_relax 233 = .ok (.goto (-75), 3) := by decide +kernel
theorem d_Mo_relax_236 : decode c_Mo_relax 236 = .ok (.iload_n 2, 1) := by decide +kernel
theorem d_Mo_relax_237 : decode c_Mo_relax 237 = .ok (.ireturn, 1) := by decide +kernel
theorem d_Mo_walk_0 : decode c_Mo_walk 0 = .ok (.iconst 0, 1) := by decide +kernel
theorem d_Mo_walk_1 : decode c_Mo_walk 1 = .ok (.istore_n 2, 1) := by decide +kernel
theorem d_Mo_walk_2 : decode c_Mo_walk 2 = .ok (.iconst 0, 1) := by decide +kernel
theorem d_Mo_walk_3 : decode c_Mo_walk 3 = .ok (.istore_n 3, 1) := by decide +kernel
theorem d_Mo_walk_4 : decode c_Mo_walk 4 = .ok (.iconst 0, 1) := by decide +kernel
theorem d_Mo_walk_5 : decode c_Mo_walk 5 = .ok (.istore 4, 2) := by decide +kernel
theorem d_Mo_walk_7 : decode c_Mo_walk 7 = .ok (.iload 4, 2) := by decide +kernel
theorem d_Mo_walk_9 : decode c_Mo_walk 9 = .ok (.aload_n 0, 1) := by decide +kernel
theorem d_Mo_walk_10 : decode c_Mo_walk 10 = .ok (.getfield 57, 3) := by decide +kernel
theorem d_Mo_walk_13 : decode c_Mo_walk 13 = .ok (.if_icmp .gt 159, 3) := by decide +kernel
theorem d_Mo_walk_16 : decode c_Mo_walk 16 = .ok (.iload_n 3, 1) := by decide +kernel
theorem d_Mo_walk_17 : decode c_Mo_walk 17 = .ok (.aload_n 0, 1) := by decide +kernel
theorem d_Mo_walk_18 : decode c_Mo_walk 18 = .ok (.getfield 60, 3) := by decide +kernel
theorem d_Mo_walk_21 : decode c_Mo_walk 21 = .ok (.if_icmp .ge 37, 3) := by decide +kernel
theorem d_Mo_walk_24 : decode c_Mo_walk 24 = .ok (.aload_n 0, 1) := by decide +kernel
theorem d_Mo_walk_25 : decode c_Mo_walk 25 = .ok (.getfield 28, 3) := by decide +kernel
theorem d_Mo_walk_28 : decode c_Mo_walk 28 = .ok (.iload_n 3, 1) := by decide +kernel
theorem d_Mo_walk_29 : decode c_Mo_walk 29 = .ok (.iaload, 1) := by decide +kernel
theorem d_Mo_walk_30 : decode c_Mo_walk 30 = .ok (.iload 4, 2) := by decide +kernel
theorem d_Mo_walk_32 : decode c_Mo_walk 32 = .ok (.if_icmp .gt 26, 3) := by decide +kernel
theorem d_Mo_walk_35 : decode c_Mo_walk 35 = .ok (.aload_n 0, 1) := by decide +kernel
theorem d_Mo_walk_36 : decode c_Mo_walk 36 = .ok (.getfield 25, 3) := by decide +kernel
theorem d_Mo_walk_39 : decode c_Mo_walk 39 = .ok (.iload_n 3, 1) := by decide +kernel
theorem d_Mo_walk_40 : decode c_Mo_walk 40 = .ok (.iaload, 1) := by decide +kernel
theorem d_Mo_walk_41 : decode c_Mo_walk 41 = .ok (.iload_n 1, 1) := by decide +kernel
theorem d_Mo_walk_42 : decode c_Mo_walk 42 = .ok (.if_icmp .ne 10, 3) := by decide +kernel
theorem d_Mo_walk_45 : decode c_Mo_walk 45 = .ok (.aload_n 0, 1) := by decide +kernel
theorem d_Mo_walk_46 : decode c_Mo_walk 46 = .ok (.getfield 44, 3) := by decide +kernel
theorem d_Mo_walk_49 : decode c_Mo_walk 49 = .ok (.iload_n 3, 1) := by decide +kernel
theorem d_Mo_walk_50 : decode c_Mo_walk 50 = .ok (.iload_n 2, 1) := by decide +kernel
theorem d_Mo_walk_51 : decode c_Mo_walk 51 = .ok (.iastore, 1) := by decide +kernel
theorem d_Mo_walk_52 : decode c_Mo_walk 52 = .ok (.iinc 3 1, 3) := by decide +kernel
theorem d_Mo_walk_55 : decode c_Mo_walk 55 = .ok (.goto (-39), 3) := by decide +kernel
theorem d_Mo_walk_58 : decode c_Mo_walk 58 = .ok (.iload 4, 2) := by decide +kernel
theorem d_Mo_walk_60 : decode c_Mo_walk 60 = .ok (.aload_n 0, 1) := by decide +kernel
theorem d_Mo_walk_61 : decode c_Mo_walk 61 = .ok (.getfield 57, 3) := by decide +kernel
theorem d_Mo_walk_64 : decode c_Mo_walk 64 = .ok (.if_icmp .eq 102, 3) := by decide +kernel
theorem d_Mo_walk_67 : decode c_Mo_walk 67 = .ok (.aload_n 0, 1) := by decide +kernel
theorem d_Mo_walk_68 : decode c_Mo_walk 68 = .ok (.getfield 13, 3) := by decide +kernel
theorem d_Mo_walk_71 : decode c_Mo_walk 71 = .ok (.iload 4, 2) := by decide +kernel
theorem d_Mo_walk_73 : decode c_Mo_walk 73 = .ok (.iaload, 1) := by decide +kernel
theorem d_Mo_walk_74 : decode c_Mo_walk 74 = .ok (.iload_n 1, 1) := by decide +kernel
theorem d_Mo_walk_75 : decode c_Mo_walk 75 = .ok (.if_icmp .eq 6, 3) := by decide +kernel
theorem d_Mo_walk_78 : decode c_Mo_walk 78 = .ok (.goto 88, 3) := by decide +kernel
theorem d_Mo_walk_81 : decode c_Mo_walk 81 = .ok (.aload_n 0, 1) := by decide +kernel
theorem d_Mo_walk_82 : decode c_Mo_walk 82 = .ok (.getfield 35, 3) := by decide +kernel
theorem d_Mo_walk_85 : decode c_Mo_walk 85 = .ok (.iload 4, 2) := by decide +kernel
theorem d_Mo_walk_87 : decode c_Mo_walk 87 = .ok (.iload_n 2, 1) := by decide +kernel
theorem d_Mo_walk_88 : decode c_Mo_walk 88 = .ok (.iastore, 1) := by decide +kernel
theorem d_Mo_walk_89 : decode c_Mo_walk 89 = .ok (.aload_n 0, 1) := by decide +kernel
theorem d_Mo_walk_90 : decode c_Mo_walk 90 = .ok (.getfield 16, 3) := by decide +kernel
theorem d_Mo_walk_93 : decode c_Mo_walk 93 = .ok (.iload 4, 2) := by decide +kernel
theorem d_Mo_walk_95 : decode c_Mo_walk 95 = .ok (.iaload, 1) := by decide +kernel
theorem d_Mo_walk_96 : decode c_Mo_walk 96 = .ok (.istore 5, 2) := by decide +kernel
theorem d_Mo_walk_98 : decode c_Mo_walk 98 = .ok (.aload_n 0, 1) := by decide +kernel
theorem d_Mo_walk_99 : decode c_Mo_walk 99 = .ok (.getfield 38, 3) := by decide +kernel
theorem d_Mo_walk_102 : decode c_Mo_walk 102 = .ok (.iload 4, 2) := by decide +kernel
theorem d_Mo_walk_104 : decode c_Mo_walk 104 = .ok (.aload_n 0, 1) := by decide +kernel
theorem d_Mo_walk_105 : decode c_Mo_walk 105 = .ok (.getfield 7, 3) := by decide +kernel
theorem d_Mo_walk_108 : decode c_Mo_walk 108 = .ok (.iload 4, 2) := by decide +kernel
theorem d_Mo_walk_110 : decode c_Mo_walk 110 = .ok (.iaload, 1) := by decide +kernel
theorem d_Mo_walk_111 : decode c_Mo_walk 111 = .ok (.iconst 2, 1) := by decide +kernel
theorem d_Mo_walk_112 : decode c_Mo_walk 112 = .ok (.if_icmp .ne 17, 3) := by decide +kernel
theorem d_Mo_walk_115 : decode c_Mo_walk 115 = .ok (.aload_n 0, 1) := by decide +kernel
theorem d_Mo_walk_116 : decode c_Mo_walk 116 = .ok (.getfield 31, 3) := by decide +kernel
theorem d_Mo_walk_119 : decode c_Mo_walk 119 = .ok (.iload 4, 2) := by decide +kernel
theorem d_Mo_walk_121 : decode c_Mo_walk 121 = .ok (.baload, 1) := by decide +kernel
theorem d_Mo_walk_122 : decode c_Mo_walk 122 = .ok (.ifCond .eq 7, 3) := by decide +kernel
theorem d_Mo_walk_125 : decode c_Mo_walk 125 = .ok (.iconst 2, 1) := by decide +kernel
theorem d_Mo_walk_126 : decode c_Mo_walk 126 = .ok (.goto 29, 3) := by decide +kernel
theorem d_Mo_walk_129 : decode c_Mo_walk 129 = .ok (.aload_n 0, 1) := by decide +kernel
theorem d_Mo_walk_130 : decode c_Mo_walk 130 = .ok (.getfield 7, 3) := by decide +kernel
theorem d_Mo_walk_133 : decode c_Mo_walk 133 = .ok (.iload 4, 2) := by decide +kernel
theorem d_Mo_walk_135 : decode c_Mo_walk 135 = .ok (.iaload, 1) := by decide +kernel
theorem d_Mo_walk_136 : decode c_Mo_walk 136 = .ok (.iconst 1, 1) := by decide +kernel
theorem d_Mo_walk_137 : decode c_Mo_walk 137 = .ok (.if_icmp .ne 16, 3) := by decide +kernel
theorem d_Mo_walk_140 : decode c_Mo_walk 140 = .ok (.iload 5, 2) := by decide +kernel
theorem d_Mo_walk_142 : decode c_Mo_walk 142 = .ok (.iload_n 2, 1) := by decide +kernel
theorem d_Mo_walk_143 : decode c_Mo_walk 143 = .ok (.iload 5, 2) := by decide +kernel
theorem d_Mo_walk_145 : decode c_Mo_walk 145 = .ok (.irem, 1) := by decide +kernel
theorem d_Mo_walk_146 : decode c_Mo_walk 146 = .ok (.isub, 1) := by decide +kernel
theorem d_Mo_walk_147 : decode c_Mo_walk 147 = .ok (.iload 5, 2) := by decide +kernel
theorem d_Mo_walk_149 : decode c_Mo_walk 149 = .ok (.irem, 1) := by decide +kernel
theorem d_Mo_walk_150 : decode c_Mo_walk 150 = .ok (.goto 5, 3) := by decide +kernel
theorem d_Mo_walk_153 : decode c_Mo_walk 153 = .ok (.iload 5, 2) := by decide +kernel
theorem d_Mo_walk_155 : decode c_Mo_walk 155 = .ok (.iastore, 1) := by decide +kernel
theorem d_Mo_walk_156 : decode c_Mo_walk 156 = .ok (.iload_n 2, 1) := by decide +kernel
theorem d_Mo_walk_157 : decode c_Mo_walk 157 = .ok (.aload_n 0, 1) := by decide +kernel
theorem d_Mo_walk_158 : decode c_Mo_walk 158 = .ok (.getfield 38, 3) := by decide +kernel
theorem d_Mo_walk_161 : decode c_Mo_walk 161 = .ok (.iload 4, 2) := by decide +kernel
end
section
theorem d_Mo_walk_163 : decode c_Mo_walk 163 = .ok (.iaload, 1) := by decide +kernel
theorem d_Mo_walk_164 : decode c_Mo_walk 164 = .ok (.iadd, 1) := by decide +kernel
theorem d_Mo_walk_165 : decode c_Mo_walk 165 = .ok (.istore_n 2, 1) := by decide +kernel
theorem d_Mo_walk_166 : decode c_Mo_walk 166 = .ok (.iinc 4 1, 3) := by decide +kernel
theorem d_Mo_walk_169 : decode c_Mo_walk 169 = .ok (.goto (-162), 3) := by decide +kernel
theorem d_Mo_walk_172 : decode c_Mo_walk 172 = .ok (.aload_n 0, 1) := by decide +kernel
theorem d_Mo_walk_173 : decode c_Mo_walk 173 = .ok (.getfield 47, 3) := by decide +kernel
theorem d_Mo_walk_176 : decode c_Mo_walk 176 = .ok (.iload_n 1, 1) := by decide +kernel
theorem d_Mo_walk_177 : decode c_Mo_walk 177 = .ok (.iload_n 2, 1) := by decide +kernel
theorem d_Mo_walk_178 : decode c_Mo_walk 178 = .ok (.iastore, 1) := by decide +kernel
theorem d_Mo_walk_179 : decode c_Mo_walk 179 = .ok (.return_, 1) := by decide +kernel
theorem d_Mo_distance_0 : decode c_Mo_distance 0 = .ok (.aload_n 0, 1) := by decide +kernel
theorem d_Mo_distance_1 : decode c_Mo_distance 1 = .ok (.getfield 19, 3) := by decide +kernel
theorem d_Mo_distance_4 : decode c_Mo_distance 4 = .ok (.iload_n 1, 1) := by decide +kernel
theorem d_Mo_distance_5 : decode c_Mo_distance 5 = .ok (.iaload, 1) := by decide +kernel
theorem d_Mo_distance_6 : decode c_Mo_distance 6 = .ok (.ifCond .lt 18, 3) := by decide +kernel
theorem d_Mo_distance_9 : decode c_Mo_distance 9 = .ok (.aload_n 0, 1) := by decide +kernel
theorem d_Mo_distance_10 : decode c_Mo_distance 10 = .ok (.getfield 44, 3) := by decide +kernel
theorem d_Mo_distance_13 : decode c_Mo_distance 13 = .ok (.aload_n 0, 1) := by decide +kernel
theorem d_Mo_distance_14 : decode c_Mo_distance 14 = .ok (.getfield 19, 3) := by decide +kernel
theorem d_Mo_distance_17 : decode c_Mo_distance 17 = .ok (.iload_n 1, 1) := by decide +kernel
theorem d_Mo_distance_18 : decode c_Mo_distance 18 = .ok (.iaload, 1) := by decide +kernel
theorem d_Mo_distance_19 : decode c_Mo_distance 19 = .ok (.iaload, 1) := by decide +kernel
theorem d_Mo_distance_20 : decode c_Mo_distance 20 = .ok (.i2l, 1) := by decide +kernel
theorem d_Mo_distance_21 : decode c_Mo_distance 21 = .ok (.goto 18, 3) := by decide +kernel
theorem d_Mo_distance_24 : decode c_Mo_distance 24 = .ok (.aload_n 0, 1) := by decide +kernel
theorem d_Mo_distance_25 : decode c_Mo_distance 25 = .ok (.getfield 35, 3) := by decide +kernel
theorem d_Mo_distance_28 : decode c_Mo_distance 28 = .ok (.bipush (-2), 2) := by decide +kernel
theorem d_Mo_distance_30 : decode c_Mo_distance 30 = .ok (.aload_n 0, 1) := by decide +kernel
theorem d_Mo_distance_31 : decode c_Mo_distance 31 = .ok (.getfield 19, 3) := by decide +kernel
theorem d_Mo_distance_34 : decode c_Mo_distance 34 = .ok (.iload_n 1, 1) := by decide +kernel
theorem d_Mo_distance_35 : decode c_Mo_distance 35 = .ok (.iaload, 1) := by decide +kernel
theorem d_Mo_distance_36 : decode c_Mo_distance 36 = .ok (.isub, 1) := by decide +kernel
theorem d_Mo_distance_37 : decode c_Mo_distance 37 = .ok (.iaload, 1) := by decide +kernel
theorem d_Mo_distance_38 : decode c_Mo_distance 38 = .ok (.i2l, 1) := by decide +kernel
theorem d_Mo_distance_39 : decode c_Mo_distance 39 = .ok (.lstore_n 2, 1) := by decide +kernel
theorem d_Mo_distance_40 : decode c_Mo_distance 40 = .ok (.lload_n 2, 1) := by decide +kernel
theorem d_Mo_distance_41 : decode c_Mo_distance 41 = .ok (.aload_n 0, 1) := by decide +kernel
theorem d_Mo_distance_42 : decode c_Mo_distance 42 = .ok (.getfield 22, 3) := by decide +kernel
theorem d_Mo_distance_45 : decode c_Mo_distance 45 = .ok (.iload_n 1, 1) := by decide +kernel
theorem d_Mo_distance_46 : decode c_Mo_distance 46 = .ok (.iaload, 1) := by decide +kernel
theorem d_Mo_distance_47 : decode c_Mo_distance 47 = .ok (.i2l, 1) := by decide +kernel
theorem d_Mo_distance_48 : decode c_Mo_distance 48 = .ok (.ladd, 1) := by decide +kernel
theorem d_Mo_distance_49 : decode c_Mo_distance 49 = .ok (.aload_n 0, 1) := by decide +kernel
theorem d_Mo_distance_50 : decode c_Mo_distance 50 = .ok (.getfield 35, 3) := by decide +kernel
theorem d_Mo_distance_53 : decode c_Mo_distance 53 = .ok (.iload_n 1, 1) := by decide +kernel
theorem d_Mo_distance_54 : decode c_Mo_distance 54 = .ok (.iaload, 1) := by decide +kernel
theorem d_Mo_distance_55 : decode c_Mo_distance 55 = .ok (.aload_n 0, 1) := by decide +kernel
theorem d_Mo_distance_56 : decode c_Mo_distance 56 = .ok (.getfield 38, 3) := by decide +kernel
theorem d_Mo_distance_59 : decode c_Mo_distance 59 = .ok (.iload_n 1, 1) := by decide +kernel
theorem d_Mo_distance_60 : decode c_Mo_distance 60 = .ok (.iaload, 1) := by decide +kernel
theorem d_Mo_distance_61 : decode c_Mo_distance 61 = .ok (.iadd, 1) := by decide +kernel
theorem d_Mo_distance_62 : decode c_Mo_distance 62 = .ok (.i2l, 1) := by decide +kernel
theorem d_Mo_distance_63 : decode c_Mo_distance 63 = .ok (.lsub, 1) := by decide +kernel
theorem d_Mo_distance_64 : decode c_Mo_distance 64 = .ok (.lreturn, 1) := by decide +kernel
theorem d_Mo_statement_0 : decode c_Mo_statement 0 = .ok (.aload_n 0, 1) := by decide +kernel
theorem d_Mo_statement_1 : decode c_Mo_statement 1 = .ok (.iconst 0, 1) := by decide +kernel
theorem d_Mo_statement_2 : decode c_Mo_statement 2 = .ok (.putfield 53, 3) := by decide +kernel
theorem d_Mo_statement_5 : decode c_Mo_statement 5 = .ok (.iload_n 1, 1) := by decide +kernel
theorem d_Mo_statement_6 : decode c_Mo_statement 6 = .ok (.ifCond .lt 20, 3) := by decide +kernel
theorem d_Mo_statement_9 : decode c_Mo_statement 9 = .ok (.iload_n 1, 1) := by decide +kernel
theorem d_Mo_statement_10 : decode c_Mo_statement 10 = .ok (.aload_n 0, 1) := by decide +kernel
theorem d_Mo_statement_11 : decode c_Mo_statement 11 = .ok (.getfield 57, 3) := by decide +kernel
theorem d_Mo_statement_14 : decode c_Mo_statement 14 = .ok (.if_icmp .ge 12, 3) := by decide +kernel
theorem d_Mo_statement_17 : decode c_Mo_statement 17 = .ok (.iload_n 2, 1) := by decide +kernel
theorem d_Mo_statement_18 : decode c_Mo_statement 18 = .ok (.ifCond .lt 8, 3) := by decide +kernel
theorem d_Mo_statement_21 : decode c_Mo_statement 21 = .ok (.iload_n 2, 1) := by decide +kernel
theorem d_Mo_statement_22 : decode c_Mo_statement 22 = .ok (.iconst 3, 1) := by decide +kernel
theorem d_Mo_statement_23 : decode c_Mo_statement 23 = .ok (.if_icmp .le 5, 3) := by decide +kernel
theorem d_Mo_statement_26 : decode c_Mo_statement 26 = .ok (.iconst (-1), 1) := by decide +kernel
theorem d_Mo_statement_27 : decode c_Mo_statement 27 = .ok (.ireturn, 1) := by decide +kernel
theorem d_Mo_statement_28 : decode c_Mo_statement 28 = .ok (.iload_n 2, 1) := by decide +kernel
theorem d_Mo_statement_29 : decode c_Mo_statement 29 = .ok (.ifCond .ne 12, 3) := by decide +kernel
theorem d_Mo_statement_32 : decode c_Mo_statement 32 = .ok (.aload_n 0, 1) := by decide +kernel
theorem d_Mo_statement_33 : decode c_Mo_statement 33 = .ok (.getfield 35, 3) := by decide +kernel
theorem d_Mo_statement_36 : decode c_Mo_statement 36 = .ok (.iload_n 1, 1) := by decide +kernel
theorem d_Mo_statement_37 : decode c_Mo_statement 37 = .ok (.iaload, 1) := by decide +kernel
theorem d_Mo_statement_38 : decode c_Mo_statement 38 = .ok (.goto 45, 3) := by decide +kernel
theorem d_Mo_statement_41 : decode c_Mo_statement 41 = .ok (.iload_n 2, 1) := by decide +kernel
theorem d_Mo_statement_42 : decode c_Mo_statement 42 = .ok (.iconst 1, 1) := by decide +kernel
theorem d_Mo_statement_43 : decode c_Mo_statement 43 = .ok (.if_icmp .ne 12, 3) := by decide +kernel
theorem d_Mo_statement_46 : decode c_Mo_statement 46 = .ok (.aload_n 0, 1) := by decide +kernel
theorem d_Mo_statement_47 : decode c_Mo_statement 47 = .ok (.getfield 38, 3) := by decide +kernel
theorem d_Mo_statement_50 : decode c_Mo_statement 50 = .ok (.iload_n 1, 1) := by decide +kernel
theorem d_Mo_statement_51 : decode c_Mo_statement 51 = .ok (.iaload, 1) := by decide +kernel
theorem d_Mo_statement_52 : decode c_Mo_statement 52 = .ok (.goto 31, 3) := by decide +kernel
theorem d_Mo_statement_55 : decode c_Mo_statement 55 = .ok (.iload_n 2, 1) := by decide +kernel
theorem d_Mo_statement_56 : decode c_Mo_statement 56 = .ok (.iconst 2, 1) := by decide +kernel
theorem d_Mo_statement_57 : decode c_Mo_statement 57 = .ok (.if_icmp .ne 20, 3) := by decide +kernel
theorem d_Mo_statement_60 : decode c_Mo_statement 60 = .ok (.aload_n 0, 1) := by decide +kernel
theorem d_Mo_statement_61 : decode c_Mo_statement 61 = .ok (.getfield 50, 3) := by decide +kernel
theorem d_Mo_statement_64 : decode c_Mo_statement 64 = .ok (.iload_n 1, 1) := by decide +kernel
theorem d_Mo_statement_65 : decode c_Mo_statement 65 = .ok (.baload, 1) := by decide +kernel
theorem d_Mo_statement_66 : decode c_Mo_statement 66 = .ok (.ifCond .eq 7, 3) := by decide +kernel
theorem d_Mo_statement_69 : decode c_Mo_statement 69 = .ok (.iconst 1, 1) := by decide +kernel
theorem d_Mo_statement_70 : decode c_Mo_statement 70 = .ok (.goto 13, 3) := by decide +kernel
theorem d_Mo_statement_73 : decode c_Mo_statement 73 = .ok (.iconst 0, 1) := by decide +kernel
theorem d_Mo_statement_74 : decode c_Mo_statement 74 = .ok (.goto 9, 3) := by decide +kernel
theorem d_Mo_statement_77 : decode c_Mo_statement 77 = .ok (.aload_n 0, 1) := by decide +kernel
theorem d_Mo_statement_78 : decode c_Mo_statement 78 = .ok (.getfield 41, 3) := by decide +kernel
theorem d_Mo_statement_81 : decode c_Mo_statement 81 = .ok (.iload_n 1, 1) := by decide +kernel
theorem d_Mo_statement_82 : decode c_Mo_statement 82 = .ok (.iaload, 1) := by decide +kernel
theorem d_Mo_statement_83 : decode c_Mo_statement 83 = .ok (.ireturn, 1) := by decide +kernel
theorem d_Mo_place_0 : decode c_Mo_place 0 = .ok (.aload_n 0, 1) := by decide +kernel
theorem d_Mo_place_1 : decode c_Mo_place 1 = .ok (.iconst 0, 1) := by decide +kernel
theorem d_Mo_place_2 : decode c_Mo_place 2 = .ok (.putfield 53, 3) := by decide +kernel
theorem d_Mo_place_5 : decode c_Mo_place 5 = .ok (.iload_n 1, 1) := by decide +kernel
theorem d_Mo_place_6 : decode c_Mo_place 6 = .ok (.ifCond .lt 20, 3) := by decide +kernel
theorem d_Mo_place_9 : decode c_Mo_place 9 = .ok (.iload_n 1, 1) := by decide +kernel
theorem d_Mo_place_10 : decode c_Mo_place 10 = .ok (.aload_n 0, 1) := by decide +kernel
theorem d_Mo_place_11 : decode c_Mo_place 11 = .ok (.getfield 60, 3) := by decide +kernel
theorem d_Mo_place_14 : decode c_Mo_place 14 = .ok (.if_icmp .ge 12, 3) := by decide +kernel
theorem d_Mo_place_17 : decode c_Mo_place 17 = .ok (.aload_n 0, 1) := by decide +kernel
theorem d_Mo_place_18 : decode c_Mo_place 18 = .ok (.getfield 44, 3) := by decide +kernel
theorem d_Mo_place_21 : decode c_Mo_place 21 = .ok (.iload_n 1, 1) := by decide +kernel
theorem d_Mo_place_22 : decode c_Mo_place 22 = .ok (.iaload, 1) := by decide +kernel
theorem d_Mo_place_23 : decode c_Mo_place 23 = .ok (.goto 4, 3) := by decide +kernel
theorem d_Mo_place_26 : decode c_Mo_place 26 = .ok (.iconst (-1), 1) := by decide +kernel
theorem d_Mo_place_27 : decode c_Mo_place 27 = .ok (.ireturn, 1) := by decide +kernel
theorem d_Mo_size_0 : decode c_Mo_size 0 = .ok (.aload_n 0, 1) := by decide +kernel
theorem d_Mo_size_1 : decode c_Mo_size 1 = .ok (.iconst 0, 1) := by decide +kernel
theorem d_Mo_size_2 : decode c_Mo_size 2 = .ok (.putfield 53, 3) := by decide +kernel
theorem d_Mo_size_5 : decode c_Mo_size 5 = .ok (.iload_n 1, 1) := by decide +kernel
theorem d_Mo_size_6 : decode c_Mo_size 6 = .ok (.ifCond .lt 17, 3) := by decide +kernel
theorem d_Mo_size_9 : decode c_Mo_size 9 = .ok (.iload_n 1, 1) := by decide +kernel
theorem d_Mo_size_10 : decode c_Mo_size 10 = .ok (.iconst 4, 1) := by decide +kernel
theorem d_Mo_size_11 : decode c_Mo_size 11 = .ok (.if_icmp .ge 12, 3) := by decide +kernel
theorem d_Mo_size_14 : decode c_Mo_size 14 = .ok (.aload_n 0, 1) := by decide +kernel
theorem d_Mo_size_15 : decode c_Mo_size 15 = .ok (.getfield 47, 3) := by decide +kernel
theorem d_Mo_size_18 : decode c_Mo_size 18 = .ok (.iload_n 1, 1) := by decide +kernel
theorem d_Mo_size_19 : decode c_Mo_size 19 = .ok (.iaload, 1) := by decide +kernel
theorem d_Mo_size_20 : decode c_Mo_size 20 = .ok (.goto 4, 3) := by decide +kernel
theorem d_Mo_size_23 : decode c_Mo_size 23 = .ok (.iconst (-1), 1) := by decide +kernel
theorem d_Mo_size_24 : decode c_Mo_size 24 = .ok (.ireturn, 1) := by decide +kernel
theorem d_Lw_law_0 : decode c_Lw_law 0 = .ok (.new 7, 3) := by decide +kernel
theorem d_Lw_law_3 : decode c_Lw_law 3 = .ok (.dup, 1) := by decide +kernel
theorem d_Lw_law_4 : decode c_Lw_law 4 = .ok (.invokespecial 9, 3) := by decide +kernel
theorem d_Lw_law_7 : decode c_Lw_law 7 = .ok (.astore_n 1, 1) := by decide +kernel
theorem d_Lw_law_8 : decode c_Lw_law 8 = .ok (.new 10, 3) := by decide +kernel
theorem d_Lw_law_11 : decode c_Lw_law 11 = .ok (.dup, 1) := by decide +kernel
theorem d_Lw_law_12 : decode c_Lw_law 12 = .ok (.invokespecial 12, 3) := by decide +kernel
theorem d_Lw_law_15 : decode c_Lw_law 15 = .ok (.astore_n 2, 1) := by decide +kernel
theorem d_Lw_law_16 : decode c_Lw_law 16 = .ok (.iconst 0, 1) := by decide +kernel
theorem d_Lw_law_17 : decode c_Lw_law 17 = .ok (.istore_n 3, 1) := by decide +kernel
theorem d_Lw_law_18 : decode c_Lw_law 18 = .ok (.iload_n 3, 1) := by decide +kernel
theorem d_Lw_law_19 : decode c_Lw_law 19 = .ok (.aload_n 0, 1) := by decide +kernel
theorem d_Lw_law_20 : decode c_Lw_law 20 = .ok (.arraylength, 1) := by decide +kernel
theorem d_Lw_law_21 : decode c_Lw_law 21 = .ok (.iconst 4, 1) := by decide +kernel
theorem d_Lw_law_22 : decode c_Lw_law 22 = .ok (.isub, 1) := by decide +kernel
theorem d_Lw_law_23 : decode c_Lw_law 23 = .ok (.if_icmp .gt 339, 3) := by decide +kernel
theorem d_Lw_law_26 : decode c_Lw_law 26 = .ok (.aload_n 0, 1) := by decide +kernel
theorem d_Lw_law_27 : decode c_Lw_law 27 = .ok (.iload_n 3, 1) := by decide +kernel
theorem d_Lw_law_28 : decode c_Lw_law 28 = .ok (.iaload, 1) := by decide +kernel
theorem d_Lw_law_29 : decode c_Lw_law 29 = .ok (.bipush 15, 2) := by decide +kernel
theorem d_Lw_law_31 : decode c_Lw_law 31 = .ok (.iand, 1) := by decide +kernel
theorem d_Lw_law_32 : decode c_Lw_law 32 = .ok (.tableswitch 324 0 9 #[56, 67, 100, 133, 166, 189, 232, 245, 278, 301], 56) := by decide +kernel
theorem d_Lw_law_88 : decode c_Lw_law 88 = .ok (.aload_n 1, 1) := by decide +kernel
theorem d_Lw_law_89 : decode c_Lw_law 89 = .ok (.invokevirtual 13, 3) := by decide +kernel
theorem d_Lw_law_92 : decode c_Lw_law 92 = .ok (.aload_n 2, 1) := by decide +kernel
theorem d_Lw_law_93 : decode c_Lw_law 93 = .ok (.invokevirtual 16, 3) := by decide +kernel
theorem d_Lw_law_96 : decode c_Lw_law 96 = .ok (.goto 260, 3) := by decide +kernel
theorem d_Lw_law_99 : decode c_Lw_law 99 = .ok (.aload_n 1, 1) := by decide +kernel
theorem d_Lw_law_100 : decode c_Lw_law 100 = .ok (.aload_n 0, 1) := by decide +kernel
theorem d_Lw_law_101 : decode c_Lw_law 101 = .ok (.iload_n 3, 1) := by decide +kernel
theorem d_Lw_law_102 : decode c_Lw_law 102 = .ok (.iconst 1, 1) := by decide +kernel
theorem d_Lw_law_103 : decode c_Lw_law 103 = .ok (.iadd, 1) := by decide +kernel
theorem d_Lw_law_104 : decode c_Lw_law 104 = .ok (.iaload, 1) := by decide +kernel
theorem d_Lw_law_105 : decode c_Lw_law 105 = .ok (.aload_n 0, 1) := by decide +kernel
theorem d_Lw_law_106 : decode c_Lw_law 106 = .ok (.iload_n 3, 1) := by decide +kernel
theorem d_Lw_law_107 : decode c_Lw_law 107 = .ok (.iconst 2, 1) := by decide +kernel
theorem d_Lw_law_108 : decode c_Lw_law 108 = .ok (.iadd, 1) := by decide +kernel
theorem d_Lw_law_109 : decode c_Lw_law 109 = .ok (.iaload, 1) := by decide +kernel
theorem d_Lw_law_110 : decode c_Lw_law 110 = .ok (.invokevirtual 17, 3) := by decide +kernel
theorem d_Lw_law_113 : decode c_Lw_law 113 = .ok (.aload_n 2, 1) := by decide +kernel
theorem d_Lw_law_114 : decode c_Lw_law 114 = .ok (.aload_n 0, 1) := by decide +kernel
theorem d_Lw_law_115 : decode c_Lw_law 115 = .ok (.iload_n 3, 1) := by decide +kernel
theorem d_Lw_law_116 : decode c_Lw_law 116 = .ok (.iconst 1, 1) := by decide +kernel
theorem d_Lw_law_117 : decode c_Lw_law 117 = .ok (.iadd, 1) := by decide +kernel
theorem d_Lw_law_118 : decode c_Lw_law 118 = .ok (.iaload, 1) := by decide +kernel
theorem d_Lw_law_119 : decode c_Lw_law 119 = .ok (.aload_n 0, 1) := by decide +kernel
theorem d_Lw_law_120 : decode c_Lw_law 120 = .ok (.iload_n 3, 1) := by decide +kernel
theorem d_Lw_law_121 : decode c_Lw_law 121 = .ok (.iconst 2, 1) := by decide +kernel
theorem d_Lw_law_122 : decode c_Lw_law 122 = .ok (.iadd, 1) := by decide +kernel
theorem d_Lw_law_123 : decode c_Lw_law 123 = .ok (.iaload, 1) := by decide +kernel
theorem d_Lw_law_124 : decode c_Lw_law 124 = .ok (.invokevirtual 21, 3) := by decide +kernel
theorem d_Lw_law_127 : decode c_Lw_law 127 = .ok (.if_icmp .eq 229, 3) := by decide +kernel
theorem d_Lw_law_130 : decode c_Lw_law 130 = .ok (.iconst 0, 1) := by decide +kernel
theorem d_Lw_law_131 : decode c_Lw_law 131 = .ok (.ireturn, 1) := by decide +kernel
theorem d_Lw_law_132 : decode c_Lw_law 132 = .ok (.aload_n 1, 1) := by decide +kernel
theorem d_Lw_law_133 : decode c_Lw_law 133 = .ok (.aload_n 0, 1) := by decide +kernel
theorem d_Lw_law_134 : decode c_Lw_law 134 = .ok (.iload_n 3, 1) := by decide +kernel
theorem d_Lw_law_135 : decode c_Lw_law 135 = .ok (.iconst 1, 1) := by decide +kernel
theorem d_Lw_law_136 : decode c_Lw_law 136 = .ok (.iadd, 1) := by decide +kernel
theorem d_Lw_law_137 : decode c_Lw_law 137 = .ok (.iaload, 1) := by decide +kernel
theorem d_Lw_law_138 : decode c_Lw_law 138 = .ok (.aload_n 0, 1) := by decide +kernel
theorem d_Lw_law_139 : decode c_Lw_law 139 = .ok (.iload_n 3, 1) := by decide +kernel
theorem d_Lw_law_140 : decode c_Lw_law 140 = .ok (.iconst 2, 1) := by decide +kernel
theorem d_Lw_law_141 : decode c_Lw_law 141 = .ok (.iadd, 1) := by decide +kernel
theorem d_Lw_law_142 : decode c_Lw_law 142 = .ok (.iaload, 1) := by decide +kernel
theorem d_Lw_law_143 : decode c_Lw_law 143 = .ok (.invokevirtual 22, 3) := by decide +kernel
theorem d_Lw_law_146 : decode c_Lw_law 146 = .ok (.aload_n 2, 1) := by decide +kernel
theorem d_Lw_law_147 : decode c_Lw_law 147 = .ok (.aload_n 0, 1) := by decide +kernel
theorem d_Lw_law_148 : decode c_Lw_law 148 = .ok (.iload_n 3, 1) := by decide +kernel
theorem d_Lw_law_149 : decode c_Lw_law 149 = .ok (.iconst 1, 1) := by decide +kernel
theorem d_Lw_law_150 : decode c_Lw_law 150 = .ok (.iadd, 1) := by decide +kernel
theorem d_Lw_law_151 : decode c_Lw_law 151 = .ok (.iaload, 1) := by decide +kernel
theorem d_Lw_law_152 : decode c_Lw_law 152 = .ok (.aload_n 0, 1) := by decide +kernel
theorem d_Lw_law_153 : decode c_Lw_law 153 = .ok (.iload_n 3, 1) := by decide +kernel
theorem d_Lw_law_154 : decode c_Lw_law 154 = .ok (.iconst 2, 1) := by decide +kernel
theorem d_Lw_law_155 : decode c_Lw_law 155 = .ok (.iadd, 1) := by decide +kernel
theorem d_Lw_law_156 : decode c_Lw_law 156 = .ok (.iaload, 1) := by decide +kernel
theorem d_Lw_law_157 : decode c_Lw_law 157 = .ok (.invokevirtual 25, 3) := by decide +kernel
theorem d_Lw_law_160 : decode c_Lw_law 160 = .ok (.if_icmp .eq 196, 3) := by decide +kernel
theorem d_Lw_law_163 : decode c_Lw_law 163 = .ok (.iconst 0, 1) := by decide +kernel
theorem d_Lw_law_164 : decode c_Lw_law 164 = .ok (.ireturn, 1) := by decide +kernel
theorem d_Lw_law_165 : decode c_Lw_law 165 = .ok (.aload_n 1, 1) := by decide +kernel
theorem d_Lw_law_166 : decode c_Lw_law 166 = .ok (.aload_n 0, 1) := by decide +kernel
theorem d_Lw_law_167 : decode c_Lw_law 167 = .ok (.iload_n 3, 1) := by decide +kernel
theorem d_Lw_law_168 : decode c_Lw_law 168 = .ok (.iconst 1, 1) := by decide +kernel
theorem d_Lw_law_169 : decode c_Lw_law 169 = .ok (.iadd, 1) := by decide +kernel
theorem d_Lw_law_170 : decode c_Lw_law 170 = .ok (.iaload, 1) := by decide +kernel
theorem d_Lw_law_171 : decode c_Lw_law 171 = .ok (.aload_n 0, 1) := by decide +kernel
theorem d_Lw_law_172 : decode c_Lw_law 172 = .ok (.iload_n 3, 1) := by decide +kernel
theorem d_Lw_law_173 : decode c_Lw_law 173 = .ok (.iconst 2, 1) := by decide +kernel
theorem d_Lw_law_174 : decode c_Lw_law 174 = .ok (.iadd, 1) := by decide +kernel
theorem d_Lw_law_175 : decode c_Lw_law 175 = .ok (.iaload, 1) := by decide +kernel
theorem d_Lw_law_176 : decode c_Lw_law 176 = .ok (.invokevirtual 26, 3) := by decide +kernel
theorem d_Lw_law_179 : decode c_Lw_law 179 = .ok (.aload_n 2, 1) := by decide +kernel
theorem d_Lw_law_180 : decode c_Lw_law 180 = .ok (.aload_n 0, 1) := by decide +kernel
theorem d_Lw_law_181 : decode c_Lw_law 181 = .ok (.iload_n 3, 1) := by decide +kernel
theorem d_Lw_law_182 : decode c_Lw_law 182 = .ok (.iconst 1, 1) := by decide +kernel
theorem d_Lw_law_183 : decode c_Lw_law 183 = .ok (.iadd, 1) := by decide +kernel
theorem d_Lw_law_184 : decode c_Lw_law 184 = .ok (.iaload, 1) := by decide +kernel
theorem d_Lw_law_185 : decode c_Lw_law 185 = .ok (.aload_n 0, 1) := by decide +kernel
theorem d_Lw_law_186 : decode c_Lw_law 186 = .ok (.iload_n 3, 1) := by decide +kernel
theorem d_Lw_law_187 : decode c_Lw_law 187 = .ok (.iconst 2, 1) := by decide +kernel
theorem d_Lw_law_188 : decode c_Lw_law 188 = .ok (.iadd, 1) := by decide +kernel
theorem d_Lw_law_189 : decode c_Lw_law 189 = .ok (.iaload, 1) := by decide +kernel
theorem d_Lw_law_190 : decode c_Lw_law 190 = .ok (.invokevirtual 29, 3) := by decide +kernel
theorem d_Lw_law_193 : decode c_Lw_law 193 = .ok (.if_icmp .eq 163, 3) := by decide +kernel
theorem d_Lw_law_196 : decode c_Lw_law 196 = .ok (.iconst 0, 1) := by decide +kernel
theorem d_Lw_law_197 : decode c_Lw_law 197 = .ok (.ireturn, 1) := by decide +kernel
theorem d_Lw_law_198 : decode c_Lw_law 198 = .ok (.aload_n 1, 1) := by decide +kernel
theorem d_Lw_law_199 : decode c_Lw_law 199 = .ok (.aload_n 0, 1) := by decide +kernel
theorem d_Lw_law_200 : decode c_Lw_law 200 = .ok (.iload_n 3, 1) := by decide +kernel
theorem d_Lw_law_201 : decode c_Lw_law 201 = .ok (.iconst 1, 1) := by decide +kernel
theorem d_Lw_law_202 : decode c_Lw_law 202 = .ok (.iadd, 1) := by decide +kernel
theorem d_Lw_law_203 : decode c_Lw_law 203 = .ok (.iaload, 1) := by decide +kernel
theorem d_Lw_law_204 : decode c_Lw_law 204 = .ok (.invokevirtual 30, 3) := by decide +kernel
theorem d_Lw_law_207 : decode c_Lw_law 207 = .ok (.aload_n 2, 1) := by decide +kernel
theorem d_Lw_law_208 : decode c_Lw_law 208 = .ok (.aload_n 0, 1) := by decide +kernel
theorem d_Lw_law_209 : decode c_Lw_law 209 = .ok (.iload_n 3, 1) := by decide +kernel
theorem d_Lw_law_210 : decode c_Lw_law 210 = .ok (.iconst 1, 1) := by decide +kernel
theorem d_Lw_law_211 : decode c_Lw_law 211 = .ok (.iadd, 1) := by decide +kernel
theorem d_Lw_law_212 : decode c_Lw_law 212 = .ok (.iaload, 1) := by decide +kernel
theorem d_Lw_law_213 : decode c_Lw_law 213 = .ok (.invokevirtual 34, 3) := by decide +kernel
theorem d_Lw_law_216 : decode c_Lw_law 216 = .ok (.if_icmp .eq 140, 3) := by decide +kernel
theorem d_Lw_law_219 : decode c_Lw_law 219 = .ok (.iconst 0, 1) := by decide +kernel
theorem d_Lw_law_220 : decode c_Lw_law 220 = .ok (.ireturn, 1) := by decide +kernel
theorem d_Lw_law_221 : decode c_Lw_law 221 = .ok (.aload_n 1, 1) := by decide +kernel
theorem d_Lw_law_222 : decode c_Lw_law 222 = .ok (.aload_n 0, 1) := by decide +kernel
theorem d_Lw_law_223 : decode c_Lw_law 223 = .ok (.iload_n 3, 1) := by decide +kernel
theorem d_Lw_law_224 : decode c_Lw_law 224 = .ok (.iconst 1, 1) := by decide +kernel
theorem d_Lw_law_225 : decode c_Lw_law 225 = .ok (.iadd, 1) := by decide +kernel
theorem d_Lw_law_226 : decode c_Lw_law 226 = .ok (.iaload, 1) := by decide +kernel
theorem d_Lw_law_227 : decode c_Lw_law 227 = .ok (.aload_n 0, 1) := by decide +kernel
theorem d_Lw_law_228 : decode c_Lw_law 228 = .ok (.iload_n 3, 1) := by decide +kernel
theorem d_Lw_law_229 : decode c_Lw_law 229 = .ok (.iconst 2, 1) := by decide +kernel
theorem d_Lw_law_230 : decode c_Lw_law 230 = .ok (.iadd, 1) := by decide +kernel
theorem d_Lw_law_231 : decode c_Lw_law 231 = .ok (.iaload, 1) := by decide +kernel
theorem d_Lw_law_232 : decode c_Lw_law 232 = .ok (.aload_n 0, 1) := by decide +kernel
theorem d_Lw_law_233 : decode c_Lw_law 233 = .ok (.iload_n 3, 1) := by decide +kernel
theorem d_Lw_law_234 : decode c_Lw_law 234 = .ok (.iconst 3, 1) := by decide +kernel
theorem d_Lw_law_235 : decode c_Lw_law 235 = .ok (.iadd, 1) := by decide +kernel
theorem d_Lw_law_236 : decode c_Lw_law 236 = .ok (.iaload, 1) := by decide +kernel
theorem d_Lw_law_237 : decode c_Lw_law 237 = .ok (.invokevirtual 35, 3) := by decide +kernel
theorem d_Lw_law_240 : decode c_Lw_law 240 = .ok (.aload_n 2, 1) := by decide +kernel
theorem d_Lw_law_241 : decode c_Lw_law 241 = .ok (.aload_n 0, 1) := by decide +kernel
theorem d_Lw_law_242 : decode c_Lw_law 242 = .ok (.iload_n 3, 1) := by decide +kernel
theorem d_Lw_law_243 : decode c_Lw_law 243 = .ok (.iconst 1, 1) := by decide +kernel
theorem d_Lw_law_244 : decode c_Lw_law 244 = .ok (.iadd, 1) := by decide +kernel
theorem d_Lw_law_245 : decode c_Lw_law 245 = .ok (.iaload, 1) := by decide +kernel
theorem d_Lw_law_246 : decode c_Lw_law 246 = .ok (.aload_n 0, 1) := by decide +kernel
theorem d_Lw_law_247 : decode c_Lw_law 247 = .ok (.iload_n 3, 1) := by decide +kernel
theorem d_Lw_law_248 : decode c_Lw_law 248 = .ok (.iconst 2, 1) := by decide +kernel
theorem d_Lw_law_249 : decode c_Lw_law 249 = .ok (.iadd, 1) := by decide +kernel
theorem d_Lw_law_250 : decode c_Lw_law 250 = .ok (.iaload, 1) := by decide +kernel
theorem d_Lw_law_251 : decode c_Lw_law 251 = .ok (.aload_n 0, 1) := by decide +kernel
theorem d_Lw_law_252 : decode c_Lw_law 252 = .ok (.iload_n 3, 1) := by decide +kernel
theorem d_Lw_law_253 : decode c_Lw_law 253 = .ok (.iconst 3, 1) := by decide +kernel
theorem d_Lw_law_254 : decode c_Lw_law 254 = .ok (.iadd, 1) := by decide +kernel
theorem d_Lw_law_255 : decode c_Lw_law 255 = .ok (.iaload, 1) := by decide +kernel
theorem d_Lw_law_256 : decode c_Lw_law 256 = .ok (.invokevirtual 39, 3) := by decide +kernel
theorem d_Lw_law_259 : decode c_Lw_law 259 = .ok (.if_icmp .eq 97, 3) := by decide +kernel
theorem d_Lw_law_262 : decode c_Lw_law 262 = .ok (.iconst 0, 1) := by decide +kernel
theorem d_Lw_law_263 : decode c_Lw_law 263 = .ok (.ireturn, 1) := by decide +kernel
theorem d_Lw_law_264 : decode c_Lw_law 264 = .ok (.aload_n 1, 1) := by decide +kernel
theorem d_Lw_law_265 : decode c_Lw_law 265 = .ok (.invokevirtual 40, 3) := by decide +kernel
theorem d_Lw_law_268 : decode c_Lw_law 268 = .ok (.aload_n 2, 1) := by decide +kernel
theorem d_Lw_law_269 : decode c_Lw_law 269 = .ok (.invokevirtual 44, 3) := by decide +kernel
theorem d_Lw_law_272 : decode c_Lw_law 272 = .ok (.if_icmp .eq 84, 3) := by decide +kernel
theorem d_Lw_law_275 : decode c_Lw_law 275 = .ok (.iconst 0, 1) := by decide +kernel
theorem d_Lw_law_276 : decode c_Lw_law 276 = .ok (.ireturn, 1) := by decide +kernel
theorem d_Lw_law_277 : decode c_Lw_law 277 = .ok (.aload_n 1, 1) := by decide +kernel
theorem d_Lw_law_278 : decode c_Lw_law 278 = .ok (.aload_n 0, 1) := by decide +kernel
theorem d_Lw_law_279 : decode c_Lw_law 279 = .ok (.iload_n 3, 1) := by decide +kernel
theorem d_Lw_law_280 : decode c_Lw_law 280 = .ok (.iconst 1, 1) := by decide +kernel
theorem d_Lw_law_281 : decode c_Lw_law 281 = .ok (.iadd, 1) := by decide +kernel
theorem d_Lw_law_282 : decode c_Lw_law 282 = .ok (.iaload, 1) := by decide +kernel
theorem d_Lw_law_283 : decode c_Lw_law 283 = .ok (.aload_n 0, 1) := by decide +kernel
theorem d_Lw_law_284 : decode c_Lw_law 284 = .ok (.iload_n 3, 1) := by decide +kernel
theorem d_Lw_law_285 : decode c_Lw_law 285 = .ok (.iconst 2, 1) := by decide +kernel
theorem d_Lw_law_286 : decode c_Lw_law 286 = .ok (.iadd, 1) := by decide +kernel
theorem d_Lw_law_287 : decode c_Lw_law 287 = .ok (.iaload, 1) := by decide +kernel
theorem d_Lw_law_288 : decode c_Lw_law 288 = .ok (.invokevirtual 45, 3) := by decide +kernel
theorem d_Lw_law_291 : decode c_Lw_law 291 = .ok (.aload_n 2, 1) := by decide +kernel
theorem d_Lw_law_292 : decode c_Lw_law 292 = .ok (.aload_n 0, 1) := by decide +kernel
theorem d_Lw_law_293 : decode c_Lw_law 293 = .ok (.iload_n 3, 1) := by decide +kernel
theorem d_Lw_law_294 : decode c_Lw_law 294 = .ok (.iconst 1, 1) := by decide +kernel
theorem d_Lw_law_295 : decode c_Lw_law 295 = .ok (.iadd, 1) := by decide +kernel
theorem d_Lw_law_296 : decode c_Lw_law 296 = .ok (.iaload, 1) := by decide +kernel
theorem d_Lw_law_297 : decode c_Lw_law 297 = .ok (.aload_n 0, 1) := by decide +kernel
theorem d_Lw_law_298 : decode c_Lw_law 298 = .ok (.iload_n 3, 1) := by decide +kernel
theorem d_Lw_law_299 : decode c_Lw_law 299 = .ok (.iconst 2, 1) := by decide +kernel
theorem d_Lw_law_300 : decode c_Lw_law 300 = .ok (.iadd, 1) := by decide +kernel
theorem d_Lw_law_301 : decode c_Lw_law 301 = .ok (.iaload, 1) := by decide +kernel
theorem d_Lw_law_302 : decode c_Lw_law 302 = .ok (.invokevirtual 48, 3) := by decide +kernel
theorem d_Lw_law_305 : decode c_Lw_law 305 = .ok (.if_icmp .eq 51, 3) := by decide +kernel
theorem d_Lw_law_308 : decode c_Lw_law 308 = .ok (.iconst 0, 1) := by decide +kernel
theorem d_Lw_law_309 : decode c_Lw_law 309 = .ok (.ireturn, 1) := by decide +kernel
theorem d_Lw_law_310 : decode c_Lw_law 310 = .ok (.aload_n 1, 1) := by decide +kernel
theorem d_Lw_law_311 : decode c_Lw_law 311 = .ok (.aload_n 0, 1) := by decide +kernel
theorem d_Lw_law_312 : decode c_Lw_law 312 = .ok (.iload_n 3, 1) := by decide +kernel
theorem d_Lw_law_313 : decode c_Lw_law 313 = .ok (.iconst 1, 1) := by decide +kernel
theorem d_Lw_law_314 : decode c_Lw_law 314 = .ok (.iadd, 1) := by decide +kernel
theorem d_Lw_law_315 : decode c_Lw_law 315 = .ok (.iaload, 1) := by decide +kernel
theorem d_Lw_law_316 : decode c_Lw_law 316 = .ok (.invokevirtual 49, 3) := by decide +kernel
theorem d_Lw_law_319 : decode c_Lw_law 319 = .ok (.aload_n 2, 1) := by decide +kernel
theorem d_Lw_law_320 : decode c_Lw_law 320 = .ok (.aload_n 0, 1) := by decide +kernel
theorem d_Lw_law_321 : decode c_Lw_law 321 = .ok (.iload_n 3, 1) := by decide +kernel
theorem d_Lw_law_322 : decode c_Lw_law 322 = .ok (.iconst 1, 1) := by decide +kernel
theorem d_Lw_law_323 : decode c_Lw_law 323 = .ok (.iadd, 1) := by decide +kernel
theorem d_Lw_law_324 : decode c_Lw_law 324 = .ok (.iaload, 1) := by decide +kernel
theorem d_Lw_law_325 : decode c_Lw_law 325 = .ok (.invokevirtual 52, 3) := by decide +kernel
theorem d_Lw_law_328 : decode c_Lw_law 328 = .ok (.if_icmp .eq 28, 3) := by decide +kernel
theorem d_Lw_law_331 : decode c_Lw_law 331 = .ok (.iconst 0, 1) := by decide +kernel
theorem d_Lw_law_332 : decode c_Lw_law 332 = .ok (.ireturn, 1) := by decide +kernel
theorem d_Lw_law_333 : decode c_Lw_law 333 = .ok (.aload_n 1, 1) := by decide +kernel
theorem d_Lw_law_334 : decode c_Lw_law 334 = .ok (.aload_n 0, 1) := by decide +kernel
theorem d_Lw_law_335 : decode c_Lw_law 335 = .ok (.iload_n 3, 1) := by decide +kernel
theorem d_Lw_law_336 : decode c_Lw_law 336 = .ok (.iconst 1, 1) := by decide +kernel
theorem d_Lw_law_337 : decode c_Lw_law 337 = .ok (.iadd, 1) := by decide +kernel
theorem d_Lw_law_338 : decode c_Lw_law 338 = .ok (.iaload, 1) := by decide +kernel
theorem d_Lw_law_339 : decode c_Lw_law 339 = .ok (.invokevirtual 53, 3) := by decide +kernel
theorem d_Lw_law_342 : decode c_Lw_law 342 = .ok (.aload_n 2, 1) := by decide +kernel
theorem d_Lw_law_343 : decode c_Lw_law 343 = .ok (.aload_n 0, 1) := by decide +kernel
theorem d_Lw_law_344 : decode c_Lw_law 344 = .ok (.iload_n 3, 1) := by decide +kernel
theorem d_Lw_law_345 : decode c_Lw_law 345 = .ok (.iconst 1, 1) := by decide +kernel
theorem d_Lw_law_346 : decode c_Lw_law 346 = .ok (.iadd, 1) := by decide +kernel
theorem d_Lw_law_347 : decode c_Lw_law 347 = .ok (.iaload, 1) := by decide +kernel
theorem d_Lw_law_348 : decode c_Lw_law 348 = .ok (.invokevirtual 56, 3) := by decide +kernel
theorem d_Lw_law_351 : decode c_Lw_law 351 = .ok (.if_icmp .eq 5, 3) := by decide +kernel
theorem d_Lw_law_354 : decode c_Lw_law 354 = .ok (.iconst 0, 1) := by decide +kernel
theorem d_Lw_law_355 : decode c_Lw_law 355 = .ok (.ireturn, 1) := by decide +kernel
theorem d_Lw_law_356 : decode c_Lw_law 356 = .ok (.iinc 3 4, 3) := by decide +kernel
theorem d_Lw_law_359 : decode c_Lw_law 359 = .ok (.goto (-341), 3) := by decide +kernel
theorem d_Lw_law_362 : decode c_Lw_law 362 = .ok (.iconst 1, 1) := by decide +kernel
theorem d_Lw_law_363 : decode c_Lw_law 363 = .ok (.ireturn, 1) := by decide +kernel
end
section
/-! the tables' facts that a call hands on -/
def zN (U : State) : Prop := va_Nw (.fieldLinkNest "BranchLayout" 76 "BranchLayout$Branch" "goal" "LBranchLayout$Place;" "BranchLayout") U ∧ va_Nw (.fieldLinkNest "BranchLayout" 80 "BranchLayout$Branch" "more" "I" "BranchLayout") U ∧ va_Nw (.fieldLinkNest "BranchLayout" 113 "BranchLayout$Branch" "isShort" "Z" "BranchLayout") U ∧ va_Nw (.declares ⟨"BranchLayout$Statement", "lengthFrom", "(I)I"⟩) U ∧ va_Nw (.castable "BranchLayout$Branch" "BranchLayout$Branch") U ∧ va_Nw (.castable "BranchLayout$Alignment" "BranchLayout$Statement") U ∧ va_Nw (.castable "BranchLayout$Branch" "BranchLayout$Statement") U ∧ va_Nw (.castable "BranchLayout$Bytes" "BranchLayout$Statement") U ∧ va_AO "BranchLayout$Statement" U ∧ va_AO "BranchLayout$Label" U ∧ va_Nc "BranchLayout$Alignment" "BranchLayout$Branch" U ∧ va_Nc "BranchLayout$Bytes" "BranchLayout$Branch" U
theorem zN.warm {s U : State} (hW : s.WarmedH U.vm) (h : zN s) : zN U := by
  obtain ⟨h1, h2, h3, h4, h5, h6, h7, h8, h9, h10, h11, h12⟩ := h
  exact ⟨h1.warmF hW, h2.warmF hW, h3.warmF hW, h4.warmD hW, h5.warmC hW, h6.warmC hW, h7.warmC hW, h8.warmC hW, h9.moved hW.alike, h10.moved hW.alike, h11.moved hW.alike, h12.moved hW.alike⟩
theorem zN.same {u U : State} (e : u.vm = U.vm) (h : zN u) : zN U := by
  have hv : u.vm.Alike U.vm := by rw [e]; exact Vm.Alike.refl U.vm
  obtain ⟨h1, h2, h3, h4, h5, h6, h7, h8, h9, h10, h11, h12⟩ := h
  exact ⟨h1.same rfl e, h2.same rfl e, h3.same rfl e, h4.same rfl e, h5.same rfl e, h6.same rfl e, h7.same rfl e, h8.same rfl e, h9.moved hv, h10.moved hv, h11.moved hv, h12.moved hv⟩
/-- the array classes: int, boolean, Statement, Label -/
abbrev zty (cs : ClassId × ClassId × ClassId × ClassId) : List (ClassId × FieldType) := [(cs.1, .int), (cs.2.1, .boolean), (cs.2.2.1, .object "BranchLayout$Statement"), (cs.2.2.2, .object "BranchLayout$Label")]
def zK (D : va_G) (cs : ClassId × ClassId × ClassId × ClassId) (U : State) : Prop := va_K D zcl (zty cs) U ∧ zN U
theorem zK.warm {D : va_G} {cs : ClassId × ClassId × ClassId × ClassId} {s U : State} (hW : s.WarmedH U.vm) (h : zK D cs s) : zK D cs U := ⟨va_K.moved hW.alike h.1, h.2.warm hW⟩
theorem zK.same {D : va_G} {cs : ClassId × ClassId × ClassId × ClassId} {u U : State} (e : u.vm = U.vm) (h : zK D cs u) : zK D cs U := ⟨va_K.moved (by rw [e]; exact Vm.Alike.refl U.vm) h.1, h.2.same e⟩
/-- a method's contract: over heaps; A names what may change -/
def zMet (l : Launch) (D : va_G) (cs : ClassId × ClassId × ClassId × ClassId) (y : MethodName) (cc : ByteArray) (n : Nat) (r : Option FieldType) (rm : Room) (av : List Value) (P : Heap → Prop) (A : Nat → Prop) (Qh : Option Value → Heap → Prop) : Prop :=
  Met l y (.code y cc n r :: zt) rm (va_Pc av (fun U => zK D cs U ∧ P U.heap)) (fun _ st oc t => ∃ v, oc = .returned v ∧ va_F A st t ∧ Qh v t.heap) rm.cells rm.slots A
def zQ (below : List Frame) (s : State) (av : Array Value) (A : Nat → Prop) (Qh : Option Value → Heap → Prop) (rm : Room) : State → Prop := MQ below (fun _ st oc t => ∃ v, oc = .returned v ∧ va_F A st t ∧ Qh v t.heap) av s rm.cells rm.slots A
/-- what holds of the machine in a method's body -/
def zE (p : Program) (s : State) (m : MethodId) (meth : Method) (c : Code) (av : Array Value) (own nm : String) (cc : ByteArray) (n : Nat) (r : Option FieldType) : Prop :=
  p.tables.exec = Jvm.exec ∧ c.code = cc ∧ meth.sig.returnType = r ∧ (∀ w ∈ zt, w.before av s = true) ∧ s.vm.findClass own = some m.cls ∧ meth.locks = false ∧ c.maxLocals = n ∧ meth.name = nm
theorem zmk {l : Launch} {D : va_G} {cs : ClassId × ClassId × ClassId × ClassId} {y : MethodName} {cc : ByteArray} {n : Nat} {r : Option FieldType} {rm : Room} {av : List Value} {P : Heap → Prop} {A : Nat → Prop} {Qh : Option Value → Heap → Prop}
    (hy : plainName y.cls = true) (hn : (lg_sl av).length ≤ n)
    (body : ∀ (p : Program) (e : Env) (s : State) (m : MethodId) (below : List Frame) (meth : Method) (c : Code) (ls : Array Slot), zE p s m meth c av.toArray y.cls y.name cc n r → zK D cs s → P s.heap → lv_has ls n (lv_args 0 av) →
      W p l e rm s m av.toArray below meth c s.heap [] 0 0 (zQ below s av.toArray A Qh rm) (F0 m 0 ls [])) : zMet l D cs y cc n r rm av P A Qh := by
  refine Met.ofW (cc := cc) (maxL := n) (ret := r) hy rfl ?_
  intro p e s m args below meth c s₁ B hml hv
  obtain ⟨rfl, hK, hP⟩ := hv
  have hts := atoms_spec (ws := Cond.code y cc n r :: zt) B.pre
  have hown : s.vm.findClass y.cls = some m.cls := findClass_of_methodNamed B.named
  have hin : meth.name = y.name := (name_of_methodNamed B.named B.method).1
  have hl := lv_entry av (n := n) hn
  rw [lg_entry_eq]
  generalize (lg_sl av ++ List.replicate (n - (lg_sl av).length) Slot.unset).toArray = ls at hl ⊢
  exact body p e s m below meth c ls ⟨B.exec, B.bytes, B.returns, fun w h => hts w (List.mem_cons_of_mem _ h), hown, B.notSynchronized, hml, hin⟩ hK hP hl
section ZR
variable {p : Program} {l : Launch} {e : Env} {R : Room} {s : State} {m : MethodId} {av : Array Value} {below : List Frame} {meth : Method} {c : Code} {H : Heap} {locs : List Loc} {cells slots : Nat} {A : Nat → Prop} {Qh : Option Value → Heap → Prop} {rm : Room} {own nm : String} {cc : ByteArray} {n : Nat} {r : Option FieldType} {pc : Nat} {ls : Array Slot}
theorem zri (E : zE p s m meth c av own nm cc n (some .int)) {v : Int32} (hdg : decode cc pc = .ok (.ireturn, 1)) (hS : va_S A s.heap H locs) (hc : cells ≤ rm.cells) (hs : slots ≤ rm.slots) (hq : Qh (some (.int v)) H) : W p l e R s m av below meth c H locs cells slots (zQ below s av A Qh rm) (F0 m pc ls [.int v]) := by
  obtain ⟨hx, hb, hr, hts, hown, hlocks, hml, hin⟩ := E
  refine W.widen hc hs ?_
  exact W.iret hx hb hr (fun t ht hW => ⟨_, rfl, hS.F ht, by rw [ht]; exact hq⟩) hS.2.2 hdg
theorem zrz (E : zE p s m meth c av own nm cc n (some .boolean)) {v : Int32} (hdg : decode cc pc = .ok (.ireturn, 1)) (hn : v = 0 ∨ v = 1) (hS : va_S A s.heap H locs) (hc : cells ≤ rm.cells) (hs : slots ≤ rm.slots) (hq : Qh (some (.int v)) H) : W p l e R s m av below meth c H locs cells slots (zQ below s av A Qh rm) (F0 m pc ls [.int v]) := by
  obtain ⟨hx, hb, hr, hts, hown, hlocks, hml, hin⟩ := E
  refine W.widen hc hs ?_
  exact W.zret hx hb hr (by rcases hn with rfl | rfl <;> rfl) (fun t ht hW => ⟨_, rfl, hS.F ht, by rw [ht]; exact hq⟩) hS.2.2 hdg
theorem zrv (E : zE p s m meth c av own nm cc n none) (hdg : decode cc pc = .ok (.return_, 1)) (hS : va_S A s.heap H locs) (hc : cells ≤ rm.cells) (hs : slots ≤ rm.slots) (hq : Qh none H) : W p l e R s m av below meth c H locs cells slots (zQ below s av A Qh rm) (F0 m pc ls []) := by
  obtain ⟨hx, hb, hr, hts, hown, hlocks, hml, hin⟩ := E
  refine W.widen hc hs ?_
  exact W.vret hx hb hr (fun t ht hW => ⟨_, rfl, hS.F ht, by rw [ht]; exact hq⟩) hS.2.2 hdg
theorem zra {rt : FieldType} (E : zE p s m meth c av own nm cc n (some rt)) {v : Option Nat} (hrt : (∃ q, rt = .object q) ∨ ∃ t, rt = .array t) (hdg : decode cc pc = .ok (.areturn, 1)) (hS : va_S A s.heap H locs) (hc : cells ≤ rm.cells) (hs : slots ≤ rm.slots) (hq : Qh (some (va_rf v)) H) : W p l e R s m av below meth c H locs cells slots (zQ below s av A Qh rm) (F0 m pc ls [va_rf v]) := by
  obtain ⟨hx, hb, hr, hts, hown, hlocks, hml, hin⟩ := E
  refine W.widen hc hs ?_
  exact W.aret hx hb hr hrt (va_rf_or v) (fun t ht hW => ⟨_, rfl, hS.F ht, by rw [ht]; exact hq⟩) hS.2.2 hdg
theorem zrl (E : zE p s m meth c av own nm cc n (some .long)) {v : Int64} (hdg : decode cc pc = .ok (.lreturn, 1)) (hS : va_S A s.heap H locs) (hc : cells ≤ rm.cells) (hs : slots ≤ rm.slots) (hq : Qh (some (.long v)) H) : W p l e R s m av below meth c H locs cells slots (zQ below s av A Qh rm) (F0 m pc ls [.long v]) := by
  obtain ⟨hx, hb, hr, hts, hown, hlocks, hml, hin⟩ := E
  refine W.widen hc hs ?_
  exact W.lret hx hb hr (fun t ht hW => ⟨_, rfl, hS.F ht, by rw [ht]; exact hq⟩) hS.2.2 hdg
end ZR
/-! calls -/
section ZC
variable {p : Program} {l : Launch} {e : Env} {R : Room} {s : State} {m : MethodId} {av : Array Value} {below : List Frame} {meth : Method} {c : Code} {H : Heap} {locs : List Loc} {cells slots : Nat} {Q : State → Prop} {own nm : String} {cc : ByteArray} {nL : Nat} {r : Option FieldType} {pc : Nat} {ls : Array Slot} {st0 : List Value}
variable {D : va_G} {cs : ClassId × ClassId × ClassId × ClassId} {C : String} {idx : Nat} {y : MethodName} {cc' : ByteArray} {n' : Nat} {r' : Option FieldType} {rm : Room} {b : Nat} {P : Heap → Prop} {A' A0 : Nat → Prop} {Qh : Option Value → Heap → Prop} {H0 : Heap}
def zKK (p : Program) (l : Launch) (e : Env) (R : Room) (s : State) (m : MethodId) (av : Array Value) (below : List Frame) (meth : Method) (c : Code) (H : Heap) (cells slots : Nat) (Q : State → Prop) (rm : Room) (A' A0 : Nat → Prop) (H0 : Heap) (Qh : Option Value → Heap → Prop) (pc : Nat) (ls : Array Slot) (rest : List Value) : Prop :=
  ∀ (v : Option Value) (H1 : Heap) (locs1 : List Loc), Qh v H1 → H.size ≤ H1.size → (∀ q : Nat, q < H.size → ¬ A' q → H1[q]? = H[q]?) → va_S A0 H0 H1 locs1 → W p l e R s m av below meth c H1 locs1 (cells + rm.cells) (slots + rm.slots) Q (F0 m pc ls (v.toList ++ rest))
theorem zgo {rest : List Value} (hr : va_Run p l e R s m av below meth c H locs cells slots rm.cells rm.slots (F0 m pc ls st0) rest (fun (st : State) (oc : Outcome) (t : State) => ∃ v, oc = .returned v ∧ va_F A' st t ∧ Qh v t.heap) A') (hS : va_S A0 H0 H locs) (hA : ∀ q, A' q → A0 q)
    (kk : zKK p l e R s m av below meth c H cells slots Q rm A' A0 H0 Qh (pc + 3) ls rest) : W p l e R s m av below meth c H locs cells slots Q (F0 m pc ls st0) := by
  intro T hT X
  obtain ⟨v, st₀, t, T', L, h0, X', hL, e1, e2, ⟨v', hv, ⟨hz, hk⟩, hq⟩, st⟩ := hr T hT X
  cases hv
  rw [h0] at hz hk
  obtain ⟨t2, a1, b1⟩ := kk v T'.heap (locs ++ L) (by rw [e1]; exact hq) (by rw [e1]; exact hz) (fun q h1 h2 => by rw [e1]; exact hk q h1 h2)
    ⟨Nat.le_trans hS.1 (by rw [e1]; exact hz), fun q h1 h2 => by rw [e1, hk q (Nat.lt_of_lt_of_le h1 hS.1) (fun z => h2 (hA q z))]; exact hS.2.1 q h1 h2, fun q hq => by
      rcases List.mem_append.mp hq with h | h
      · exact hS.2.2 q h
      · exact hA _ (hL q h)⟩ T' rfl X'
  exact ⟨t2, st t2 a1, b1⟩
theorem zblind {av' : List Value} : FrameBlind (va_Pc av' (fun U => zK D cs U ∧ P U.heap)) := fun a U g mk h => ⟨h.1, h.2.1.same rfl, h.2.2⟩
theorem zpre {av' : List Value} (hK : zK D cs s) (hP : P H) : ∀ U : State, U.heap = H → s.WarmedH U.vm → va_Pc av' (fun U => zK D cs U ∧ P U.heap) av'.toArray U := fun U hU hW => ⟨rfl, hK.warm hW, by rw [hU]; exact hP⟩
theorem zcV (As rest : List Value) (E : zE p s m meth c av own nm cc nL r) (hM : zMet l D cs y cc' n' r' rm (.ref b :: As) P A' Qh) (hdg : decode cc pc = .ok (.invokevirtual idx, 3))
    (m1 : Cond.methodLink own idx y ∈ zt) (m2 : Cond.instanceMethod y ∈ zt) (m3 : Cond.selects C y y ∈ zt) (m4 : Cond.initialized C ∈ zt) (m5 : Cond.code y cc' n' r' ∈ zt)
    (hd : y.cls = C ∧ y.cls ≠ "java/lang/invoke/MethodHandle" ∧ y.cls ≠ "java/lang/invoke/VarHandle" ∧ (parseMethodDescriptor y.desc).map (fun d => d.parameters.length) = some As.length)
    (hR : rm.frames + 1 ≤ R.frames ∧ 8 + (n' + 11) + rm.locals ≤ R.locals) (hf : cells + rm.cells ≤ R.cells ∧ slots + rm.slots ≤ R.slots) (hst : st0 = As.reverse ++ .ref b :: rest) (hw : (rest.map fun v => v.category).sum ≤ 8) (hl : ls.size = nL)
    (hrec : ∃ cell : Cell, H[b]? = some cell ∧ cell.vm.isStatics = false ∧ s.vm.findClass C = some cell.cls) (hK : zK D cs s) (hP : P H) (hS : va_S A0 H0 H locs) (hA : ∀ q, A' q → A0 q)
    (kk : zKK p l e R s m av below meth c H cells slots Q rm A' A0 H0 Qh (pc + 3) ls rest) : W p l e R s m av below meth c H locs cells slots Q (F0 m pc ls st0) := by
  obtain ⟨hx, hb, hr, hts, hown, hlocks, hml, hin⟩ := E
  refine zgo (va_runV (As := As) (rest := rest) (n := As.length) ⟨hx, hb, hml, hown, hts⟩ hM (cwV As.length hts (zt_all ?_) rfl rfl rfl hd hR) ⟨zblind, hrec, zpre hK hP⟩ rfl rfl hl hst (lv_room hw) hdg hf) hS hA kk
  intro w hw
  simp only [wsV, List.cons_append, List.nil_append, List.mem_cons] at hw
  rcases hw with rfl | rfl | rfl | rfl | rfl | h
  · exact m1
  · exact m2
  · exact m3
  · exact m4
  · exact m5
  · exact h
theorem zcS (As rest : List Value) (E : zE p s m meth c av own nm cc nL r) (hM : zMet l D cs y cc' n' r' rm As P A' Qh) (hdg : decode cc pc = .ok (.invokestatic idx, 3))
    (m1 : Cond.methodLink own idx y ∈ zt) (m2 : Cond.static y ∈ zt) (m4 : Cond.initialized y.cls ∈ zt) (m5 : Cond.code y cc' n' r' ∈ zt)
    (hd : y.cls ≠ "java/lang/invoke/MethodHandle" ∧ y.cls ≠ "java/lang/invoke/VarHandle" ∧ (parseMethodDescriptor y.desc).map (fun d => d.parameters.length) = some As.length)
    (hR : rm.frames + 1 ≤ R.frames ∧ 8 + (n' + 11) + rm.locals ≤ R.locals) (hf : cells + rm.cells ≤ R.cells ∧ slots + rm.slots ≤ R.slots) (hst : st0 = As.reverse ++ rest) (hw : (rest.map fun v => v.category).sum ≤ 8) (hl : ls.size = nL)
    (hK : zK D cs s) (hP : P H) (hS : va_S A0 H0 H locs) (hA : ∀ q, A' q → A0 q)
    (kk : zKK p l e R s m av below meth c H cells slots Q rm A' A0 H0 Qh (pc + 3) ls rest) : W p l e R s m av below meth c H locs cells slots Q (F0 m pc ls st0) := by
  obtain ⟨hx, hb, hr, hts, hown, hlocks, hml, hin⟩ := E
  refine zgo (va_runS (As := As) (rest := rest) (n := As.length) ⟨hx, hb, hml, hown, hts⟩ hM (va_cwS As.length hts (zt_all ?_) rfl rfl rfl hd hR) ⟨zblind, zpre hK hP⟩ rfl rfl hl hst (lv_room hw) hdg hf) hS hA kk
  intro w hw
  simp only [va_wsS, List.cons_append, List.nil_append, List.mem_cons] at hw
  rcases hw with rfl | rfl | rfl | rfl | h
  · exact m1
  · exact m2
  · exact m4
  · exact m5
  · exact h
theorem zcI (As rest : List Value) (E : zE p s m meth c av own nm cc nL r) (hM : zMet l D cs y cc' n' none rm (.ref b :: As) P A' Qh) (hdg : decode cc pc = .ok (.invokespecial idx, 3))
    (m1 : Cond.methodLink own idx y ∈ zt) (m2 : Cond.instanceMethod y ∈ zt) (m4 : Cond.initialized y.cls ∈ zt) (m5 : Cond.code y cc' n' none ∈ zt) (hi : y.name = "<init>")
    (hd : y.cls ≠ "java/lang/invoke/MethodHandle" ∧ y.cls ≠ "java/lang/invoke/VarHandle" ∧ (parseMethodDescriptor y.desc).map (fun d => d.parameters.length) = some As.length)
    (hR : rm.frames + 1 ≤ R.frames ∧ 8 + (n' + 11) + rm.locals ≤ R.locals) (hf : cells + rm.cells ≤ R.cells ∧ slots + rm.slots ≤ R.slots) (hst : st0 = As.reverse ++ .ref b :: rest) (hw : (rest.map fun v => v.category).sum ≤ 8) (hl : ls.size = nL)
    (hK : zK D cs s) (hP : P H) (hS : va_S A0 H0 H locs) (hA : ∀ q, A' q → A0 q)
    (kk : zKK p l e R s m av below meth c H cells slots Q rm A' A0 H0 Qh (pc + 3) ls rest) : W p l e R s m av below meth c H locs cells slots Q (F0 m pc ls st0) := by
  obtain ⟨hx, hb, hr, hts, hown, hlocks, hml, hin⟩ := E
  refine zgo (va_runI (As := As) (rest := rest) (n := As.length) ⟨hx, hb, hml, hown, hts⟩ hM ⟨callB_of As.length hts (zt_all ?_) rfl rfl rfl (hts _ m4) (hts _ m1) hd hR, hi, hts _ m2⟩ ⟨zblind, zpre hK hP⟩ rfl rfl hl hst (lv_room hw) hdg hf) hS hA kk
  intro w hw
  rcases List.mem_cons.mp hw with rfl | h
  · exact m5
  · exact h
end ZC
/-! what a call answers, by its type -/
def zqi (Q : Int32 → Heap → Prop) : Option Value → Heap → Prop := fun v H => ∃ r, v = some (.int r) ∧ Q r H
def zql (Q : Int64 → Heap → Prop) : Option Value → Heap → Prop := fun v H => ∃ r, v = some (.long r) ∧ Q r H
def zqv (Q : Heap → Prop) : Option Value → Heap → Prop := fun v H => v = none ∧ Q H
def zqr (Q : Option Nat → Heap → Prop) : Option Value → Heap → Prop := fun v H => ∃ r, v = some (va_rf r) ∧ Q r H
section ZT
variable {p : Program} {l : Launch} {e : Env} {R : Room} {s : State} {m : MethodId} {av : Array Value} {below : List Frame} {meth : Method} {c : Code} {H : Heap} {cells slots : Nat} {Q : State → Prop} {rm : Room} {A' A0 : Nat → Prop} {H0 : Heap} {pc : Nat} {ls : Array Slot} {rest : List Value}
theorem zki {Qi : Int32 → Heap → Prop} (k : ∀ (r : Int32) (H1 : Heap) (locs1 : List Loc), Qi r H1 → H.size ≤ H1.size → (∀ q : Nat, q < H.size → ¬ A' q → H1[q]? = H[q]?) → va_S A0 H0 H1 locs1 → W p l e R s m av below meth c H1 locs1 (cells + rm.cells) (slots + rm.slots) Q (F0 m pc ls (.int r :: rest))) : zKK p l e R s m av below meth c H cells slots Q rm A' A0 H0 (zqi Qi) pc ls rest := by
  rintro v H1 locs1 ⟨r, rfl, h⟩ h1 h2 h3
  exact k r H1 locs1 h h1 h2 h3
theorem zkl {Qi : Int64 → Heap → Prop} (k : ∀ (r : Int64) (H1 : Heap) (locs1 : List Loc), Qi r H1 → H.size ≤ H1.size → (∀ q : Nat, q < H.size → ¬ A' q → H1[q]? = H[q]?) → va_S A0 H0 H1 locs1 → W p l e R s m av below meth c H1 locs1 (cells + rm.cells) (slots + rm.slots) Q (F0 m pc ls (.long r :: rest))) : zKK p l e R s m av below meth c H cells slots Q rm A' A0 H0 (zql Qi) pc ls rest := by
  rintro v H1 locs1 ⟨r, rfl, h⟩ h1 h2 h3
  exact k r H1 locs1 h h1 h2 h3
theorem zkv {Qi : Heap → Prop} (k : ∀ (H1 : Heap) (locs1 : List Loc), Qi H1 → H.size ≤ H1.size → (∀ q : Nat, q < H.size → ¬ A' q → H1[q]? = H[q]?) → va_S A0 H0 H1 locs1 → W p l e R s m av below meth c H1 locs1 (cells + rm.cells) (slots + rm.slots) Q (F0 m pc ls rest)) : zKK p l e R s m av below meth c H cells slots Q rm A' A0 H0 (zqv Qi) pc ls rest := by
  rintro v H1 locs1 ⟨rfl, h⟩ h1 h2 h3
  exact k H1 locs1 h h1 h2 h3
theorem zkr {Qi : Option Nat → Heap → Prop} (k : ∀ (r : Option Nat) (H1 : Heap) (locs1 : List Loc), Qi r H1 → H.size ≤ H1.size → (∀ q : Nat, q < H.size → ¬ A' q → H1[q]? = H[q]?) → va_S A0 H0 H1 locs1 → W p l e R s m av below meth c H1 locs1 (cells + rm.cells) (slots + rm.slots) Q (F0 m pc ls (va_rf r :: rest))) : zKK p l e R s m av below meth c H cells slots Q rm A' A0 H0 (zqr Qi) pc ls rest := by
  rintro v H1 locs1 ⟨r, rfl, h⟩ h1 h2 h3
  exact k r H1 locs1 h h1 h2 h3
end ZT
end
section
/-! worlds: some fixed cells, then two rows of cells by their numbers -/
def zw_ws (X : va_W) (n : Nat) (F : Nat → Nat × va_E) (k : Nat) (G : Nat → Nat × va_E) : va_W := (X ++ (List.range n).map F) ++ (List.range k).map G
section ZW
variable {X : va_W} {n : Nat} {F F' : Nat → Nat × va_E} {k : Nat} {G G' : Nat → Nat × va_E} {i j x : Nat} {q : Nat × va_E}
theorem zw_x (h : X[i]? = some q) : (zw_ws X n F k G)[i]? = some q := by
  have hl := (List.getElem?_eq_some_iff.mp h).1
  unfold zw_ws
  rw [List.getElem?_append_left (by rw [List.length_append]; omega), List.getElem?_append_left hl]
  exact h
theorem zw_f (hx : X.length = x) (h : j < n) : (zw_ws X n F k G)[x + j]? = some (F j) := by
  subst hx
  unfold zw_ws
  rw [List.getElem?_append_left (by simp; omega), List.getElem?_append_right (by omega), Nat.add_sub_cancel_left]
  simp [h]
theorem zw_g (hx : X.length = x) (h : j < k) : (zw_ws X n F k G)[x + n + j]? = some (G j) := by
  subst hx
  unfold zw_ws
  rw [List.getElem?_append_right (by simp)]
  have e : X.length + n + j - (X ++ (List.range n).map F).length = j := by simp
  rw [e]
  simp [h]
theorem zw_setx (h : i < X.length) : (zw_ws X n F k G).set i q = zw_ws (X.set i q) n F k G := by
  unfold zw_ws
  rw [List.set_append_left _ _ (by simp; omega), List.set_append_left _ _ h]
theorem zw_map {n : Nat} {F F' : Nat → Nat × va_E} {j : Nat} {q : Nat × va_E} (h : j < n) (h1 : F' j = q) (h2 : ∀ i, i < n → i ≠ j → F' i = F i) : ((List.range n).map F).set j q = (List.range n).map F' := by
  apply List.ext_getElem?
  intro i
  by_cases hi : i = j
  · subst hi
    rw [List.getElem?_set_self (by simpa using h)]
    simp [h, h1]
  · rw [List.getElem?_set_ne (Ne.symm hi)]
    by_cases hn : i < n
    · simp [hn, h2 i hn hi]
    · simp [hn]
theorem zw_cong {n : Nat} {F F' : Nat → Nat × va_E} (h : ∀ i, i < n → F i = F' i) : (List.range n).map F = (List.range n).map F' := by
  apply List.map_congr_left
  intro i hi
  exact h i (List.mem_range.mp hi)
theorem zw_setf {X' : va_W} (hx : X.length = x) (h : j < n) (h1 : F' j = q) (h2 : ∀ i, i < n → i ≠ j → F' i = F i) (h3 : ∀ i, i < k → G i = G' i) (h4 : X = X') : (zw_ws X n F k G).set (x + j) q = zw_ws X' n F' k G' := by
  subst hx; subst h4
  unfold zw_ws
  rw [List.set_append_left _ _ (by simp; omega), List.set_append_right _ _ (by omega), Nat.add_sub_cancel_left, zw_map h h1 h2, zw_cong h3]
theorem zw_setg {X' : va_W} (hx : X.length = x) (h : j < k) (h1 : G' j = q) (h2 : ∀ i, i < k → i ≠ j → G' i = G i) (h3 : ∀ i, i < n → F i = F' i) (h4 : X = X') : (zw_ws X n F k G).set (x + n + j) q = zw_ws X' n F' k G' := by
  subst hx; subst h4
  unfold zw_ws
  have e : X.length + n + j - (X ++ (List.range n).map F).length = j := by simp
  rw [List.set_append_right _ _ (by simp), e, zw_map h h1 h2, zw_cong h3]
theorem zw_congr {X' : va_W} (h1 : ∀ i, i < n → F i = F' i) (h2 : ∀ i, i < k → G i = G' i) (h3 : X = X') : zw_ws X n F k G = zw_ws X' n F' k G' := by
  subst h3
  unfold zw_ws
  rw [zw_cong h1, zw_cong h2]
theorem zw_pushg (h1 : ∀ i, i < k → G i = G' i) (h2 : G' k = q) : zw_ws X n F k G ++ [q] = zw_ws X n F (k + 1) G' := by
  unfold zw_ws
  rw [List.range_succ, List.map_append, zw_cong h1, ← List.append_assoc]
  simp [h2]
theorem zw_pushf {D : va_G} {cl : List vw_C} {H : Heap} {A : Nat → Prop} (h1 : ∀ i, i < n → F i = F' i) (h2 : F' n = q) (hG : ∀ i, i < k → G i = G' i) (hP : va_P D cl (zw_ws X n F k G ++ [q]) H) (hD : va_D A (zw_ws X n F k G ++ [q])) : va_P D cl (zw_ws X (n + 1) F' k G') H ∧ va_D A (zw_ws X (n + 1) F' k G') := by
  have e : (X ++ (List.range n).map F ++ [q]) ++ (List.range k).map G = zw_ws X (n + 1) F' k G' := by
    unfold zw_ws
    rw [List.range_succ, List.map_append, zw_cong h1, zw_cong hG, ← List.append_assoc]
    simp [h2]
  rw [← e]
  exact ⟨hP.swap, hD.swap⟩
theorem zw_cut {D : va_G} {cl : List vw_C} {H : Heap} {A : Nat → Prop} (hP : va_P D cl (zw_ws X n F k G) H) (hD : va_D A (zw_ws X n F k G)) : va_P D cl (zw_ws X 0 F' 0 G') H ∧ va_D A (zw_ws X 0 F' 0 G') := by
  have e : zw_ws X 0 F' 0 G' = X := by simp [zw_ws]
  rw [e]
  exact ⟨hP.by id (fun k q h => zw_x h), hD.by id (fun k q h => zw_x h) (fun i j _ _ h => h)⟩
end ZW
def zu (V : Nat → Nat → Int32) (f k : Nat) (x : Int32) : Nat → Nat → Int32 := fun a b => if a = f ∧ b = k then x else V a b
theorem zu5 (V : Nat → Nat → Int32) (i : Nat) (x : Int32) : (zu V 5 i x) 5 = upd (V 5) i x := by
  funext j
  simp [zu, upd]
def zga (ad bd : Nat → Nat) (g : Int32) : Option Nat := if g = -1 then none else if g < 0 then some (ad (-2 - g).toNatClampNeg) else some (bd g.toNatClampNeg)
/-- statement k: c 0 its kind (0 bytes, 1 alignment, 2 branch), c 1 its section, c 2 its amount; gp, mo where it goes; V 0 at, V 1 length, V 2 short, V 3 distance -/
def zcell (c : Nat → Nat → Nat) (gp mo : Nat → Int32) (V : Nat → Nat → Int32) (ad bd : Nat → Nat) (k : Nat) : va_E :=
  if c 0 k = 2 then .inr (1, [.int (V 1 k), .int (nI (c 1 k)), .int (V 0 k), .int (nI (c 2 k)), va_rf (zga ad bd (gp k)), .int (mo k), .int (V 2 k), .int (V 3 k)])
  else if c 0 k = 1 then .inr (0, [.int (V 1 k), .int (nI (c 1 k)), .int (V 0 k), .int (nI (c 2 k))])
  else .inr (2, [.int (V 1 k), .int (nI (c 1 k)), .int (V 0 k), .int (nI (c 2 k))])
/-- label j: c 3 its section, c 4 the statements ahead of it; V 4 at -/
def zlab (c : Nat → Nat → Nat) (V : Nat → Nat → Int32) (j : Nat) : va_E := .inr (3, [.int (nI (c 3 j)), .int (V 4 j), .int (nI (c 4 j))])
abbrev zX (o : Nat × Nat × Nat × Nat) (cs : ClassId × ClassId × ClassId × ClassId) (sc lc : Nat) (fa fb : Nat → Option Nat) (z : Nat → Int32) : va_W :=
  [(o.1, .inr (4, [.ref o.2.1, .ref o.2.2.1, .ref o.2.2.2, .int (nI sc), .int (nI lc)])), (o.2.1, .inl (cs.2.2.1, 4096, .inr (.inr (.inr (.inr fa))))), (o.2.2.1, .inl (cs.2.2.2, 1024, .inr (.inr (.inr (.inr fb))))), (o.2.2.2, .inl (cs.1, 4, .inl z))]
def zB (o : Nat × Nat × Nat × Nat) (cs : ClassId × ClassId × ClassId × ClassId) (sc lc : Nat) (fa fb : Nat → Option Nat) (ad bd : Nat → Nat) (c : Nat → Nat → Nat) (gp mo : Nat → Int32) (V : Nat → Nat → Int32) : va_W :=
  zw_ws (zX o cs sc lc fa fb (V 5)) sc (fun k => (ad k, zcell c gp mo V ad bd k)) lc (fun j => (bd j, zlab c V j))
section ZB
variable {o : Nat × Nat × Nat × Nat} {cs : ClassId × ClassId × ClassId × ClassId} {sc lc : Nat} {fa fb : Nat → Option Nat} {ad bd : Nat → Nat} {c : Nat → Nat → Nat} {gp mo gp' mo' : Nat → Int32} {V V' : Nat → Nat → Int32} {k j i : Nat} {q : Nat × va_E} {e : va_E}
theorem zb_x (h : (zX o cs sc lc fa fb (V 5))[i]? = some q) : (zB o cs sc lc fa fb ad bd c gp mo V)[i]? = some q := zw_x h
theorem zb_s (h : k < sc) : (zB o cs sc lc fa fb ad bd c gp mo V)[4 + k]? = some (ad k, zcell c gp mo V ad bd k) := zw_f rfl h
theorem zb_l (h : j < lc) : (zB o cs sc lc fa fb ad bd c gp mo V)[4 + sc + j]? = some (bd j, zlab c V j) := zw_g rfl h
theorem zb_sets (h : k < sc) (h1 : zcell c gp' mo' V' ad bd k = e) (h2 : ∀ i, i < sc → i ≠ k → zcell c gp' mo' V' ad bd i = zcell c gp mo V ad bd i) (h3 : V 4 = V' 4) (h4 : V 5 = V' 5) : (zB o cs sc lc fa fb ad bd c gp mo V).set (4 + k) (ad k, e) = zB o cs sc lc fa fb ad bd c gp' mo' V' := by
  refine zw_setf rfl h (by rw [h1]) (fun i hi hk => by simp only [h2 i hi hk]) (fun i _ => by simp only [zlab, h3]) (by rw [h4])
theorem zb_setl (h : j < lc) (h1 : zlab c V' j = e) (h2 : ∀ i, i < lc → i ≠ j → zlab c V' i = zlab c V i) (h3 : ∀ i, i < sc → zcell c gp mo V ad bd i = zcell c gp' mo' V' ad bd i) (h4 : V 5 = V' 5) : (zB o cs sc lc fa fb ad bd c gp mo V).set (4 + sc + j) (bd j, e) = zB o cs sc lc fa fb ad bd c gp' mo' V' := by
  refine zw_setg rfl h (by rw [h1]) (fun i hi hk => by simp only [h2 i hi hk]) (fun i hi => by simp only [h3 i hi]) (by rw [h4])
theorem zcell_u {f : Nat} {x : Int32} (hf : f < 4) (h : i ≠ k) : zcell c gp mo (zu V f k x) ad bd i = zcell c gp mo V ad bd i := by
  unfold zcell zu
  simp [h]
theorem zcell_u4 {f : Nat} {x : Int32} (hf : 4 ≤ f) : zcell c gp mo (zu V f k x) ad bd i = zcell c gp mo V ad bd i := by
  unfold zcell zu
  have h0 : ¬ (0 = f) := by omega
  have h1 : ¬ (1 = f) := by omega
  have h2 : ¬ (2 = f) := by omega
  have h3 : ¬ (3 = f) := by omega
  simp [h0, h1, h2, h3]
theorem zu_ne {f g : Nat} {x : Int32} (h : g ≠ f) : zu V f k x g = V g := by
  funext b
  simp [zu, h]
theorem zu_at {f : Nat} {x : Int32} : zu V f k x f k = x := by simp [zu]
theorem zu_no {f g : Nat} {x : Int32} (h : ¬ (g = f ∧ i = k)) : zu V f k x g i = V g i := by simp [zu, h]
end ZB
/-! the pure layout -/
def zal (n e : Nat) : Nat := (n - e % n) % n
def zln (c : Nat → Nat → Nat) (br : Nat → Bool) (k e : Nat) : Nat := if c 0 k = 2 then (if br k then 2 else c 2 k) else if c 0 k = 1 then zal (c 2 k) e else c 2 k
def zSZ (c : Nat → Nat → Nat) (br : Nat → Bool) : Nat → Nat → Nat
  | 0, _ => 0
  | k + 1, i => if c 1 k = i then zSZ c br k i + zln c br k (zSZ c br k i) else zSZ c br k i
/-- the layout of br: at, length, a label's place, a section's size -/
def zL (c : Nat → Nat → Nat) (br : Nat → Bool) (sc f k : Nat) : Int32 :=
  if f = 0 then nI (zSZ c br k (c 1 k)) else if f = 1 then nI (zln c br k (zSZ c br k (c 1 k))) else if f = 4 then nI (zSZ c br (c 4 k) (c 3 k)) else nI (zSZ c br sc k)
def zgat (g : Int32) (V : Nat → Nat → Int32) : Int32 := if g < 0 then V 0 (-2 - g).toNatClampNeg else V 4 g.toNatClampNeg
/-- the distance of branch k as the places V say -/
def zdi (gp mo : Nat → Int32) (V : Nat → Nat → Int32) (k : Nat) : Int64 := (zgat (gp k) V).toInt64 + (mo k).toInt64 - (V 0 k + V 1 k).toInt64
def zok (x : Int64) : Bool := decide (-128 ≤ x) && decide (x ≤ 127)
def zb0 (c : Nat → Nat → Nat) (gp : Nat → Int32) (k : Nat) : Bool := decide (c 0 k = 2) && decide (gp k ≠ -1)
def zstep (c : Nat → Nat → Nat) (gp mo : Nat → Int32) (sc : Nat) (br : Nat → Bool) : Nat → Bool := fun k => br k && zok (zdi gp mo (zL c br sc) k)
def zany (c : Nat → Nat → Nat) (gp mo : Nat → Int32) (sc : Nat) (br : Nat → Bool) : Prop := ∃ k, k < sc ∧ br k = true ∧ zok (zdi gp mo (zL c br sc) k) = false
def zvalid (sc lc : Nat) (g : Int32) : Prop := g = -1 ∨ (∃ j, j < lc ∧ g = nI j) ∨ ∃ i, i < sc ∧ g = -2 - nI i
/-- what always holds of a state -/
def zI (sc lc : Nat) (c : Nat → Nat → Nat) (gp : Nat → Int32) : Prop := sc ≤ 4096 ∧ lc ≤ 1024 ∧ (∀ k, k < sc → c 0 k ≤ 2 ∧ c 1 k < 4 ∧ c 2 k ≤ 65536 ∧ (c 0 k = 1 → ∃ p, p ≤ 12 ∧ c 2 k = 2 ^ p) ∧ zvalid sc lc (gp k) ∧ (c 0 k ≠ 2 → gp k = -1)) ∧ (∀ j, j < lc → c 3 j < 4 ∧ c 4 j ≤ sc) ∧ ∀ i j, i ≤ j → j < lc → c 4 i ≤ c 4 j
def zJ (sc : Nat) (c : Nat → Nat → Nat) (gp : Nat → Int32) (V : Nat → Nat → Int32) : Prop := ∀ k, k < sc → (V 2 k = 0 ∨ V 2 k = 1) ∧ (V 2 k = 0 → V 3 k = 0) ∧ (gp k = -1 → V 2 k = 0)
end
section
/-- a heap that holds a world -/
def zH (D : va_G) (A : Nat → Prop) (ws : va_W) (H : Heap) : Prop := va_P D zcl ws H ∧ va_D A ws
section ZS
variable {p : Program} {l : Launch} {e : Env} {R : Room} {s : State} {m : MethodId} {av : Array Value} {below : List Frame} {meth : Method} {cd : Code} {H H0 : Heap} {locs : List Loc} {cells slots : Nat} {Q : State → Prop} {own nm : String} {cc : ByteArray} {nL : Nat} {r : Option FieldType} {pc : Nat} {ls : Array Slot} {rest : List Value} {A : Nat → Prop}
variable {D : va_G} {o : Nat × Nat × Nat × Nat} {cs : ClassId × ClassId × ClassId × ClassId} {sc lc : Nat} {fa fb : Nat → Option Nat} {ad bd : Nat → Nat} {c : Nat → Nat → Nat} {gp mo gp' mo' : Nat → Int32} {V V' : Nat → Nat → Int32} {k j i : Nat}
theorem zs_get_length (E : zE p s m meth cd av own nm cc nL r) (hK : zK D cs s) (hP : va_P D zcl (zB o cs sc lc fa fb ad bd c gp mo V) H) (hk : k < sc) {idx : Nat} {rf : String} (hlink : Cond.fieldLink own idx rf "length" "I" ∈ zt) (hsame : ∀ x, s.fieldFound? "BranchLayout$Statement" "length" "I" = some x → s.fieldFound? rf "length" "I" = some x) (hdg : decode cc pc = .ok (.getfield idx, 3))
    (kk : W p l e R s m av below meth cd H locs cells slots Q (F0 m (pc + 3) ls (.int (V 1 k) :: rest))) : W p l e R s m av below meth cd H locs cells slots Q (F0 m pc ls (.ref (ad k) :: rest)) := by
  obtain ⟨hx, hb, hr, hts, hown, hlocks, hml, hin⟩ := E
  have hc := zb_s (o := o) (cs := cs) (lc := lc) (fa := fa) (fb := fb) (ad := ad) (bd := bd) (c := c) (gp := gp) (mo := mo) (V := V) hk
  by_cases h2 : c 0 k = 2
  · simp only [zcell, h2, if_true] at hc
    exact va_get (D := D) (ci := 1) (C := "BranchLayout$Branch") (T := T_Br) (N := 8) hx hb hts in_Br hown hK.1 hP (4 + k) hc rfl 0 (by decide) (hts _ hlink) hsame rfl hdg kk
  · by_cases h1 : c 0 k = 1
    · simp only [zcell, h2, h1, if_true, if_false] at hc
      exact va_get (D := D) (ci := 0) (C := "BranchLayout$Alignment") (T := T_Al) (N := 4) hx hb hts in_Al hown hK.1 hP (4 + k) hc rfl 0 (by decide) (hts _ hlink) hsame rfl hdg kk
    · simp only [zcell, h2, h1, if_false] at hc
      exact va_get (D := D) (ci := 2) (C := "BranchLayout$Bytes") (T := T_By) (N := 4) hx hb hts in_By hown hK.1 hP (4 + k) hc rfl 0 (by decide) (hts _ hlink) hsame rfl hdg kk
theorem zs_get_section (E : zE p s m meth cd av own nm cc nL r) (hK : zK D cs s) (hP : va_P D zcl (zB o cs sc lc fa fb ad bd c gp mo V) H) (hk : k < sc) {idx : Nat} {rf : String} (hlink : Cond.fieldLink own idx rf "section" "I" ∈ zt) (hsame : ∀ x, s.fieldFound? "BranchLayout$Place" "section" "I" = some x → s.fieldFound? rf "section" "I" = some x) (hdg : decode cc pc = .ok (.getfield idx, 3))
    (kk : W p l e R s m av below meth cd H locs cells slots Q (F0 m (pc + 3) ls (.int (nI (c 1 k)) :: rest))) : W p l e R s m av below meth cd H locs cells slots Q (F0 m pc ls (.ref (ad k) :: rest)) := by
  obtain ⟨hx, hb, hr, hts, hown, hlocks, hml, hin⟩ := E
  have hc := zb_s (o := o) (cs := cs) (lc := lc) (fa := fa) (fb := fb) (ad := ad) (bd := bd) (c := c) (gp := gp) (mo := mo) (V := V) hk
  by_cases h2 : c 0 k = 2
  · simp only [zcell, h2, if_true] at hc
    exact va_get (D := D) (ci := 1) (C := "BranchLayout$Branch") (T := T_Br) (N := 8) hx hb hts in_Br hown hK.1 hP (4 + k) hc rfl 1 (by decide) (hts _ hlink) hsame rfl hdg kk
  · by_cases h1 : c 0 k = 1
    · simp only [zcell, h2, h1, if_true, if_false] at hc
      exact va_get (D := D) (ci := 0) (C := "BranchLayout$Alignment") (T := T_Al) (N := 4) hx hb hts in_Al hown hK.1 hP (4 + k) hc rfl 1 (by decide) (hts _ hlink) hsame rfl hdg kk
    · simp only [zcell, h2, h1, if_false] at hc
      exact va_get (D := D) (ci := 2) (C := "BranchLayout$Bytes") (T := T_By) (N := 4) hx hb hts in_By hown hK.1 hP (4 + k) hc rfl 1 (by decide) (hts _ hlink) hsame rfl hdg kk
theorem zs_get_at (E : zE p s m meth cd av own nm cc nL r) (hK : zK D cs s) (hP : va_P D zcl (zB o cs sc lc fa fb ad bd c gp mo V) H) (hk : k < sc) {idx : Nat} {rf : String} (hlink : Cond.fieldLink own idx rf "at" "I" ∈ zt) (hsame : ∀ x, s.fieldFound? "BranchLayout$Place" "at" "I" = some x → s.fieldFound? rf "at" "I" = some x) (hdg : decode cc pc = .ok (.getfield idx, 3))
    (kk : W p l e R s m av below meth cd H locs cells slots Q (F0 m (pc + 3) ls (.int (V 0 k) :: rest))) : W p l e R s m av below meth cd H locs cells slots Q (F0 m pc ls (.ref (ad k) :: rest)) := by
  obtain ⟨hx, hb, hr, hts, hown, hlocks, hml, hin⟩ := E
  have hc := zb_s (o := o) (cs := cs) (lc := lc) (fa := fa) (fb := fb) (ad := ad) (bd := bd) (c := c) (gp := gp) (mo := mo) (V := V) hk
  by_cases h2 : c 0 k = 2
  · simp only [zcell, h2, if_true] at hc
    exact va_get (D := D) (ci := 1) (C := "BranchLayout$Branch") (T := T_Br) (N := 8) hx hb hts in_Br hown hK.1 hP (4 + k) hc rfl 2 (by decide) (hts _ hlink) hsame rfl hdg kk
  · by_cases h1 : c 0 k = 1
    · simp only [zcell, h2, h1, if_true, if_false] at hc
      exact va_get (D := D) (ci := 0) (C := "BranchLayout$Alignment") (T := T_Al) (N := 4) hx hb hts in_Al hown hK.1 hP (4 + k) hc rfl 2 (by decide) (hts _ hlink) hsame rfl hdg kk
    · simp only [zcell, h2, h1, if_false] at hc
      exact va_get (D := D) (ci := 2) (C := "BranchLayout$Bytes") (T := T_By) (N := 4) hx hb hts in_By hown hK.1 hP (4 + k) hc rfl 2 (by decide) (hts _ hlink) hsame rfl hdg kk
theorem zs_put_length (E : zE p s m meth cd av own nm cc nL r) (hK : zK D cs s) (hP : va_P D zcl (zB o cs sc lc fa fb ad bd c gp mo V) H) (hD : va_D A (zB o cs sc lc fa fb ad bd c gp mo V)) (hS : va_S A H0 H locs) (hk : k < sc) {x : Int32} {idx : Nat} {rf : String} (hlink : Cond.fieldLink own idx rf "length" "I" ∈ zt) (hsame : ∀ x, s.fieldFound? "BranchLayout$Statement" "length" "I" = some x → s.fieldFound? rf "length" "I" = some x) (hdg : decode cc pc = .ok (.putfield idx, 3))
    (kk : ∀ (H1 : Heap) (locs1 : List Loc), zH D A (zB o cs sc lc fa fb ad bd c gp mo (zu V 1 k x)) H1 → va_S A H0 H1 locs1 → W p l e R s m av below meth cd H1 locs1 cells slots Q (F0 m (pc + 3) ls rest)) : W p l e R s m av below meth cd H locs cells slots Q (F0 m pc ls (.int x :: .ref (ad k) :: rest)) := by
  obtain ⟨hx, hb, hr, hts, hown, hlocks, hml, hin⟩ := E
  have hc := zb_s (o := o) (cs := cs) (lc := lc) (fa := fa) (fb := fb) (ad := ad) (bd := bd) (c := c) (gp := gp) (mo := mo) (V := V) hk
  by_cases h2 : c 0 k = 2
  · have h1 : True := trivial
    simp only [zcell, h2, if_true] at hc
    refine va_put (D := D) (ci := 1) (v := .int x) (ty := .int) (C := "BranchLayout$Branch") (T := T_Br) (N := 8) hx hb hts in_Br ty_Br ok_Br nm_Br hown hK.1 hP hD hS (4 + k) hc rfl 0 (by decide) (hts _ hlink) hsame rfl (by decide +kernel) rfl rfl (Nat.le_of_ble_eq_true rfl) hdg (fun H1 locs1 hP1 hD1 hS1 => ?_)
    have e1 := zb_sets (o := o) (cs := cs) (lc := lc) (fa := fa) (fb := fb) (ad := ad) (bd := bd) (c := c) (gp := gp) (mo := mo) (gp' := gp) (mo' := mo) (V := V) (V' := zu V 1 k x) hk rfl (fun i _ h => zcell_u (by decide) h) (zu_ne (by decide)).symm (zu_ne (by decide)).symm
    simp only [zcell, h2, h1, if_true, if_false, zu_at, zu_ne (show (0 : Nat) ≠ 1 by decide), zu_ne (show (1 : Nat) ≠ 0 by decide), zu_ne (show (2 : Nat) ≠ 1 by decide), zu_ne (show (3 : Nat) ≠ 1 by decide)] at e1
    exact kk H1 locs1 ⟨by rw [← e1]; exact hP1, by rw [← e1]; exact hD1⟩ hS1
  · by_cases h1 : c 0 k = 1
    · simp only [zcell, h2, h1, if_true, if_false] at hc
      refine va_put (D := D) (ci := 0) (v := .int x) (ty := .int) (C := "BranchLayout$Alignment") (T := T_Al) (N := 4) hx hb hts in_Al ty_Al ok_Al nm_Al hown hK.1 hP hD hS (4 + k) hc rfl 0 (by decide) (hts _ hlink) hsame rfl (by decide +kernel) rfl rfl (Nat.le_of_ble_eq_true rfl) hdg (fun H1 locs1 hP1 hD1 hS1 => ?_)
      have e1 := zb_sets (o := o) (cs := cs) (lc := lc) (fa := fa) (fb := fb) (ad := ad) (bd := bd) (c := c) (gp := gp) (mo := mo) (gp' := gp) (mo' := mo) (V := V) (V' := zu V 1 k x) hk rfl (fun i _ h => zcell_u (by decide) h) (zu_ne (by decide)).symm (zu_ne (by decide)).symm
      simp only [zcell, h2, h1, if_true, if_false, zu_at, zu_ne (show (0 : Nat) ≠ 1 by decide), zu_ne (show (1 : Nat) ≠ 0 by decide), zu_ne (show (2 : Nat) ≠ 1 by decide), zu_ne (show (3 : Nat) ≠ 1 by decide)] at e1
      exact kk H1 locs1 ⟨by rw [← e1]; exact hP1, by rw [← e1]; exact hD1⟩ hS1
    · simp only [zcell, h2, h1, if_false] at hc
      refine va_put (D := D) (ci := 2) (v := .int x) (ty := .int) (C := "BranchLayout$Bytes") (T := T_By) (N := 4) hx hb hts in_By ty_By ok_By nm_By hown hK.1 hP hD hS (4 + k) hc rfl 0 (by decide) (hts _ hlink) hsame rfl (by decide +kernel) rfl rfl (Nat.le_of_ble_eq_true rfl) hdg (fun H1 locs1 hP1 hD1 hS1 => ?_)
      have e1 := zb_sets (o := o) (cs := cs) (lc := lc) (fa := fa) (fb := fb) (ad := ad) (bd := bd) (c := c) (gp := gp) (mo := mo) (gp' := gp) (mo' := mo) (V := V) (V' := zu V 1 k x) hk rfl (fun i _ h => zcell_u (by decide) h) (zu_ne (by decide)).symm (zu_ne (by decide)).symm
      simp only [zcell, h2, h1, if_true, if_false, zu_at, zu_ne (show (0 : Nat) ≠ 1 by decide), zu_ne (show (1 : Nat) ≠ 0 by decide), zu_ne (show (2 : Nat) ≠ 1 by decide), zu_ne (show (3 : Nat) ≠ 1 by decide)] at e1
      exact kk H1 locs1 ⟨by rw [← e1]; exact hP1, by rw [← e1]; exact hD1⟩ hS1
theorem zs_put_at (E : zE p s m meth cd av own nm cc nL r) (hK : zK D cs s) (hP : va_P D zcl (zB o cs sc lc fa fb ad bd c gp mo V) H) (hD : va_D A (zB o cs sc lc fa fb ad bd c gp mo V)) (hS : va_S A H0 H locs) (hk : k < sc) {x : Int32} {idx : Nat} {rf : String} (hlink : Cond.fieldLink own idx rf "at" "I" ∈ zt) (hsame : ∀ x, s.fieldFound? "BranchLayout$Place" "at" "I" = some x → s.fieldFound? rf "at" "I" = some x) (hdg : decode cc pc = .ok (.putfield idx, 3))
    (kk : ∀ (H1 : Heap) (locs1 : List Loc), zH D A (zB o cs sc lc fa fb ad bd c gp mo (zu V 0 k x)) H1 → va_S A H0 H1 locs1 → W p l e R s m av below meth cd H1 locs1 cells slots Q (F0 m (pc + 3) ls rest)) : W p l e R s m av below meth cd H locs cells slots Q (F0 m pc ls (.int x :: .ref (ad k) :: rest)) := by
  obtain ⟨hx, hb, hr, hts, hown, hlocks, hml, hin⟩ := E
  have hc := zb_s (o := o) (cs := cs) (lc := lc) (fa := fa) (fb := fb) (ad := ad) (bd := bd) (c := c) (gp := gp) (mo := mo) (V := V) hk
  by_cases h2 : c 0 k = 2
  · have h1 : True := trivial
    simp only [zcell, h2, if_true] at hc
    refine va_put (D := D) (ci := 1) (v := .int x) (ty := .int) (C := "BranchLayout$Branch") (T := T_Br) (N := 8) hx hb hts in_Br ty_Br ok_Br nm_Br hown hK.1 hP hD hS (4 + k) hc rfl 2 (by decide) (hts _ hlink) hsame rfl (by decide +kernel) rfl rfl (Nat.le_of_ble_eq_true rfl) hdg (fun H1 locs1 hP1 hD1 hS1 => ?_)
    have e1 := zb_sets (o := o) (cs := cs) (lc := lc) (fa := fa) (fb := fb) (ad := ad) (bd := bd) (c := c) (gp := gp) (mo := mo) (gp' := gp) (mo' := mo) (V := V) (V' := zu V 0 k x) hk rfl (fun i _ h => zcell_u (by decide) h) (zu_ne (by decide)).symm (zu_ne (by decide)).symm
    simp only [zcell, h2, h1, if_true, if_false, zu_at, zu_ne (show (0 : Nat) ≠ 1 by decide), zu_ne (show (1 : Nat) ≠ 0 by decide), zu_ne (show (2 : Nat) ≠ 0 by decide), zu_ne (show (3 : Nat) ≠ 0 by decide)] at e1
    exact kk H1 locs1 ⟨by rw [← e1]; exact hP1, by rw [← e1]; exact hD1⟩ hS1
  · by_cases h1 : c 0 k = 1
    · simp only [zcell, h2, h1, if_true, if_false] at hc
      refine va_put (D := D) (ci := 0) (v := .int x) (ty := .int) (C := "BranchLayout$Alignment") (T := T_Al) (N := 4) hx hb hts in_Al ty_Al ok_Al nm_Al hown hK.1 hP hD hS (4 + k) hc rfl 2 (by decide) (hts _ hlink) hsame rfl (by decide +kernel) rfl rfl (Nat.le_of_ble_eq_true rfl) hdg (fun H1 locs1 hP1 hD1 hS1 => ?_)
      have e1 := zb_sets (o := o) (cs := cs) (lc := lc) (fa := fa) (fb := fb) (ad := ad) (bd := bd) (c := c) (gp := gp) (mo := mo) (gp' := gp) (mo' := mo) (V := V) (V' := zu V 0 k x) hk rfl (fun i _ h => zcell_u (by decide) h) (zu_ne (by decide)).symm (zu_ne (by decide)).symm
      simp only [zcell, h2, h1, if_true, if_false, zu_at, zu_ne (show (0 : Nat) ≠ 1 by decide), zu_ne (show (1 : Nat) ≠ 0 by decide), zu_ne (show (2 : Nat) ≠ 0 by decide), zu_ne (show (3 : Nat) ≠ 0 by decide)] at e1
      exact kk H1 locs1 ⟨by rw [← e1]; exact hP1, by rw [← e1]; exact hD1⟩ hS1
    · simp only [zcell, h2, h1, if_false] at hc
      refine va_put (D := D) (ci := 2) (v := .int x) (ty := .int) (C := "BranchLayout$Bytes") (T := T_By) (N := 4) hx hb hts in_By ty_By ok_By nm_By hown hK.1 hP hD hS (4 + k) hc rfl 2 (by decide) (hts _ hlink) hsame rfl (by decide +kernel) rfl rfl (Nat.le_of_ble_eq_true rfl) hdg (fun H1 locs1 hP1 hD1 hS1 => ?_)
      have e1 := zb_sets (o := o) (cs := cs) (lc := lc) (fa := fa) (fb := fb) (ad := ad) (bd := bd) (c := c) (gp := gp) (mo := mo) (gp' := gp) (mo' := mo) (V := V) (V' := zu V 0 k x) hk rfl (fun i _ h => zcell_u (by decide) h) (zu_ne (by decide)).symm (zu_ne (by decide)).symm
      simp only [zcell, h2, h1, if_true, if_false, zu_at, zu_ne (show (0 : Nat) ≠ 1 by decide), zu_ne (show (1 : Nat) ≠ 0 by decide), zu_ne (show (2 : Nat) ≠ 0 by decide), zu_ne (show (3 : Nat) ≠ 0 by decide)] at e1
      exact kk H1 locs1 ⟨by rw [← e1]; exact hP1, by rw [← e1]; exact hD1⟩ hS1
end ZS
/-- behind a call that had one cell alone: the others are as they were -/
theorem zone {D : va_G} {A : Nat → Prop} {ws : va_W} {H H1 : Heap} {b i : Nat} {e0 e : va_E} (h : zH D A ws H) (hi : ws[i]? = some (b, e0)) (h1 : zH D (fun q => q = b) [(b, e)] H1) (hk : ∀ q : Nat, q < H.size → ¬ q = b → H1[q]? = H[q]?) : zH D A (ws.set i (b, e)) H1 := by
  refine ⟨fun k q hq => ?_, h.2.set hi⟩
  have hl := (List.getElem?_eq_some_iff.mp hi).1
  by_cases hki : k = i
  · subst hki
    rw [List.getElem?_set_self hl] at hq
    cases hq
    exact h1.1 0 _ rfl
  · rw [List.getElem?_set_ne (Ne.symm hki)] at hq
    refine (h.1 k q hq).kept (hk q.1 (h.1 k q hq).lt (fun e => hki (h.2.1 k i q _ hq hi e)))
theorem zat {D : va_G} {A : Nat → Prop} {ws : va_W} {H : Heap} {b i : Nat} {e0 : va_E} (h : zH D A ws H) (hi : ws[i]? = some (b, e0)) : zH D (fun q => q = b) [(b, e0)] H := by
  refine ⟨fun k q hq => ?_, fun i j p q hi hj e => ?_, fun k q hq => ?_⟩
  · have hz : k < 1 := (List.getElem?_eq_some_iff.mp hq).1
    rw [show k = 0 by omega] at hq
    cases hq
    exact h.1 i _ hi
  · have h1 : i < 1 := (List.getElem?_eq_some_iff.mp hi).1
    have h2 : j < 1 := (List.getElem?_eq_some_iff.mp hj).1
    omega
  · have hz : k < 1 := (List.getElem?_eq_some_iff.mp hq).1
    rw [show k = 0 by omega] at hq
    cases hq
    rfl
end
section
def zsec (x : Int32) : Bool := decide (¬ x < 0 ∧ x < 4)
set_option maxHeartbeats 4000000 in
set_option maxRecDepth 100000 in
theorem t_BL_isSection (l : Launch) (D : va_G) (cs : ClassId × ClassId × ClassId × ClassId) (x : Int32) (H1 : Heap) : zMet l D cs y_BL_isSection c_BL_isSection 1 (some FieldType.boolean) ({ frames := 0, cells := 0, slots := 0, locals := 0 } : Room) [.int x] (fun H => H = H1) (fun _ => False) (zqi fun r H => H = H1 ∧ r = if zsec x then 1 else 0) := by
  refine zmk (by decide) (Nat.le_of_ble_eq_true rfl) ?_
  intro p e s m below meth cd ls E hK hP0 hl
  have hS : va_S (fun _ => False) s.heap s.heap [] := va_S.rf
  obtain ⟨hx, hb, hr, hts, hown, hlocks, hml, hin⟩ := id E
  have hl : lv_has ls 1 [(0, .int x)] := hl
  refine lv_iload_n hx hb d_BL_isSection_0 rfl (lv_at hl 0 rfl) ?_
  refine lv_if_lt (tgt := 13) hx hb d_BL_isSection_1 (by decide) (fun c_1 => ?_) (fun c_1 => ?_)
  · skip
    refine lv_iconst (v := 0) hx hb d_BL_isSection_13 (by decide) ?_
    refine zrz E d_BL_isSection_14 (by decide) hS (Nat.le_of_ble_eq_true rfl) (Nat.le_of_ble_eq_true rfl) ?_
    exact ⟨_, rfl, hP0, by simp [zsec, c_1]⟩
  · skip
    refine lv_iload_n hx hb d_BL_isSection_4 rfl (lv_at hl 0 rfl) ?_
    refine lv_iconst (v := 4) hx hb d_BL_isSection_5 (by decide) ?_
    refine lv_icmp_ge (tgt := 13) hx hb d_BL_isSection_6 (by decide) (fun c_2 => ?_) (fun c_2 => ?_)
    · skip
      refine lv_iconst (v := 0) hx hb d_BL_isSection_13 (by decide) ?_
      refine zrz E d_BL_isSection_14 (by decide) hS (Nat.le_of_ble_eq_true rfl) (Nat.le_of_ble_eq_true rfl) ?_
      exact ⟨_, rfl, hP0, by simp [zsec, Int32.not_lt.mpr c_2]⟩
    · skip
      refine lv_iconst (v := 1) hx hb d_BL_isSection_9 (by decide) ?_
      refine lv_goto (tgt := 14) hx hb d_BL_isSection_10 (by decide) ?_
      refine zrz E d_BL_isSection_14 (by decide) hS (Nat.le_of_ble_eq_true rfl) (Nat.le_of_ble_eq_true rfl) ?_
      exact ⟨_, rfl, hP0, by simp [zsec, c_1, Int32.not_le.mp c_2]⟩
abbrev zfl (V : Nat → Nat → Int32) (v : Int32) : Nat → Nat → Int32 := zu (zu (zu (zu V 5 0 v) 5 1 v) 5 2 v) 5 3 v
theorem zb_set5 {o : Nat × Nat × Nat × Nat} {cs : ClassId × ClassId × ClassId × ClassId} {sc lc : Nat} {fa fb : Nat → Option Nat} {ad bd : Nat → Nat} {c : Nat → Nat → Nat} {gp mo : Nat → Int32} {V : Nat → Nat → Int32} {i : Nat} {x : Int32} : (zB o cs sc lc fa fb ad bd c gp mo V).set 3 (o.2.2.2, .inl (cs.1, 4, .inl (upd (V 5) i x))) = zB o cs sc lc fa fb ad bd c gp mo (zu V 5 i x) := by
  unfold zB
  rw [zw_setx (Nat.le_of_ble_eq_true rfl), zu5]
  refine zw_congr (fun k _ => by rw [zcell_u4 (by decide)]) (fun j _ => ?_) rfl
  simp only [zlab, zu_ne (show (4 : Nat) ≠ 5 by decide)]
set_option maxHeartbeats 4000000 in
set_option maxRecDepth 100000 in
theorem t_Ar_fill (l : Launch) (D : va_G) (cs : ClassId × ClassId × ClassId × ClassId) (A : Nat → Prop) (o : Nat × Nat × Nat × Nat) (sc lc : Nat) (fa fb : Nat → Option Nat) (ad bd : Nat → Nat) (c : Nat → Nat → Nat) (gp mo : Nat → Int32) (V : Nat → Nat → Int32) (v : Int32) : zMet l D cs y_Ar_fill c_Ar_fill 4 none ({ frames := 0, cells := 0, slots := 0, locals := 0 } : Room) [.ref o.2.2.2, .int v] (zH D A (zB o cs sc lc fa fb ad bd c gp mo V)) A (zqv fun H => zH D A (zB o cs sc lc fa fb ad bd c gp mo (zfl V v)) H) := by
  refine zmk (by decide) (Nat.le_of_ble_eq_true rfl) ?_
  intro p e s m below meth cd ls E hK hP0 hl
  have hS : va_S A s.heap s.heap [] := va_S.rf
  obtain ⟨hP, hD⟩ := hP0
  obtain ⟨hx, hb, hr, hts, hown, hlocks, hml, hin⟩ := id E
  have hl : lv_has ls 4 [(0, .ref o.2.2.2), (1, .int v)] := hl
  refine lv_iconst (v := 0) hx hb d_Ar_fill_0 (by decide) ?_
  refine lv_istore_n (lv' := [(2, .int 0), (0, .ref o.2.2.2), (1, .int v)]) hx hb d_Ar_fill_1 rfl hl (by decide) rfl (fun ls hl => ?_)
  refine lv_aload_n hx hb d_Ar_fill_2 rfl (lv_at hl 1 rfl) ?_
  refine va_alen hx hb hK.1 hP 3 0 (zb_x rfl) rfl (v := 4) rfl d_Ar_fill_3 ?_
  refine lv_istore_n (lv' := [(3, .int 4), (2, .int 0), (0, .ref o.2.2.2), (1, .int v)]) hx hb d_Ar_fill_4 rfl hl (by decide) rfl (fun ls hl => ?_)
  refine lv_iload_n hx hb d_Ar_fill_5 rfl (lv_at hl 1 rfl) ?_
  refine lv_iload_n hx hb d_Ar_fill_6 rfl (lv_at hl 0 rfl) ?_
  refine lv_icmp_ge (tgt := 20) hx hb d_Ar_fill_7 (by decide) (fun c_3 => ?_) (fun c_3 => ?_)
  · skip
    exact absurd c_3 (by decide)
  · skip
    refine lv_aload_n hx hb d_Ar_fill_10 rfl (lv_at hl 2 rfl) ?_
    refine lv_iload_n hx hb d_Ar_fill_11 rfl (lv_at hl 1 rfl) ?_
    refine lv_iload_n hx hb d_Ar_fill_12 rfl (lv_at hl 3 rfl) ?_
    refine va_iast hx hb hK.1 hP hD hS 3 0 (zb_x rfl) rfl (show ¬ _ from by decide) d_Ar_fill_13 (fun H locs hP hD hS => ?_)
    have hP : va_P D zcl (zB o cs sc lc fa fb ad bd c gp mo (zu V 5 0 v)) H := by rw [← zb_set5]; exact hP
    have hD : va_D A (zB o cs sc lc fa fb ad bd c gp mo (zu V 5 0 v)) := by rw [← zb_set5]; exact hD
    refine lv_iinc (v := 1) (lv' := [(2, .int 1), (3, .int 4), (0, .ref o.2.2.2), (1, .int v)]) hx hb d_Ar_fill_14 hl (k := 1) rfl (by decide) (by decide) rfl (fun ls hl => ?_)
    refine lv_goto (tgt := 5) hx hb d_Ar_fill_17 (by decide) ?_
    refine lv_iload_n hx hb d_Ar_fill_5 rfl (lv_at hl 0 rfl) ?_
    refine lv_iload_n hx hb d_Ar_fill_6 rfl (lv_at hl 1 rfl) ?_
    refine lv_icmp_ge (tgt := 20) hx hb d_Ar_fill_7 (by decide) (fun c_4 => ?_) (fun c_4 => ?_)
    · skip
      exact absurd c_4 (by decide)
    · skip
      refine lv_aload_n hx hb d_Ar_fill_10 rfl (lv_at hl 2 rfl) ?_
      refine lv_iload_n hx hb d_Ar_fill_11 rfl (lv_at hl 0 rfl) ?_
      refine lv_iload_n hx hb d_Ar_fill_12 rfl (lv_at hl 3 rfl) ?_
      refine va_iast hx hb hK.1 hP hD hS 3 0 (zb_x rfl) rfl (show ¬ _ from by decide) d_Ar_fill_13 (fun H locs hP hD hS => ?_)
      have hP : va_P D zcl (zB o cs sc lc fa fb ad bd c gp mo (zu (zu V 5 0 v) 5 1 v)) H := by rw [← zb_set5]; exact hP
      have hD : va_D A (zB o cs sc lc fa fb ad bd c gp mo (zu (zu V 5 0 v) 5 1 v)) := by rw [← zb_set5]; exact hD
      refine lv_iinc (v := 2) (lv' := [(2, .int 2), (3, .int 4), (0, .ref o.2.2.2), (1, .int v)]) hx hb d_Ar_fill_14 hl (k := 0) rfl (by decide) (by decide) rfl (fun ls hl => ?_)
      refine lv_goto (tgt := 5) hx hb d_Ar_fill_17 (by decide) ?_
      refine lv_iload_n hx hb d_Ar_fill_5 rfl (lv_at hl 0 rfl) ?_
      refine lv_iload_n hx hb d_Ar_fill_6 rfl (lv_at hl 1 rfl) ?_
      refine lv_icmp_ge (tgt := 20) hx hb d_Ar_fill_7 (by decide) (fun c_5 => ?_) (fun c_5 => ?_)
      · skip
        exact absurd c_5 (by decide)
      · skip
        refine lv_aload_n hx hb d_Ar_fill_10 rfl (lv_at hl 2 rfl) ?_
        refine lv_iload_n hx hb d_Ar_fill_11 rfl (lv_at hl 0 rfl) ?_
        refine lv_iload_n hx hb d_Ar_fill_12 rfl (lv_at hl 3 rfl) ?_
        refine va_iast hx hb hK.1 hP hD hS 3 0 (zb_x rfl) rfl (show ¬ _ from by decide) d_Ar_fill_13 (fun H locs hP hD hS => ?_)
        have hP : va_P D zcl (zB o cs sc lc fa fb ad bd c gp mo (zu (zu (zu V 5 0 v) 5 1 v) 5 2 v)) H := by rw [← zb_set5]; exact hP
        have hD : va_D A (zB o cs sc lc fa fb ad bd c gp mo (zu (zu (zu V 5 0 v) 5 1 v) 5 2 v)) := by rw [← zb_set5]; exact hD
        refine lv_iinc (v := 3) (lv' := [(2, .int 3), (3, .int 4), (0, .ref o.2.2.2), (1, .int v)]) hx hb d_Ar_fill_14 hl (k := 0) rfl (by decide) (by decide) rfl (fun ls hl => ?_)
        refine lv_goto (tgt := 5) hx hb d_Ar_fill_17 (by decide) ?_
        refine lv_iload_n hx hb d_Ar_fill_5 rfl (lv_at hl 0 rfl) ?_
        refine lv_iload_n hx hb d_Ar_fill_6 rfl (lv_at hl 1 rfl) ?_
        refine lv_icmp_ge (tgt := 20) hx hb d_Ar_fill_7 (by decide) (fun c_6 => ?_) (fun c_6 => ?_)
        · skip
          exact absurd c_6 (by decide)
        · skip
          refine lv_aload_n hx hb d_Ar_fill_10 rfl (lv_at hl 2 rfl) ?_
          refine lv_iload_n hx hb d_Ar_fill_11 rfl (lv_at hl 0 rfl) ?_
          refine lv_iload_n hx hb d_Ar_fill_12 rfl (lv_at hl 3 rfl) ?_
          refine va_iast hx hb hK.1 hP hD hS 3 0 (zb_x rfl) rfl (show ¬ _ from by decide) d_Ar_fill_13 (fun H locs hP hD hS => ?_)
          have hP : va_P D zcl (zB o cs sc lc fa fb ad bd c gp mo (zu (zu (zu (zu V 5 0 v) 5 1 v) 5 2 v) 5 3 v)) H := by rw [← zb_set5]; exact hP
          have hD : va_D A (zB o cs sc lc fa fb ad bd c gp mo (zu (zu (zu (zu V 5 0 v) 5 1 v) 5 2 v) 5 3 v)) := by rw [← zb_set5]; exact hD
          refine lv_iinc (v := 4) (lv' := [(2, .int 4), (3, .int 4), (0, .ref o.2.2.2), (1, .int v)]) hx hb d_Ar_fill_14 hl (k := 0) rfl (by decide) (by decide) rfl (fun ls hl => ?_)
          refine lv_goto (tgt := 5) hx hb d_Ar_fill_17 (by decide) ?_
          refine lv_iload_n hx hb d_Ar_fill_5 rfl (lv_at hl 0 rfl) ?_
          refine lv_iload_n hx hb d_Ar_fill_6 rfl (lv_at hl 1 rfl) ?_
          refine lv_icmp_ge (tgt := 20) hx hb d_Ar_fill_7 (by decide) (fun c_7 => ?_) (fun c_7 => ?_)
          · skip
            refine zrv E d_Ar_fill_20 hS (Nat.le_of_ble_eq_true rfl) (Nat.le_of_ble_eq_true rfl) ?_
            exact ⟨rfl, hP, hD⟩
          · skip
            exact absurd (by decide) c_7
end
section
def zbc (x : Int32) : Int32 := (((((((x - (((x.toUInt32 >>> (Int32.toUInt32 1 &&& Int32.toUInt32 31)).toInt32) &&& 1431655765)) &&& 858993459) + ((((x - (((x.toUInt32 >>> (Int32.toUInt32 1 &&& Int32.toUInt32 31)).toInt32) &&& 1431655765)).toUInt32 >>> (Int32.toUInt32 2 &&& Int32.toUInt32 31)).toInt32) &&& 858993459)) + (((((x - (((x.toUInt32 >>> (Int32.toUInt32 1 &&& Int32.toUInt32 31)).toInt32) &&& 1431655765)) &&& 858993459) + ((((x - (((x.toUInt32 >>> (Int32.toUInt32 1 &&& Int32.toUInt32 31)).toInt32) &&& 1431655765)).toUInt32 >>> (Int32.toUInt32 2 &&& Int32.toUInt32 31)).toInt32) &&& 858993459)).toUInt32 >>> (Int32.toUInt32 4 &&& Int32.toUInt32 31)).toInt32)) &&& 252645135) + (((((((x - (((x.toUInt32 >>> (Int32.toUInt32 1 &&& Int32.toUInt32 31)).toInt32) &&& 1431655765)) &&& 858993459) + ((((x - (((x.toUInt32 >>> (Int32.toUInt32 1 &&& Int32.toUInt32 31)).toInt32) &&& 1431655765)).toUInt32 >>> (Int32.toUInt32 2 &&& Int32.toUInt32 31)).toInt32) &&& 858993459)) + (((((x - (((x.toUInt32 >>> (Int32.toUInt32 1 &&& Int32.toUInt32 31)).toInt32) &&& 1431655765)) &&& 858993459) + ((((x - (((x.toUInt32 >>> (Int32.toUInt32 1 &&& Int32.toUInt32 31)).toInt32) &&& 1431655765)).toUInt32 >>> (Int32.toUInt32 2 &&& Int32.toUInt32 31)).toInt32) &&& 858993459)).toUInt32 >>> (Int32.toUInt32 4 &&& Int32.toUInt32 31)).toInt32)) &&& 252645135).toUInt32 >>> (Int32.toUInt32 8 &&& Int32.toUInt32 31)).toInt32)) + ((((((((x - (((x.toUInt32 >>> (Int32.toUInt32 1 &&& Int32.toUInt32 31)).toInt32) &&& 1431655765)) &&& 858993459) + ((((x - (((x.toUInt32 >>> (Int32.toUInt32 1 &&& Int32.toUInt32 31)).toInt32) &&& 1431655765)).toUInt32 >>> (Int32.toUInt32 2 &&& Int32.toUInt32 31)).toInt32) &&& 858993459)) + (((((x - (((x.toUInt32 >>> (Int32.toUInt32 1 &&& Int32.toUInt32 31)).toInt32) &&& 1431655765)) &&& 858993459) + ((((x - (((x.toUInt32 >>> (Int32.toUInt32 1 &&& Int32.toUInt32 31)).toInt32) &&& 1431655765)).toUInt32 >>> (Int32.toUInt32 2 &&& Int32.toUInt32 31)).toInt32) &&& 858993459)).toUInt32 >>> (Int32.toUInt32 4 &&& Int32.toUInt32 31)).toInt32)) &&& 252645135) + (((((((x - (((x.toUInt32 >>> (Int32.toUInt32 1 &&& Int32.toUInt32 31)).toInt32) &&& 1431655765)) &&& 858993459) + ((((x - (((x.toUInt32 >>> (Int32.toUInt32 1 &&& Int32.toUInt32 31)).toInt32) &&& 1431655765)).toUInt32 >>> (Int32.toUInt32 2 &&& Int32.toUInt32 31)).toInt32) &&& 858993459)) + (((((x - (((x.toUInt32 >>> (Int32.toUInt32 1 &&& Int32.toUInt32 31)).toInt32) &&& 1431655765)) &&& 858993459) + ((((x - (((x.toUInt32 >>> (Int32.toUInt32 1 &&& Int32.toUInt32 31)).toInt32) &&& 1431655765)).toUInt32 >>> (Int32.toUInt32 2 &&& Int32.toUInt32 31)).toInt32) &&& 858993459)).toUInt32 >>> (Int32.toUInt32 4 &&& Int32.toUInt32 31)).toInt32)) &&& 252645135).toUInt32 >>> (Int32.toUInt32 8 &&& Int32.toUInt32 31)).toInt32)).toUInt32 >>> (Int32.toUInt32 16 &&& Int32.toUInt32 31)).toInt32)) &&& 63
set_option maxHeartbeats 4000000 in
set_option maxRecDepth 100000 in
theorem t_In_bitCount (l : Launch) (D : va_G) (cs : ClassId × ClassId × ClassId × ClassId) (x : Int32) (H1 : Heap) : zMet l D cs y_In_bitCount c_In_bitCount 1 (some FieldType.int) ({ frames := 0, cells := 0, slots := 0, locals := 0 } : Room) [.int x] (fun H => H = H1) (fun _ => False) (zqi fun r H => H = H1 ∧ r = zbc x) := by
  refine zmk (by decide) (Nat.le_of_ble_eq_true rfl) ?_
  intro p e s m below meth cd ls E hK hP0 hl
  have hS : va_S (fun _ => False) s.heap s.heap [] := va_S.rf
  obtain ⟨hx, hb, hr, hts, hown, hlocks, hml, hin⟩ := id E
  have hl : lv_has ls 1 [(0, .int x)] := hl
  refine lv_iload_n hx hb d_In_bitCount_0 rfl (lv_at hl 0 rfl) ?_
  refine lv_iload_n hx hb d_In_bitCount_1 rfl (lv_at hl 0 rfl) ?_
  refine lv_iconst (v := 1) hx hb d_In_bitCount_2 (by decide) ?_
  refine lv_iushr hx hb d_In_bitCount_3 rfl ?_
  refine lv_ldcw (v := 1431655765) hx hb hown (hts _ w_111) d_In_bitCount_4 ?_
  refine lv_iand hx hb d_In_bitCount_7 ?_
  refine lv_isub hx hb d_In_bitCount_8 ?_
  refine lv_istore_n (lv' := [(0, .int (x - (((x.toUInt32 >>> (Int32.toUInt32 1 &&& Int32.toUInt32 31)).toInt32) &&& 1431655765)))]) hx hb d_In_bitCount_9 rfl hl (by decide) rfl (fun ls hl => ?_)
  refine lv_iload_n hx hb d_In_bitCount_10 rfl (lv_at hl 0 rfl) ?_
  refine lv_ldcw (v := 858993459) hx hb hown (hts _ w_112) d_In_bitCount_11 ?_
  refine lv_iand hx hb d_In_bitCount_14 ?_
  refine lv_iload_n hx hb d_In_bitCount_15 rfl (lv_at hl 0 rfl) ?_
  refine lv_iconst (v := 2) hx hb d_In_bitCount_16 (by decide) ?_
  refine lv_iushr hx hb d_In_bitCount_17 rfl ?_
  refine lv_ldcw (v := 858993459) hx hb hown (hts _ w_112) d_In_bitCount_18 ?_
  refine lv_iand hx hb d_In_bitCount_21 ?_
  refine lv_iadd hx hb d_In_bitCount_22 ?_
  refine lv_istore_n (lv' := [(0, .int (((x - (((x.toUInt32 >>> (Int32.toUInt32 1 &&& Int32.toUInt32 31)).toInt32) &&& 1431655765)) &&& 858993459) + ((((x - (((x.toUInt32 >>> (Int32.toUInt32 1 &&& Int32.toUInt32 31)).toInt32) &&& 1431655765)).toUInt32 >>> (Int32.toUInt32 2 &&& Int32.toUInt32 31)).toInt32) &&& 858993459)))]) hx hb d_In_bitCount_23 rfl hl (by decide) rfl (fun ls hl => ?_)
  refine lv_iload_n hx hb d_In_bitCount_24 rfl (lv_at hl 0 rfl) ?_
  refine lv_iload_n hx hb d_In_bitCount_25 rfl (lv_at hl 0 rfl) ?_
  refine lv_iconst (v := 4) hx hb d_In_bitCount_26 (by decide) ?_
  refine lv_iushr hx hb d_In_bitCount_27 rfl ?_
  refine lv_iadd hx hb d_In_bitCount_28 ?_
  refine lv_ldcw (v := 252645135) hx hb hown (hts _ w_113) d_In_bitCount_29 ?_
  refine lv_iand hx hb d_In_bitCount_32 ?_
  refine lv_istore_n (lv' := [(0, .int (((((x - (((x.toUInt32 >>> (Int32.toUInt32 1 &&& Int32.toUInt32 31)).toInt32) &&& 1431655765)) &&& 858993459) + ((((x - (((x.toUInt32 >>> (Int32.toUInt32 1 &&& Int32.toUInt32 31)).toInt32) &&& 1431655765)).toUInt32 >>> (Int32.toUInt32 2 &&& Int32.toUInt32 31)).toInt32) &&& 858993459)) + (((((x - (((x.toUInt32 >>> (Int32.toUInt32 1 &&& Int32.toUInt32 31)).toInt32) &&& 1431655765)) &&& 858993459) + ((((x - (((x.toUInt32 >>> (Int32.toUInt32 1 &&& Int32.toUInt32 31)).toInt32) &&& 1431655765)).toUInt32 >>> (Int32.toUInt32 2 &&& Int32.toUInt32 31)).toInt32) &&& 858993459)).toUInt32 >>> (Int32.toUInt32 4 &&& Int32.toUInt32 31)).toInt32)) &&& 252645135))]) hx hb d_In_bitCount_33 rfl hl (by decide) rfl (fun ls hl => ?_)
  refine lv_iload_n hx hb d_In_bitCount_34 rfl (lv_at hl 0 rfl) ?_
  refine lv_iload_n hx hb d_In_bitCount_35 rfl (lv_at hl 0 rfl) ?_
  refine lv_bipush (v := 8) hx hb d_In_bitCount_36 (by decide) ?_
  refine lv_iushr hx hb d_In_bitCount_38 rfl ?_
  refine lv_iadd hx hb d_In_bitCount_39 ?_
  refine lv_istore_n (lv' := [(0, .int ((((((x - (((x.toUInt32 >>> (Int32.toUInt32 1 &&& Int32.toUInt32 31)).toInt32) &&& 1431655765)) &&& 858993459) + ((((x - (((x.toUInt32 >>> (Int32.toUInt32 1 &&& Int32.toUInt32 31)).toInt32) &&& 1431655765)).toUInt32 >>> (Int32.toUInt32 2 &&& Int32.toUInt32 31)).toInt32) &&& 858993459)) + (((((x - (((x.toUInt32 >>> (Int32.toUInt32 1 &&& Int32.toUInt32 31)).toInt32) &&& 1431655765)) &&& 858993459) + ((((x - (((x.toUInt32 >>> (Int32.toUInt32 1 &&& Int32.toUInt32 31)).toInt32) &&& 1431655765)).toUInt32 >>> (Int32.toUInt32 2 &&& Int32.toUInt32 31)).toInt32) &&& 858993459)).toUInt32 >>> (Int32.toUInt32 4 &&& Int32.toUInt32 31)).toInt32)) &&& 252645135) + (((((((x - (((x.toUInt32 >>> (Int32.toUInt32 1 &&& Int32.toUInt32 31)).toInt32) &&& 1431655765)) &&& 858993459) + ((((x - (((x.toUInt32 >>> (Int32.toUInt32 1 &&& Int32.toUInt32 31)).toInt32) &&& 1431655765)).toUInt32 >>> (Int32.toUInt32 2 &&& Int32.toUInt32 31)).toInt32) &&& 858993459)) + (((((x - (((x.toUInt32 >>> (Int32.toUInt32 1 &&& Int32.toUInt32 31)).toInt32) &&& 1431655765)) &&& 858993459) + ((((x - (((x.toUInt32 >>> (Int32.toUInt32 1 &&& Int32.toUInt32 31)).toInt32) &&& 1431655765)).toUInt32 >>> (Int32.toUInt32 2 &&& Int32.toUInt32 31)).toInt32) &&& 858993459)).toUInt32 >>> (Int32.toUInt32 4 &&& Int32.toUInt32 31)).toInt32)) &&& 252645135).toUInt32 >>> (Int32.toUInt32 8 &&& Int32.toUInt32 31)).toInt32)))]) hx hb d_In_bitCount_40 rfl hl (by decide) rfl (fun ls hl => ?_)
  refine lv_iload_n hx hb d_In_bitCount_41 rfl (lv_at hl 0 rfl) ?_
  refine lv_iload_n hx hb d_In_bitCount_42 rfl (lv_at hl 0 rfl) ?_
  refine lv_bipush (v := 16) hx hb d_In_bitCount_43 (by decide) ?_
  refine lv_iushr hx hb d_In_bitCount_45 rfl ?_
  refine lv_iadd hx hb d_In_bitCount_46 ?_
  refine lv_istore_n (lv' := [(0, .int (((((((x - (((x.toUInt32 >>> (Int32.toUInt32 1 &&& Int32.toUInt32 31)).toInt32) &&& 1431655765)) &&& 858993459) + ((((x - (((x.toUInt32 >>> (Int32.toUInt32 1 &&& Int32.toUInt32 31)).toInt32) &&& 1431655765)).toUInt32 >>> (Int32.toUInt32 2 &&& Int32.toUInt32 31)).toInt32) &&& 858993459)) + (((((x - (((x.toUInt32 >>> (Int32.toUInt32 1 &&& Int32.toUInt32 31)).toInt32) &&& 1431655765)) &&& 858993459) + ((((x - (((x.toUInt32 >>> (Int32.toUInt32 1 &&& Int32.toUInt32 31)).toInt32) &&& 1431655765)).toUInt32 >>> (Int32.toUInt32 2 &&& Int32.toUInt32 31)).toInt32) &&& 858993459)).toUInt32 >>> (Int32.toUInt32 4 &&& Int32.toUInt32 31)).toInt32)) &&& 252645135) + (((((((x - (((x.toUInt32 >>> (Int32.toUInt32 1 &&& Int32.toUInt32 31)).toInt32) &&& 1431655765)) &&& 858993459) + ((((x - (((x.toUInt32 >>> (Int32.toUInt32 1 &&& Int32.toUInt32 31)).toInt32) &&& 1431655765)).toUInt32 >>> (Int32.toUInt32 2 &&& Int32.toUInt32 31)).toInt32) &&& 858993459)) + (((((x - (((x.toUInt32 >>> (Int32.toUInt32 1 &&& Int32.toUInt32 31)).toInt32) &&& 1431655765)) &&& 858993459) + ((((x - (((x.toUInt32 >>> (Int32.toUInt32 1 &&& Int32.toUInt32 31)).toInt32) &&& 1431655765)).toUInt32 >>> (Int32.toUInt32 2 &&& Int32.toUInt32 31)).toInt32) &&& 858993459)).toUInt32 >>> (Int32.toUInt32 4 &&& Int32.toUInt32 31)).toInt32)) &&& 252645135).toUInt32 >>> (Int32.toUInt32 8 &&& Int32.toUInt32 31)).toInt32)) + ((((((((x - (((x.toUInt32 >>> (Int32.toUInt32 1 &&& Int32.toUInt32 31)).toInt32) &&& 1431655765)) &&& 858993459) + ((((x - (((x.toUInt32 >>> (Int32.toUInt32 1 &&& Int32.toUInt32 31)).toInt32) &&& 1431655765)).toUInt32 >>> (Int32.toUInt32 2 &&& Int32.toUInt32 31)).toInt32) &&& 858993459)) + (((((x - (((x.toUInt32 >>> (Int32.toUInt32 1 &&& Int32.toUInt32 31)).toInt32) &&& 1431655765)) &&& 858993459) + ((((x - (((x.toUInt32 >>> (Int32.toUInt32 1 &&& Int32.toUInt32 31)).toInt32) &&& 1431655765)).toUInt32 >>> (Int32.toUInt32 2 &&& Int32.toUInt32 31)).toInt32) &&& 858993459)).toUInt32 >>> (Int32.toUInt32 4 &&& Int32.toUInt32 31)).toInt32)) &&& 252645135) + (((((((x - (((x.toUInt32 >>> (Int32.toUInt32 1 &&& Int32.toUInt32 31)).toInt32) &&& 1431655765)) &&& 858993459) + ((((x - (((x.toUInt32 >>> (Int32.toUInt32 1 &&& Int32.toUInt32 31)).toInt32) &&& 1431655765)).toUInt32 >>> (Int32.toUInt32 2 &&& Int32.toUInt32 31)).toInt32) &&& 858993459)) + (((((x - (((x.toUInt32 >>> (Int32.toUInt32 1 &&& Int32.toUInt32 31)).toInt32) &&& 1431655765)) &&& 858993459) + ((((x - (((x.toUInt32 >>> (Int32.toUInt32 1 &&& Int32.toUInt32 31)).toInt32) &&& 1431655765)).toUInt32 >>> (Int32.toUInt32 2 &&& Int32.toUInt32 31)).toInt32) &&& 858993459)).toUInt32 >>> (Int32.toUInt32 4 &&& Int32.toUInt32 31)).toInt32)) &&& 252645135).toUInt32 >>> (Int32.toUInt32 8 &&& Int32.toUInt32 31)).toInt32)).toUInt32 >>> (Int32.toUInt32 16 &&& Int32.toUInt32 31)).toInt32)))]) hx hb d_In_bitCount_47 rfl hl (by decide) rfl (fun ls hl => ?_)
  refine lv_iload_n hx hb d_In_bitCount_48 rfl (lv_at hl 0 rfl) ?_
  refine lv_bipush (v := 63) hx hb d_In_bitCount_49 (by decide) ?_
  refine lv_iand hx hb d_In_bitCount_51 ?_
  refine zri E d_In_bitCount_52 hS (Nat.le_of_ble_eq_true rfl) (Nat.le_of_ble_eq_true rfl) ?_
  exact ⟨_, rfl, hP0, rfl⟩
def zisal (x : Int32) : Bool := decide (¬ x < 1 ∧ ¬ 4096 < x ∧ zbc x = 1)
set_option maxHeartbeats 4000000 in
set_option maxRecDepth 100000 in
theorem t_BL_isAlignment (l : Launch) (D : va_G) (cs : ClassId × ClassId × ClassId × ClassId) (x : Int32) (H1 : Heap) : zMet l D cs y_BL_isAlignment c_BL_isAlignment 1 (some FieldType.boolean) ({ frames := 1, cells := 0, slots := 0, locals := 20 } : Room) [.int x] (fun H => H = H1) (fun _ => False) (zqi fun r H => H = H1 ∧ r = if zisal x then 1 else 0) := by
  refine zmk (by decide) (Nat.le_of_ble_eq_true rfl) ?_
  intro p e s m below meth cd ls E hK hP0 hl
  have hS : va_S (fun _ => False) s.heap s.heap [] := va_S.rf
  obtain ⟨hx, hb, hr, hts, hown, hlocks, hml, hin⟩ := id E
  have hl : lv_has ls 1 [(0, .int x)] := hl
  refine lv_iload_n hx hb d_BL_isAlignment_0 rfl (lv_at hl 0 rfl) ?_
  refine lv_iconst (v := 1) hx hb d_BL_isAlignment_1 (by decide) ?_
  refine lv_icmp_lt (tgt := 24) hx hb d_BL_isAlignment_2 (by decide) (fun c_1 => ?_) (fun c_1 => ?_)
  · skip
    refine lv_iconst (v := 0) hx hb d_BL_isAlignment_24 (by decide) ?_
    refine zrz E d_BL_isAlignment_25 (by decide) hS (Nat.le_of_ble_eq_true rfl) (Nat.le_of_ble_eq_true rfl) ?_
    exact ⟨_, rfl, hP0, by simp [zisal, c_1]⟩
  · skip
    refine lv_iload_n hx hb d_BL_isAlignment_5 rfl (lv_at hl 0 rfl) ?_
    refine lv_sipush (v := 4096) hx hb d_BL_isAlignment_6 (by decide) ?_
    refine lv_icmp_gt (tgt := 24) hx hb d_BL_isAlignment_9 (by decide) (fun c_2 => ?_) (fun c_2 => ?_)
    · skip
      refine lv_iconst (v := 0) hx hb d_BL_isAlignment_24 (by decide) ?_
      refine zrz E d_BL_isAlignment_25 (by decide) hS (Nat.le_of_ble_eq_true rfl) (Nat.le_of_ble_eq_true rfl) ?_
      exact ⟨_, rfl, hP0, by simp [zisal, c_2]⟩
    · skip
      refine lv_iload_n hx hb d_BL_isAlignment_12 rfl (lv_at hl 0 rfl) ?_
      refine zcS [.int x] [] E (t_In_bitCount l D cs x H1) d_BL_isAlignment_13 w_108 w_109 w_7 w_110 ⟨by decide +kernel, by decide +kernel, (by decide +kernel : Option.map (fun d => d.parameters.length) (parseMethodDescriptor "(I)I") = some 1)⟩ ⟨(Nat.le_of_ble_eq_true rfl), (Nat.le_of_ble_eq_true rfl)⟩ ⟨(Nat.le_of_ble_eq_true rfl), (Nat.le_of_ble_eq_true rfl)⟩ rfl (Nat.le_of_ble_eq_true rfl) hl.1 hK hP0 hS (fun _ h => h) (zki fun r H locs hq _ _ hS => ?_)
      obtain ⟨rfl, rfl⟩ := hq
      refine lv_iconst (v := 1) hx hb d_BL_isAlignment_16 (by decide) ?_
      refine lv_icmp_ne (tgt := 24) hx hb d_BL_isAlignment_17 (by decide) (fun c_3 => ?_) (fun c_3 => ?_)
      · skip
        refine lv_iconst (v := 0) hx hb d_BL_isAlignment_24 (by decide) ?_
        refine zrz E d_BL_isAlignment_25 (by decide) hS (Nat.le_of_ble_eq_true rfl) (Nat.le_of_ble_eq_true rfl) ?_
        exact ⟨_, rfl, rfl, by simp [zisal, c_1, c_2, c_3]⟩
      · skip
        refine lv_iconst (v := 1) hx hb d_BL_isAlignment_20 (by decide) ?_
        refine lv_goto (tgt := 25) hx hb d_BL_isAlignment_21 (by decide) ?_
        refine zrz E d_BL_isAlignment_25 (by decide) hS (Nat.le_of_ble_eq_true rfl) (Nat.le_of_ble_eq_true rfl) ?_
        exact ⟨_, rfl, rfl, by simp [zisal, c_1, c_2, c_3]⟩
end
section
set_option maxHeartbeats 4000000 in
set_option maxRecDepth 100000 in
theorem t_Pl_init_Al (l : Launch) (D : va_G) (cs : ClassId × ClassId × ClassId × ClassId) (b : Nat) (x : Int32) : zMet l D cs y_Pl_init c_Pl_init 2 none ({ frames := 1, cells := 0, slots := 0, locals := 12 } : Room) [.ref b, .int x] (zH D (fun q => q = b) [(b, .inr (0, [.int 0, .int 0, .int 0, .int 0]))]) (fun q => q = b) (zqv (zH D (fun q => q = b) [(b, .inr (0, [.int 0, .int x, .int 0, .int 0]))])) := by
  refine zmk (by decide) (Nat.le_of_ble_eq_true rfl) ?_
  intro p e s m below meth cd ls E hK hP0 hl
  have hS : va_S (fun q => q = b) s.heap s.heap [] := va_S.rf
  obtain ⟨hP, hD⟩ := hP0
  obtain ⟨hx, hb, hr, hts, hown, hlocks, hml, hin⟩ := id E
  have hl : lv_has ls 2 [(0, .ref b), (1, .int x)] := hl
  refine lv_aload_n hx hb d_Pl_init_0 rfl (lv_at hl 0 rfl) ?_
  refine W.objInit hx hb hown (hts _ w_66) (hts _ w_17) (hts _ w_18) rfl (by rw [hml]; exact hl.1) rfl d_Pl_init_1 (Nat.le_of_ble_eq_true rfl) (Nat.le_of_ble_eq_true rfl) ?_
  refine W.eq (g2 := F0 m 4 ls []) rfl ?_
  refine lv_aload_n hx hb d_Pl_init_4 rfl (lv_at hl 0 rfl) ?_
  refine lv_iload_n hx hb d_Pl_init_5 rfl (lv_at hl 1 rfl) ?_
  refine va_putF (D := D) (ci := 0) (v := .int x) (ty := .int) (C := "BranchLayout$Alignment") (T := T_Al) (N := 4) hx hb hts in_Al ty_Al ok_Al nm_Al hown hK.1 hP hD hS 0 rfl rfl 1 (by decide) (hts _ w_72) (fun _ h9 => h9) rfl hin rfl (by decide +kernel) rfl rfl (Nat.le_of_ble_eq_true rfl) d_Pl_init_6 (fun H locs hP hD hS => ?_)
  have hP : va_P D zcl [(b, .inr (0, [.int 0, .int x, .int 0, .int 0]))] H := hP
  have hD : va_D (fun q => q = b) [(b, .inr (0, [.int 0, .int x, .int 0, .int 0]))] := hD
  refine zrv E d_Pl_init_9 hS (Nat.le_of_ble_eq_true rfl) (Nat.le_of_ble_eq_true rfl) ?_
  exact ⟨rfl, hP, hD⟩
set_option maxHeartbeats 4000000 in
set_option maxRecDepth 100000 in
theorem t_St_init_Al (l : Launch) (D : va_G) (cs : ClassId × ClassId × ClassId × ClassId) (b : Nat) (x : Int32) : zMet l D cs y_St_init c_St_init 2 none ({ frames := 2, cells := 0, slots := 0, locals := 33 } : Room) [.ref b, .int x] (zH D (fun q => q = b) [(b, .inr (0, [.int 0, .int 0, .int 0, .int 0]))]) (fun q => q = b) (zqv (zH D (fun q => q = b) [(b, .inr (0, [.int 0, .int x, .int 0, .int 0]))])) := by
  refine zmk (by decide) (Nat.le_of_ble_eq_true rfl) ?_
  intro p e s m below meth cd ls E hK hP0 hl
  have hS : va_S (fun q => q = b) s.heap s.heap [] := va_S.rf
  obtain ⟨hx, hb, hr, hts, hown, hlocks, hml, hin⟩ := id E
  have hl : lv_has ls 2 [(0, .ref b), (1, .int x)] := hl
  refine lv_aload_n hx hb d_St_init_0 rfl (lv_at hl 0 rfl) ?_
  refine lv_iload_n hx hb d_St_init_1 rfl (lv_at hl 1 rfl) ?_
  refine zcI [.int x] [] E (t_Pl_init_Al l D cs b x) d_St_init_2 w_63 w_64 w_4 w_65 rfl ⟨by decide +kernel, by decide +kernel, (by decide +kernel : Option.map (fun d => d.parameters.length) (parseMethodDescriptor "(I)V") = some 1)⟩ ⟨(Nat.le_of_ble_eq_true rfl), (Nat.le_of_ble_eq_true rfl)⟩ ⟨(Nat.le_of_ble_eq_true rfl), (Nat.le_of_ble_eq_true rfl)⟩ rfl (Nat.le_of_ble_eq_true rfl) hl.1 hK hP0 hS (fun _ h => h) (zkv fun H locs hq _ _ hS => ?_)
  refine zrv E d_St_init_5 hS (Nat.le_of_ble_eq_true rfl) (Nat.le_of_ble_eq_true rfl) ?_
  exact ⟨rfl, hq⟩
set_option maxHeartbeats 4000000 in
set_option maxRecDepth 100000 in
theorem t_Al_init (l : Launch) (D : va_G) (cs : ClassId × ClassId × ClassId × ClassId) (b : Nat) (x n : Int32) : zMet l D cs y_Al_init c_Al_init 3 none ({ frames := 3, cells := 0, slots := 0, locals := 54 } : Room) [.ref b, .int x, .int n] (zH D (fun q => q = b) [(b, .inr (0, [.int 0, .int 0, .int 0, .int 0]))]) (fun q => q = b) (zqv (zH D (fun q => q = b) [(b, .inr (0, [.int 0, .int x, .int 0, .int n]))])) := by
  refine zmk (by decide) (Nat.le_of_ble_eq_true rfl) ?_
  intro p e s m below meth cd ls E hK hP0 hl
  have hS : va_S (fun q => q = b) s.heap s.heap [] := va_S.rf
  obtain ⟨hx, hb, hr, hts, hown, hlocks, hml, hin⟩ := id E
  have hl : lv_has ls 3 [(0, .ref b), (1, .int x), (2, .int n)] := hl
  refine lv_aload_n hx hb d_Al_init_0 rfl (lv_at hl 0 rfl) ?_
  refine lv_iload_n hx hb d_Al_init_1 rfl (lv_at hl 1 rfl) ?_
  refine zcI [.int x] [] E (t_St_init_Al l D cs b x) d_Al_init_2 w_119 w_61 w_5 w_62 rfl ⟨by decide +kernel, by decide +kernel, (by decide +kernel : Option.map (fun d => d.parameters.length) (parseMethodDescriptor "(I)V") = some 1)⟩ ⟨(Nat.le_of_ble_eq_true rfl), (Nat.le_of_ble_eq_true rfl)⟩ ⟨(Nat.le_of_ble_eq_true rfl), (Nat.le_of_ble_eq_true rfl)⟩ rfl (Nat.le_of_ble_eq_true rfl) hl.1 hK hP0 hS (fun _ h => h) (zkv fun H locs hq _ _ hS => ?_)
  obtain ⟨hP, hD⟩ := hq
  refine lv_aload_n hx hb d_Al_init_5 rfl (lv_at hl 0 rfl) ?_
  refine lv_iload_n hx hb d_Al_init_6 rfl (lv_at hl 2 rfl) ?_
  refine va_putF (D := D) (ci := 0) (v := .int n) (ty := .int) (C := "BranchLayout$Alignment") (T := T_Al) (N := 4) hx hb hts in_Al ty_Al ok_Al nm_Al hown hK.1 hP hD hS 0 rfl rfl 3 (by decide) (hts _ w_120) (fun _ h9 => h9) rfl hin rfl (by decide +kernel) rfl rfl (Nat.le_of_ble_eq_true rfl) d_Al_init_7 (fun H locs hP hD hS => ?_)
  have hP : va_P D zcl [(b, .inr (0, [.int 0, .int x, .int 0, .int n]))] H := hP
  have hD : va_D (fun q => q = b) [(b, .inr (0, [.int 0, .int x, .int 0, .int n]))] := hD
  refine zrv E d_Al_init_10 hS (Nat.le_of_ble_eq_true rfl) (Nat.le_of_ble_eq_true rfl) ?_
  exact ⟨rfl, hP, hD⟩
set_option maxHeartbeats 4000000 in
set_option maxRecDepth 100000 in
theorem t_Pl_init_Br (l : Launch) (D : va_G) (cs : ClassId × ClassId × ClassId × ClassId) (b : Nat) (x : Int32) : zMet l D cs y_Pl_init c_Pl_init 2 none ({ frames := 1, cells := 0, slots := 0, locals := 12 } : Room) [.ref b, .int x] (zH D (fun q => q = b) [(b, .inr (1, [.int 0, .int 0, .int 0, .int 0, .null, .int 0, .int 0, .int 0]))]) (fun q => q = b) (zqv (zH D (fun q => q = b) [(b, .inr (1, [.int 0, .int x, .int 0, .int 0, .null, .int 0, .int 0, .int 0]))])) := by
  refine zmk (by decide) (Nat.le_of_ble_eq_true rfl) ?_
  intro p e s m below meth cd ls E hK hP0 hl
  have hS : va_S (fun q => q = b) s.heap s.heap [] := va_S.rf
  obtain ⟨hP, hD⟩ := hP0
  obtain ⟨hx, hb, hr, hts, hown, hlocks, hml, hin⟩ := id E
  have hl : lv_has ls 2 [(0, .ref b), (1, .int x)] := hl
  refine lv_aload_n hx hb d_Pl_init_0 rfl (lv_at hl 0 rfl) ?_
  refine W.objInit hx hb hown (hts _ w_66) (hts _ w_17) (hts _ w_18) rfl (by rw [hml]; exact hl.1) rfl d_Pl_init_1 (Nat.le_of_ble_eq_true rfl) (Nat.le_of_ble_eq_true rfl) ?_
  refine W.eq (g2 := F0 m 4 ls []) rfl ?_
  refine lv_aload_n hx hb d_Pl_init_4 rfl (lv_at hl 0 rfl) ?_
  refine lv_iload_n hx hb d_Pl_init_5 rfl (lv_at hl 1 rfl) ?_
  refine va_putF (D := D) (ci := 1) (v := .int x) (ty := .int) (C := "BranchLayout$Branch") (T := T_Br) (N := 8) hx hb hts in_Br ty_Br ok_Br nm_Br hown hK.1 hP hD hS 0 rfl rfl 1 (by decide) (hts _ w_72) (fun _ h9 => h9) rfl hin rfl (by decide +kernel) rfl rfl (Nat.le_of_ble_eq_true rfl) d_Pl_init_6 (fun H locs hP hD hS => ?_)
  have hP : va_P D zcl [(b, .inr (1, [.int 0, .int x, .int 0, .int 0, .null, .int 0, .int 0, .int 0]))] H := hP
  have hD : va_D (fun q => q = b) [(b, .inr (1, [.int 0, .int x, .int 0, .int 0, .null, .int 0, .int 0, .int 0]))] := hD
  refine zrv E d_Pl_init_9 hS (Nat.le_of_ble_eq_true rfl) (Nat.le_of_ble_eq_true rfl) ?_
  exact ⟨rfl, hP, hD⟩
set_option maxHeartbeats 4000000 in
set_option maxRecDepth 100000 in
theorem t_St_init_Br (l : Launch) (D : va_G) (cs : ClassId × ClassId × ClassId × ClassId) (b : Nat) (x : Int32) : zMet l D cs y_St_init c_St_init 2 none ({ frames := 2, cells := 0, slots := 0, locals := 33 } : Room) [.ref b, .int x] (zH D (fun q => q = b) [(b, .inr (1, [.int 0, .int 0, .int 0, .int 0, .null, .int 0, .int 0, .int 0]))]) (fun q => q = b) (zqv (zH D (fun q => q = b) [(b, .inr (1, [.int 0, .int x, .int 0, .int 0, .null, .int 0, .int 0, .int 0]))])) := by
  refine zmk (by decide) (Nat.le_of_ble_eq_true rfl) ?_
  intro p e s m below meth cd ls E hK hP0 hl
  have hS : va_S (fun q => q = b) s.heap s.heap [] := va_S.rf
  obtain ⟨hx, hb, hr, hts, hown, hlocks, hml, hin⟩ := id E
  have hl : lv_has ls 2 [(0, .ref b), (1, .int x)] := hl
  refine lv_aload_n hx hb d_St_init_0 rfl (lv_at hl 0 rfl) ?_
  refine lv_iload_n hx hb d_St_init_1 rfl (lv_at hl 1 rfl) ?_
  refine zcI [.int x] [] E (t_Pl_init_Br l D cs b x) d_St_init_2 w_63 w_64 w_4 w_65 rfl ⟨by decide +kernel, by decide +kernel, (by decide +kernel : Option.map (fun d => d.parameters.length) (parseMethodDescriptor "(I)V") = some 1)⟩ ⟨(Nat.le_of_ble_eq_true rfl), (Nat.le_of_ble_eq_true rfl)⟩ ⟨(Nat.le_of_ble_eq_true rfl), (Nat.le_of_ble_eq_true rfl)⟩ rfl (Nat.le_of_ble_eq_true rfl) hl.1 hK hP0 hS (fun _ h => h) (zkv fun H locs hq _ _ hS => ?_)
  refine zrv E d_St_init_5 hS (Nat.le_of_ble_eq_true rfl) (Nat.le_of_ble_eq_true rfl) ?_
  exact ⟨rfl, hq⟩
set_option maxHeartbeats 4000000 in
set_option maxRecDepth 100000 in
theorem t_Br_init (l : Launch) (D : va_G) (cs : ClassId × ClassId × ClassId × ClassId) (b : Nat) (x n : Int32) : zMet l D cs y_Br_init c_Br_init 3 none ({ frames := 3, cells := 0, slots := 0, locals := 54 } : Room) [.ref b, .int x, .int n] (zH D (fun q => q = b) [(b, .inr (1, [.int 0, .int 0, .int 0, .int 0, .null, .int 0, .int 0, .int 0]))]) (fun q => q = b) (zqv (zH D (fun q => q = b) [(b, .inr (1, [.int 0, .int x, .int 0, .int n, .null, .int 0, .int 0, .int 0]))])) := by
  refine zmk (by decide) (Nat.le_of_ble_eq_true rfl) ?_
  intro p e s m below meth cd ls E hK hP0 hl
  have hS : va_S (fun q => q = b) s.heap s.heap [] := va_S.rf
  obtain ⟨hx, hb, hr, hts, hown, hlocks, hml, hin⟩ := id E
  have hl : lv_has ls 3 [(0, .ref b), (1, .int x), (2, .int n)] := hl
  refine lv_aload_n hx hb d_Br_init_0 rfl (lv_at hl 0 rfl) ?_
  refine lv_iload_n hx hb d_Br_init_1 rfl (lv_at hl 1 rfl) ?_
  refine zcI [.int x] [] E (t_St_init_Br l D cs b x) d_Br_init_2 w_136 w_61 w_5 w_62 rfl ⟨by decide +kernel, by decide +kernel, (by decide +kernel : Option.map (fun d => d.parameters.length) (parseMethodDescriptor "(I)V") = some 1)⟩ ⟨(Nat.le_of_ble_eq_true rfl), (Nat.le_of_ble_eq_true rfl)⟩ ⟨(Nat.le_of_ble_eq_true rfl), (Nat.le_of_ble_eq_true rfl)⟩ rfl (Nat.le_of_ble_eq_true rfl) hl.1 hK hP0 hS (fun _ h => h) (zkv fun H locs hq _ _ hS => ?_)
  obtain ⟨hP, hD⟩ := hq
  refine lv_aload_n hx hb d_Br_init_5 rfl (lv_at hl 0 rfl) ?_
  refine lv_iload_n hx hb d_Br_init_6 rfl (lv_at hl 2 rfl) ?_
  refine va_putF (D := D) (ci := 1) (v := .int n) (ty := .int) (C := "BranchLayout$Branch") (T := T_Br) (N := 8) hx hb hts in_Br ty_Br ok_Br nm_Br hown hK.1 hP hD hS 0 rfl rfl 3 (by decide) (hts _ w_137) (fun _ h9 => h9) rfl hin rfl (by decide +kernel) rfl rfl (Nat.le_of_ble_eq_true rfl) d_Br_init_7 (fun H locs hP hD hS => ?_)
  have hP : va_P D zcl [(b, .inr (1, [.int 0, .int x, .int 0, .int n, .null, .int 0, .int 0, .int 0]))] H := hP
  have hD : va_D (fun q => q = b) [(b, .inr (1, [.int 0, .int x, .int 0, .int n, .null, .int 0, .int 0, .int 0]))] := hD
  refine zrv E d_Br_init_10 hS (Nat.le_of_ble_eq_true rfl) (Nat.le_of_ble_eq_true rfl) ?_
  exact ⟨rfl, hP, hD⟩
set_option maxHeartbeats 4000000 in
set_option maxRecDepth 100000 in
theorem t_Pl_init_By (l : Launch) (D : va_G) (cs : ClassId × ClassId × ClassId × ClassId) (b : Nat) (x : Int32) : zMet l D cs y_Pl_init c_Pl_init 2 none ({ frames := 1, cells := 0, slots := 0, locals := 12 } : Room) [.ref b, .int x] (zH D (fun q => q = b) [(b, .inr (2, [.int 0, .int 0, .int 0, .int 0]))]) (fun q => q = b) (zqv (zH D (fun q => q = b) [(b, .inr (2, [.int 0, .int x, .int 0, .int 0]))])) := by
  refine zmk (by decide) (Nat.le_of_ble_eq_true rfl) ?_
  intro p e s m below meth cd ls E hK hP0 hl
  have hS : va_S (fun q => q = b) s.heap s.heap [] := va_S.rf
  obtain ⟨hP, hD⟩ := hP0
  obtain ⟨hx, hb, hr, hts, hown, hlocks, hml, hin⟩ := id E
  have hl : lv_has ls 2 [(0, .ref b), (1, .int x)] := hl
  refine lv_aload_n hx hb d_Pl_init_0 rfl (lv_at hl 0 rfl) ?_
  refine W.objInit hx hb hown (hts _ w_66) (hts _ w_17) (hts _ w_18) rfl (by rw [hml]; exact hl.1) rfl d_Pl_init_1 (Nat.le_of_ble_eq_true rfl) (Nat.le_of_ble_eq_true rfl) ?_
  refine W.eq (g2 := F0 m 4 ls []) rfl ?_
  refine lv_aload_n hx hb d_Pl_init_4 rfl (lv_at hl 0 rfl) ?_
  refine lv_iload_n hx hb d_Pl_init_5 rfl (lv_at hl 1 rfl) ?_
  refine va_putF (D := D) (ci := 2) (v := .int x) (ty := .int) (C := "BranchLayout$Bytes") (T := T_By) (N := 4) hx hb hts in_By ty_By ok_By nm_By hown hK.1 hP hD hS 0 rfl rfl 1 (by decide) (hts _ w_72) (fun _ h9 => h9) rfl hin rfl (by decide +kernel) rfl rfl (Nat.le_of_ble_eq_true rfl) d_Pl_init_6 (fun H locs hP hD hS => ?_)
  have hP : va_P D zcl [(b, .inr (2, [.int 0, .int x, .int 0, .int 0]))] H := hP
  have hD : va_D (fun q => q = b) [(b, .inr (2, [.int 0, .int x, .int 0, .int 0]))] := hD
  refine zrv E d_Pl_init_9 hS (Nat.le_of_ble_eq_true rfl) (Nat.le_of_ble_eq_true rfl) ?_
  exact ⟨rfl, hP, hD⟩
set_option maxHeartbeats 4000000 in
set_option maxRecDepth 100000 in
theorem t_St_init_By (l : Launch) (D : va_G) (cs : ClassId × ClassId × ClassId × ClassId) (b : Nat) (x : Int32) : zMet l D cs y_St_init c_St_init 2 none ({ frames := 2, cells := 0, slots := 0, locals := 33 } : Room) [.ref b, .int x] (zH D (fun q => q = b) [(b, .inr (2, [.int 0, .int 0, .int 0, .int 0]))]) (fun q => q = b) (zqv (zH D (fun q => q = b) [(b, .inr (2, [.int 0, .int x, .int 0, .int 0]))])) := by
  refine zmk (by decide) (Nat.le_of_ble_eq_true rfl) ?_
  intro p e s m below meth cd ls E hK hP0 hl
  have hS : va_S (fun q => q = b) s.heap s.heap [] := va_S.rf
  obtain ⟨hx, hb, hr, hts, hown, hlocks, hml, hin⟩ := id E
  have hl : lv_has ls 2 [(0, .ref b), (1, .int x)] := hl
  refine lv_aload_n hx hb d_St_init_0 rfl (lv_at hl 0 rfl) ?_
  refine lv_iload_n hx hb d_St_init_1 rfl (lv_at hl 1 rfl) ?_
  refine zcI [.int x] [] E (t_Pl_init_By l D cs b x) d_St_init_2 w_63 w_64 w_4 w_65 rfl ⟨by decide +kernel, by decide +kernel, (by decide +kernel : Option.map (fun d => d.parameters.length) (parseMethodDescriptor "(I)V") = some 1)⟩ ⟨(Nat.le_of_ble_eq_true rfl), (Nat.le_of_ble_eq_true rfl)⟩ ⟨(Nat.le_of_ble_eq_true rfl), (Nat.le_of_ble_eq_true rfl)⟩ rfl (Nat.le_of_ble_eq_true rfl) hl.1 hK hP0 hS (fun _ h => h) (zkv fun H locs hq _ _ hS => ?_)
  refine zrv E d_St_init_5 hS (Nat.le_of_ble_eq_true rfl) (Nat.le_of_ble_eq_true rfl) ?_
  exact ⟨rfl, hq⟩
set_option maxHeartbeats 4000000 in
set_option maxRecDepth 100000 in
theorem t_By_init (l : Launch) (D : va_G) (cs : ClassId × ClassId × ClassId × ClassId) (b : Nat) (x n : Int32) : zMet l D cs y_By_init c_By_init 3 none ({ frames := 3, cells := 0, slots := 0, locals := 54 } : Room) [.ref b, .int x, .int n] (zH D (fun q => q = b) [(b, .inr (2, [.int 0, .int 0, .int 0, .int 0]))]) (fun q => q = b) (zqv (zH D (fun q => q = b) [(b, .inr (2, [.int 0, .int x, .int 0, .int n]))])) := by
  refine zmk (by decide) (Nat.le_of_ble_eq_true rfl) ?_
  intro p e s m below meth cd ls E hK hP0 hl
  have hS : va_S (fun q => q = b) s.heap s.heap [] := va_S.rf
  obtain ⟨hx, hb, hr, hts, hown, hlocks, hml, hin⟩ := id E
  have hl : lv_has ls 3 [(0, .ref b), (1, .int x), (2, .int n)] := hl
  refine lv_aload_n hx hb d_By_init_0 rfl (lv_at hl 0 rfl) ?_
  refine lv_iload_n hx hb d_By_init_1 rfl (lv_at hl 1 rfl) ?_
  refine zcI [.int x] [] E (t_St_init_By l D cs b x) d_By_init_2 w_60 w_61 w_5 w_62 rfl ⟨by decide +kernel, by decide +kernel, (by decide +kernel : Option.map (fun d => d.parameters.length) (parseMethodDescriptor "(I)V") = some 1)⟩ ⟨(Nat.le_of_ble_eq_true rfl), (Nat.le_of_ble_eq_true rfl)⟩ ⟨(Nat.le_of_ble_eq_true rfl), (Nat.le_of_ble_eq_true rfl)⟩ rfl (Nat.le_of_ble_eq_true rfl) hl.1 hK hP0 hS (fun _ h => h) (zkv fun H locs hq _ _ hS => ?_)
  obtain ⟨hP, hD⟩ := hq
  refine lv_aload_n hx hb d_By_init_5 rfl (lv_at hl 0 rfl) ?_
  refine lv_iload_n hx hb d_By_init_6 rfl (lv_at hl 2 rfl) ?_
  refine va_putF (D := D) (ci := 2) (v := .int n) (ty := .int) (C := "BranchLayout$Bytes") (T := T_By) (N := 4) hx hb hts in_By ty_By ok_By nm_By hown hK.1 hP hD hS 0 rfl rfl 3 (by decide) (hts _ w_67) (fun _ h9 => h9) rfl hin rfl (by decide +kernel) rfl rfl (Nat.le_of_ble_eq_true rfl) d_By_init_7 (fun H locs hP hD hS => ?_)
  have hP : va_P D zcl [(b, .inr (2, [.int 0, .int x, .int 0, .int n]))] H := hP
  have hD : va_D (fun q => q = b) [(b, .inr (2, [.int 0, .int x, .int 0, .int n]))] := hD
  refine zrv E d_By_init_10 hS (Nat.le_of_ble_eq_true rfl) (Nat.le_of_ble_eq_true rfl) ?_
  exact ⟨rfl, hP, hD⟩
set_option maxHeartbeats 4000000 in
set_option maxRecDepth 100000 in
theorem t_Pl_init_La (l : Launch) (D : va_G) (cs : ClassId × ClassId × ClassId × ClassId) (b : Nat) (x : Int32) : zMet l D cs y_Pl_init c_Pl_init 2 none ({ frames := 1, cells := 0, slots := 0, locals := 12 } : Room) [.ref b, .int x] (zH D (fun q => q = b) [(b, .inr (3, [.int 0, .int 0, .int 0]))]) (fun q => q = b) (zqv (zH D (fun q => q = b) [(b, .inr (3, [.int x, .int 0, .int 0]))])) := by
  refine zmk (by decide) (Nat.le_of_ble_eq_true rfl) ?_
  intro p e s m below meth cd ls E hK hP0 hl
  have hS : va_S (fun q => q = b) s.heap s.heap [] := va_S.rf
  obtain ⟨hP, hD⟩ := hP0
  obtain ⟨hx, hb, hr, hts, hown, hlocks, hml, hin⟩ := id E
  have hl : lv_has ls 2 [(0, .ref b), (1, .int x)] := hl
  refine lv_aload_n hx hb d_Pl_init_0 rfl (lv_at hl 0 rfl) ?_
  refine W.objInit hx hb hown (hts _ w_66) (hts _ w_17) (hts _ w_18) rfl (by rw [hml]; exact hl.1) rfl d_Pl_init_1 (Nat.le_of_ble_eq_true rfl) (Nat.le_of_ble_eq_true rfl) ?_
  refine W.eq (g2 := F0 m 4 ls []) rfl ?_
  refine lv_aload_n hx hb d_Pl_init_4 rfl (lv_at hl 0 rfl) ?_
  refine lv_iload_n hx hb d_Pl_init_5 rfl (lv_at hl 1 rfl) ?_
  refine va_putF (D := D) (ci := 3) (v := .int x) (ty := .int) (C := "BranchLayout$Label") (T := T_La) (N := 3) hx hb hts in_La ty_La ok_La nm_La hown hK.1 hP hD hS 0 rfl rfl 0 (by decide) (hts _ w_72) (fun _ h9 => h9) rfl hin rfl (by decide +kernel) rfl rfl (Nat.le_of_ble_eq_true rfl) d_Pl_init_6 (fun H locs hP hD hS => ?_)
  have hP : va_P D zcl [(b, .inr (3, [.int x, .int 0, .int 0]))] H := hP
  have hD : va_D (fun q => q = b) [(b, .inr (3, [.int x, .int 0, .int 0]))] := hD
  refine zrv E d_Pl_init_9 hS (Nat.le_of_ble_eq_true rfl) (Nat.le_of_ble_eq_true rfl) ?_
  exact ⟨rfl, hP, hD⟩
set_option maxHeartbeats 4000000 in
set_option maxRecDepth 100000 in
theorem t_La_init (l : Launch) (D : va_G) (cs : ClassId × ClassId × ClassId × ClassId) (b : Nat) (x n : Int32) : zMet l D cs y_La_init c_La_init 3 none ({ frames := 2, cells := 0, slots := 0, locals := 33 } : Room) [.ref b, .int x, .int n] (zH D (fun q => q = b) [(b, .inr (3, [.int 0, .int 0, .int 0]))]) (fun q => q = b) (zqv (zH D (fun q => q = b) [(b, .inr (3, [.int x, .int 0, .int n]))])) := by
  refine zmk (by decide) (Nat.le_of_ble_eq_true rfl) ?_
  intro p e s m below meth cd ls E hK hP0 hl
  have hS : va_S (fun q => q = b) s.heap s.heap [] := va_S.rf
  obtain ⟨hx, hb, hr, hts, hown, hlocks, hml, hin⟩ := id E
  have hl : lv_has ls 3 [(0, .ref b), (1, .int x), (2, .int n)] := hl
  refine lv_aload_n hx hb d_La_init_0 rfl (lv_at hl 0 rfl) ?_
  refine lv_iload_n hx hb d_La_init_1 rfl (lv_at hl 1 rfl) ?_
  refine zcI [.int x] [] E (t_Pl_init_La l D cs b x) d_La_init_2 w_167 w_64 w_4 w_65 rfl ⟨by decide +kernel, by decide +kernel, (by decide +kernel : Option.map (fun d => d.parameters.length) (parseMethodDescriptor "(I)V") = some 1)⟩ ⟨(Nat.le_of_ble_eq_true rfl), (Nat.le_of_ble_eq_true rfl)⟩ ⟨(Nat.le_of_ble_eq_true rfl), (Nat.le_of_ble_eq_true rfl)⟩ rfl (Nat.le_of_ble_eq_true rfl) hl.1 hK hP0 hS (fun _ h => h) (zkv fun H locs hq _ _ hS => ?_)
  obtain ⟨hP, hD⟩ := hq
  refine lv_aload_n hx hb d_La_init_5 rfl (lv_at hl 0 rfl) ?_
  refine lv_iload_n hx hb d_La_init_6 rfl (lv_at hl 2 rfl) ?_
  refine va_putF (D := D) (ci := 3) (v := .int n) (ty := .int) (C := "BranchLayout$Label") (T := T_La) (N := 3) hx hb hts in_La ty_La ok_La nm_La hown hK.1 hP hD hS 0 rfl rfl 2 (by decide) (hts _ w_168) (fun _ h9 => h9) rfl hin rfl (by decide +kernel) rfl rfl (Nat.le_of_ble_eq_true rfl) d_La_init_7 (fun H locs hP hD hS => ?_)
  have hP : va_P D zcl [(b, .inr (3, [.int x, .int 0, .int n]))] H := hP
  have hD : va_D (fun q => q = b) [(b, .inr (3, [.int x, .int 0, .int n]))] := hD
  refine zrv E d_La_init_10 hS (Nat.le_of_ble_eq_true rfl) (Nat.le_of_ble_eq_true rfl) ?_
  exact ⟨rfl, hP, hD⟩
end
section
theorem zin {x : Int32} {n N : Nat} (hn : n ≤ N) (hN : N < 2 ^ 31) (h0 : ¬ x < 0) (h : ¬ nI n ≤ x) : vp_in x N ∧ ∃ j, j < n ∧ x = nI j := by
  rcases pk_ix x (n := n) (by omega) with q | q | ⟨j, hj, rfl⟩
  · exact absurd q h0
  · exact absurd q h
  · exact ⟨vp_in_nI (by omega) hN, j, hj, rfl⟩
def zsn (n : Nat) (ad : Nat → Nat) (x : Int32) : Option Nat := if x < 0 then none else if nI n ≤ x then none else some (ad x.toNatClampNeg)
def zpn (sc lc : Nat) (ad bd : Nat → Nat) (x : Int32) : Option Nat := if x < 0 then zsn sc ad (-2 - x) else zsn lc bd x
set_option maxHeartbeats 4000000 in
set_option maxRecDepth 100000 in
theorem t_BL_statementNumbered (l : Launch) (D : va_G) (cs : ClassId × ClassId × ClassId × ClassId) (A : Nat → Prop) (o : Nat × Nat × Nat × Nat) (sc lc : Nat) (fa fb : Nat → Option Nat) (ad bd : Nat → Nat) (c : Nat → Nat → Nat) (gp mo : Nat → Int32) (V : Nat → Nat → Int32) (hn : sc ≤ 4096) (hf : ∀ k, k < sc → fa k = some (ad k)) (x : Int32) (H1 : Heap) (hw : zH D A (zB o cs sc lc fa fb ad bd c gp mo V) H1) : zMet l D cs y_BL_statementNumbered c_BL_statementNumbered 2 (some (FieldType.object "BranchLayout$Statement")) ({ frames := 0, cells := 0, slots := 0, locals := 0 } : Room) [.ref o.1, .int x] (fun H => H = H1) (fun _ => False) (zqr fun r H => H = H1 ∧ r = zsn sc ad x) := by
  refine zmk (by decide) (Nat.le_of_ble_eq_true rfl) ?_
  intro p e s m below meth cd ls E hK hP0 hl
  have hS : va_S (fun _ => False) s.heap s.heap [] := va_S.rf
  have hP := hw.1
  rw [← hP0] at hP
  obtain ⟨hx, hb, hr, hts, hown, hlocks, hml, hin⟩ := id E
  have hl : lv_has ls 2 [(0, .ref o.1), (1, .int x)] := hl
  refine lv_iload_n hx hb d_BL_statementNumbered_0 rfl (lv_at hl 1 rfl) ?_
  refine lv_if_lt (tgt := 21) hx hb d_BL_statementNumbered_1 (by decide) (fun c_1 => ?_) (fun c_1 => ?_)
  · skip
    refine lv_null hx hb d_BL_statementNumbered_21 ?_
    refine zra (v := none) E (Or.inl ⟨_, rfl⟩) d_BL_statementNumbered_22 hS (Nat.le_of_ble_eq_true rfl) (Nat.le_of_ble_eq_true rfl) ?_
    exact ⟨_, rfl, hP0, by simp [zsn, c_1]⟩
  · skip
    refine lv_iload_n hx hb d_BL_statementNumbered_4 rfl (lv_at hl 1 rfl) ?_
    refine lv_aload_n hx hb d_BL_statementNumbered_5 rfl (lv_at hl 0 rfl) ?_
    refine va_get (D := D) (ci := 4) (v := .int (nI sc)) (C := "BranchLayout") (T := T_BL) (N := 5) hx hb hts in_BL hown hK.1 hP 0 (zb_x rfl) rfl 3 (by decide) (hts _ w_26) (fun _ h9 => h9) rfl d_BL_statementNumbered_6 ?_
    refine lv_icmp_ge (tgt := 21) hx hb d_BL_statementNumbered_9 (by decide) (fun c_2 => ?_) (fun c_2 => ?_)
    · skip
      refine lv_null hx hb d_BL_statementNumbered_21 ?_
      refine zra (v := none) E (Or.inl ⟨_, rfl⟩) d_BL_statementNumbered_22 hS (Nat.le_of_ble_eq_true rfl) (Nat.le_of_ble_eq_true rfl) ?_
      exact ⟨_, rfl, hP0, by simp [zsn, c_1, c_2]⟩
    · skip
      refine lv_aload_n hx hb d_BL_statementNumbered_12 rfl (lv_at hl 0 rfl) ?_
      refine va_get (D := D) (ci := 4) (v := .ref o.2.1) (C := "BranchLayout") (T := T_BL) (N := 5) hx hb hts in_BL hown hK.1 hP 0 (zb_x rfl) rfl 0 (by decide) (hts _ w_23) (fun _ h9 => h9) rfl d_BL_statementNumbered_13 ?_
      refine lv_iload_n hx hb d_BL_statementNumbered_16 rfl (lv_at hl 1 rfl) ?_
      obtain ⟨hi, j, hj, ej⟩ := zin hn (by decide) c_1 c_2
      refine va_aldq hx hb hK.1 hP 1 2 (zb_x rfl) rfl hi d_BL_statementNumbered_17 ?_
      refine lv_goto (tgt := 22) hx hb d_BL_statementNumbered_18 (by decide) ?_
      refine zra (v := fa x.toNatClampNeg) E (Or.inl ⟨_, rfl⟩) d_BL_statementNumbered_22 hS (Nat.le_of_ble_eq_true rfl) (Nat.le_of_ble_eq_true rfl) ?_
      refine ⟨_, rfl, hP0, ?_⟩
      have e1 : x.toNatClampNeg = j := by rw [ej]; exact nI_clamp (by omega)
      simp only [zsn, c_1, c_2, if_false]
      rw [e1, hf j hj]
set_option maxHeartbeats 4000000 in
set_option maxRecDepth 100000 in
theorem t_BL_labelNumbered (l : Launch) (D : va_G) (cs : ClassId × ClassId × ClassId × ClassId) (A : Nat → Prop) (o : Nat × Nat × Nat × Nat) (sc lc : Nat) (fa fb : Nat → Option Nat) (ad bd : Nat → Nat) (c : Nat → Nat → Nat) (gp mo : Nat → Int32) (V : Nat → Nat → Int32) (hn : lc ≤ 1024) (hf : ∀ k, k < lc → fb k = some (bd k)) (x : Int32) (H1 : Heap) (hw : zH D A (zB o cs sc lc fa fb ad bd c gp mo V) H1) : zMet l D cs y_BL_labelNumbered c_BL_labelNumbered 2 (some (FieldType.object "BranchLayout$Label")) ({ frames := 0, cells := 0, slots := 0, locals := 0 } : Room) [.ref o.1, .int x] (fun H => H = H1) (fun _ => False) (zqr fun r H => H = H1 ∧ r = zsn lc bd x) := by
  refine zmk (by decide) (Nat.le_of_ble_eq_true rfl) ?_
  intro p e s m below meth cd ls E hK hP0 hl
  have hS : va_S (fun _ => False) s.heap s.heap [] := va_S.rf
  have hP := hw.1
  rw [← hP0] at hP
  obtain ⟨hx, hb, hr, hts, hown, hlocks, hml, hin⟩ := id E
  have hl : lv_has ls 2 [(0, .ref o.1), (1, .int x)] := hl
  refine lv_iload_n hx hb d_BL_labelNumbered_0 rfl (lv_at hl 1 rfl) ?_
  refine lv_if_lt (tgt := 21) hx hb d_BL_labelNumbered_1 (by decide) (fun c_3 => ?_) (fun c_3 => ?_)
  · skip
    refine lv_null hx hb d_BL_labelNumbered_21 ?_
    refine zra (v := none) E (Or.inl ⟨_, rfl⟩) d_BL_labelNumbered_22 hS (Nat.le_of_ble_eq_true rfl) (Nat.le_of_ble_eq_true rfl) ?_
    exact ⟨_, rfl, hP0, by simp [zsn, c_3]⟩
  · skip
    refine lv_iload_n hx hb d_BL_labelNumbered_4 rfl (lv_at hl 1 rfl) ?_
    refine lv_aload_n hx hb d_BL_labelNumbered_5 rfl (lv_at hl 0 rfl) ?_
    refine va_get (D := D) (ci := 4) (v := .int (nI lc)) (C := "BranchLayout") (T := T_BL) (N := 5) hx hb hts in_BL hown hK.1 hP 0 (zb_x rfl) rfl 4 (by decide) (hts _ w_27) (fun _ h9 => h9) rfl d_BL_labelNumbered_6 ?_
    refine lv_icmp_ge (tgt := 21) hx hb d_BL_labelNumbered_9 (by decide) (fun c_4 => ?_) (fun c_4 => ?_)
    · skip
      refine lv_null hx hb d_BL_labelNumbered_21 ?_
      refine zra (v := none) E (Or.inl ⟨_, rfl⟩) d_BL_labelNumbered_22 hS (Nat.le_of_ble_eq_true rfl) (Nat.le_of_ble_eq_true rfl) ?_
      exact ⟨_, rfl, hP0, by simp [zsn, c_3, c_4]⟩
    · skip
      refine lv_aload_n hx hb d_BL_labelNumbered_12 rfl (lv_at hl 0 rfl) ?_
      refine va_get (D := D) (ci := 4) (v := .ref o.2.2.1) (C := "BranchLayout") (T := T_BL) (N := 5) hx hb hts in_BL hown hK.1 hP 0 (zb_x rfl) rfl 1 (by decide) (hts _ w_24) (fun _ h9 => h9) rfl d_BL_labelNumbered_13 ?_
      refine lv_iload_n hx hb d_BL_labelNumbered_16 rfl (lv_at hl 1 rfl) ?_
      obtain ⟨hi, j, hj, ej⟩ := zin hn (by decide) c_3 c_4
      refine va_aldq hx hb hK.1 hP 2 3 (zb_x rfl) rfl hi d_BL_labelNumbered_17 ?_
      refine lv_goto (tgt := 22) hx hb d_BL_labelNumbered_18 (by decide) ?_
      refine zra (v := fb x.toNatClampNeg) E (Or.inl ⟨_, rfl⟩) d_BL_labelNumbered_22 hS (Nat.le_of_ble_eq_true rfl) (Nat.le_of_ble_eq_true rfl) ?_
      refine ⟨_, rfl, hP0, ?_⟩
      have e1 : x.toNatClampNeg = j := by rw [ej]; exact nI_clamp (by omega)
      simp only [zsn, c_3, c_4, if_false]
      rw [e1, hf j hj]
set_option maxHeartbeats 4000000 in
set_option maxRecDepth 100000 in
theorem t_BL_placeNamed (l : Launch) (D : va_G) (cs : ClassId × ClassId × ClassId × ClassId) (A : Nat → Prop) (o : Nat × Nat × Nat × Nat) (sc lc : Nat) (fa fb : Nat → Option Nat) (ad bd : Nat → Nat) (c : Nat → Nat → Nat) (gp mo : Nat → Int32) (V : Nat → Nat → Int32) (hn : sc ≤ 4096) (hf : ∀ k, k < sc → fa k = some (ad k)) (hn2 : lc ≤ 1024) (hf2 : ∀ k, k < lc → fb k = some (bd k)) (x : Int32) (H1 : Heap) (hw : zH D A (zB o cs sc lc fa fb ad bd c gp mo V) H1) : zMet l D cs y_BL_placeNamed c_BL_placeNamed 2 (some (FieldType.object "BranchLayout$Place")) ({ frames := 1, cells := 0, slots := 0, locals := 21 } : Room) [.ref o.1, .int x] (fun H => H = H1) (fun _ => False) (zqr fun r H => H = H1 ∧ r = zpn sc lc ad bd x) := by
  refine zmk (by decide) (Nat.le_of_ble_eq_true rfl) ?_
  intro p e s m below meth cd ls E hK hP0 hl
  have hS : va_S (fun _ => False) s.heap s.heap [] := va_S.rf
  have hP := hw.1
  rw [← hP0] at hP
  obtain ⟨hx, hb, hr, hts, hown, hlocks, hml, hin⟩ := id E
  have hl : lv_has ls 2 [(0, .ref o.1), (1, .int x)] := hl
  refine lv_iload_n hx hb d_BL_placeNamed_0 rfl (lv_at hl 1 rfl) ?_
  refine lv_if_lt (tgt := 12) hx hb d_BL_placeNamed_1 (by decide) (fun c_5 => ?_) (fun c_5 => ?_)
  · skip
    refine lv_aload_n hx hb d_BL_placeNamed_12 rfl (lv_at hl 0 rfl) ?_
    refine lv_bipush (v := (-2)) hx hb d_BL_placeNamed_13 (by decide) ?_
    refine lv_iload_n hx hb d_BL_placeNamed_15 rfl (lv_at hl 1 rfl) ?_
    refine lv_isub hx hb d_BL_placeNamed_16 ?_
    refine zcV [.int ((-2) - x)] [] E (t_BL_statementNumbered l D cs A o sc lc fa fb ad bd c gp mo V hn hf (-2 - x) H1 hw) d_BL_placeNamed_17 w_179 w_181 ws_BL_statementNumbered w_1 w_182 ⟨rfl, by decide +kernel, by decide +kernel, (by decide +kernel : Option.map (fun d => d.parameters.length) (parseMethodDescriptor "(I)LBranchLayout$Statement;") = some 1)⟩ ⟨(Nat.le_of_ble_eq_true rfl), (Nat.le_of_ble_eq_true rfl)⟩ ⟨(Nat.le_of_ble_eq_true rfl), (Nat.le_of_ble_eq_true rfl)⟩ rfl (Nat.le_of_ble_eq_true rfl) hl.1 (va_recv hK.1 hP (ci := 4) (q0 := 0) rfl (zb_x rfl)) hK hP0 hS (fun _ h => h) (zkr fun r H locs hq _ _ hS => ?_)
    refine zra (v := r) E (Or.inl ⟨_, rfl⟩) d_BL_placeNamed_20 hS (Nat.le_of_ble_eq_true rfl) (Nat.le_of_ble_eq_true rfl) ?_
    exact ⟨_, rfl, hq.1, by rw [hq.2]; simp only [zpn, c_5, if_true]⟩
  · skip
    refine lv_aload_n hx hb d_BL_placeNamed_4 rfl (lv_at hl 0 rfl) ?_
    refine lv_iload_n hx hb d_BL_placeNamed_5 rfl (lv_at hl 1 rfl) ?_
    refine zcV [.int x] [] E (t_BL_labelNumbered l D cs A o sc lc fa fb ad bd c gp mo V hn2 hf2 x H1 hw) d_BL_placeNamed_6 w_187 w_189 ws_BL_labelNumbered w_1 w_190 ⟨rfl, by decide +kernel, by decide +kernel, (by decide +kernel : Option.map (fun d => d.parameters.length) (parseMethodDescriptor "(I)LBranchLayout$Label;") = some 1)⟩ ⟨(Nat.le_of_ble_eq_true rfl), (Nat.le_of_ble_eq_true rfl)⟩ ⟨(Nat.le_of_ble_eq_true rfl), (Nat.le_of_ble_eq_true rfl)⟩ rfl (Nat.le_of_ble_eq_true rfl) hl.1 (va_recv hK.1 hP (ci := 4) (q0 := 0) rfl (zb_x rfl)) hK hP0 hS (fun _ h => h) (zkr fun r H locs hq _ _ hS => ?_)
    refine lv_goto (tgt := 20) hx hb d_BL_placeNamed_9 (by decide) ?_
    refine zra (v := r) E (Or.inl ⟨_, rfl⟩) d_BL_placeNamed_20 hS (Nat.le_of_ble_eq_true rfl) (Nat.le_of_ble_eq_true rfl) ?_
    exact ⟨_, rfl, hq.1, by rw [hq.2]; simp only [zpn, c_5, if_false]⟩
set_option maxHeartbeats 4000000 in
set_option maxRecDepth 100000 in
theorem t_BL_addStatement (l : Launch) (D : va_G) (cs : ClassId × ClassId × ClassId × ClassId) (A : Nat → Prop) (o : Nat × Nat × Nat × Nat) (sc lc : Nat) (fa fb : Nat → Option Nat) (z : Nat → Int32) (n k i0 b ci : Nat) (F G : Nat → Nat × va_E) (r0 : vw_C) (vs : List Value) (hsc : sc ≤ 4096) (hi0 : i0 < k) (hG : G i0 = (b, .inr (ci, vs))) (hc : zcl[ci]? = some r0) (hca : ∀ U, zN U → va_Nw (.castable r0.1 "BranchLayout$Statement") U) : zMet l D cs y_BL_addStatement c_BL_addStatement 2 (some FieldType.int) ({ frames := 0, cells := 0, slots := 0, locals := 0 } : Room) [.ref o.1, .ref b] (zH D A (zw_ws (zX o cs sc lc fa fb z) n F k G)) A (zqi fun r H => (sc < 4096 ∧ r = nI sc ∧ zH D A (zw_ws (zX o cs (sc + 1) lc (va_up fa sc (some b)) fb z) n F k G) H) ∨ (¬ sc < 4096 ∧ r = -1 ∧ zH D A (zw_ws (zX o cs sc lc fa fb z) n F k G) H)) := by
  refine zmk (by decide) (Nat.le_of_ble_eq_true rfl) ?_
  intro p e s m below meth cd ls E hK hP0 hl
  have hS : va_S A s.heap s.heap [] := va_S.rf
  obtain ⟨hP, hD⟩ := hP0
  obtain ⟨hx, hb, hr, hts, hown, hlocks, hml, hin⟩ := id E
  have hl : lv_has ls 2 [(0, .ref o.1), (1, .ref b)] := hl
  refine lv_aload_n hx hb d_BL_addStatement_0 rfl (lv_at hl 0 rfl) ?_
  refine va_get (D := D) (ci := 4) (v := .int (nI sc)) (C := "BranchLayout") (T := T_BL) (N := 5) hx hb hts in_BL hown hK.1 hP 0 (zw_x rfl) rfl 3 (by decide) (hts _ w_26) (fun _ h9 => h9) rfl d_BL_addStatement_1 ?_
  refine lv_aload_n hx hb d_BL_addStatement_4 rfl (lv_at hl 0 rfl) ?_
  refine va_get (D := D) (ci := 4) (v := .ref o.2.1) (C := "BranchLayout") (T := T_BL) (N := 5) hx hb hts in_BL hown hK.1 hP 0 (zw_x rfl) rfl 0 (by decide) (hts _ w_23) (fun _ h9 => h9) rfl d_BL_addStatement_5 ?_
  refine va_alen hx hb hK.1 hP 1 2 (zw_x rfl) rfl (v := nI 4096) rfl d_BL_addStatement_8 ?_
  refine lv_icmp_lt (tgt := 14) hx hb d_BL_addStatement_9 (by decide) (fun c_6 => ?_) (fun c_6 => ?_)
  · skip
    refine lv_aload_n hx hb d_BL_addStatement_14 rfl (lv_at hl 0 rfl) ?_
    refine va_get (D := D) (ci := 4) (v := .ref o.2.1) (C := "BranchLayout") (T := T_BL) (N := 5) hx hb hts in_BL hown hK.1 hP 0 (zw_x rfl) rfl 0 (by decide) (hts _ w_23) (fun _ h9 => h9) rfl d_BL_addStatement_15 ?_
    refine lv_aload_n hx hb d_BL_addStatement_18 rfl (lv_at hl 0 rfl) ?_
    refine va_get (D := D) (ci := 4) (v := .int (nI sc)) (C := "BranchLayout") (T := T_BL) (N := 5) hx hb hts in_BL hown hK.1 hP 0 (zw_x rfl) rfl 3 (by decide) (hts _ w_26) (fun _ h9 => h9) rfl d_BL_addStatement_19 ?_
    refine lv_aload_n hx hb d_BL_addStatement_22 rfl (lv_at hl 1 rfl) ?_
    have hlt : sc < 4096 := (nI_ltI (by omega) (by decide)).mp c_6
    have hg : (zw_ws (zX o cs sc lc fa fb z) n F k G)[4 + n + i0]? = some (b, .inr (ci, vs)) := by rw [← hG]; exact zw_g rfl hi0
    refine va_astqO hx hb hK.1 hP hD hS 1 2 (4 + n + i0) ci (zw_x rfl) rfl (hca s hK.2) hg hc (vp_in_nI hlt (by decide)) d_BL_addStatement_23 (fun H locs hP hD hS => ?_)
    rw [nI_clamp (show sc < 2 ^ 31 by omega), zw_setx (Nat.le_of_ble_eq_true rfl)] at hP hD
    have hP : va_P D zcl (zw_ws (zX o cs sc lc (va_up fa sc (some b)) fb z) n F k G) H := hP
    have hD : va_D A (zw_ws (zX o cs sc lc (va_up fa sc (some b)) fb z) n F k G) := hD
    refine lv_aload_n hx hb d_BL_addStatement_24 rfl (lv_at hl 0 rfl) ?_
    refine lv_dup hx hb d_BL_addStatement_25 rfl ?_
    refine va_get (D := D) (ci := 4) (v := .int (nI sc)) (C := "BranchLayout") (T := T_BL) (N := 5) hx hb hts in_BL hown hK.1 hP 0 (zw_x rfl) rfl 3 (by decide) (hts _ w_26) (fun _ h9 => h9) rfl d_BL_addStatement_26 ?_
    refine lv_dup_x1 hx hb d_BL_addStatement_29 rfl rfl ?_
    refine lv_iconst (v := 1) hx hb d_BL_addStatement_30 (by decide) ?_
    refine lv_iadd hx hb d_BL_addStatement_31 ?_
    refine va_put (D := D) (ci := 4) (v := .int (nI sc + 1)) (ty := .int) (C := "BranchLayout") (T := T_BL) (N := 5) hx hb hts in_BL ty_BL ok_BL nm_BL hown hK.1 hP hD hS 0 (zw_x rfl) rfl 3 (by decide) (hts _ w_26) (fun _ h9 => h9) rfl (by decide +kernel) rfl rfl (Nat.le_of_ble_eq_true rfl) d_BL_addStatement_32 (fun H locs hP hD hS => ?_)
    rw [zw_setx (Nat.le_of_ble_eq_true rfl), nI_1] at hP hD
    refine zri E d_BL_addStatement_35 hS (Nat.le_of_ble_eq_true rfl) (Nat.le_of_ble_eq_true rfl) ?_
    exact ⟨_, rfl, Or.inl ⟨hlt, rfl, hP, hD⟩⟩
  · skip
    refine lv_iconst (v := (-1)) hx hb d_BL_addStatement_12 (by decide) ?_
    refine zri E d_BL_addStatement_13 hS (Nat.le_of_ble_eq_true rfl) (Nat.le_of_ble_eq_true rfl) ?_
    exact ⟨_, rfl, Or.inr ⟨fun q => c_6 (nI_lt q (by decide)), rfl, hP, hD⟩⟩
end
section
def zac (c : Nat → Nat → Nat) (sc kd : Nat) (x n : Int32) : Nat → Nat → Nat := fun f k => if k = sc ∧ f = 0 then kd else if k = sc ∧ f = 1 then x.toNatClampNeg else if k = sc ∧ f = 2 then n.toNatClampNeg else c f k
def zaV (V : Nat → Nat → Int32) (sc : Nat) : Nat → Nat → Int32 := fun f k => if k = sc ∧ f < 4 then 0 else V f k
def zlc (c : Nat → Nat → Nat) (lc sc : Nat) (x : Int32) : Nat → Nat → Nat := fun f k => if k = lc ∧ f = 3 then x.toNatClampNeg else if k = lc ∧ f = 4 then sc else c f k
theorem zclamp {x : Int32} (h : ¬ x < 0) : nI x.toNatClampNeg = x := by
  obtain ⟨j, hj, rfl⟩ := nI_of h
  rw [nI_clamp hj]
theorem zm2 {i : Nat} (h : i < 2 ^ 30) : (-2 - (-2 - nI i)) = nI i ∧ (-2 - nI i) < 0 ∧ ¬ (-2 - nI i) = -1 := by
  have h1 : (nI i).toInt = (i : Int) := nI_toInt (by omega)
  have e1 : (-2 - nI i).toInt = -2 - (i : Int) := by
    rw [Int32.toInt_sub, h1]
    show Int.bmod (-2 - (i : Int)) (2 ^ 32) = _
    rw [Int.bmod_eq_of_le] <;> omega
  refine ⟨?_, ?_, fun h2 => ?_⟩
  · apply Int32.toInt_inj.mp
    rw [Int32.toInt_sub, e1, h1]
    show Int.bmod (-2 - (-2 - (i : Int))) (2 ^ 32) = _
    rw [Int.bmod_eq_of_le] <;> omega
  · rw [Int32.lt_iff_toInt_lt, e1]
    show -2 - (i : Int) < 0
    omega
  · have := congrArg Int32.toInt h2
    rw [e1] at this
    have h3 : (-1 : Int32).toInt = -1 := by decide
    rw [h3] at this
    omega
theorem zga_ad {ad bd : Nat → Nat} {sc lc b : Nat} {g : Int32} (hs : sc ≤ 4096) (hl : lc ≤ 1024) (h : zvalid sc lc g) : zga (va_up ad sc b) bd g = zga ad bd g := by
  rcases h with rfl | ⟨j, hj, rfl⟩ | ⟨i, hi, rfl⟩
  · simp [zga]
  · have h0 := nI_pos (n := j) (by omega)
    simp [zga, h0]
  · obtain ⟨e1, e2, e3⟩ := zm2 (i := i) (by omega)
    have e4 : (nI i).toNatClampNeg ≠ sc := by rw [nI_clamp (by omega)]; omega
    simp only [zga, e3, e2, if_true, if_false, e1, va_up_ne _ _ e4]
theorem zga_bd {ad bd : Nat → Nat} {sc lc b : Nat} {g : Int32} (hs : sc ≤ 4096) (hl : lc ≤ 1024) (h : zvalid sc lc g) : zga ad (va_up bd lc b) g = zga ad bd g := by
  rcases h with rfl | ⟨j, hj, rfl⟩ | ⟨i, hi, rfl⟩
  · simp [zga]
  · have h0 := nI_pos (n := j) (by omega)
    have e4 : (nI j).toNatClampNeg ≠ lc := by rw [nI_clamp (by omega)]; omega
    simp only [zga, h0, if_false, va_up_ne _ _ e4]
  · obtain ⟨e1, e2, e3⟩ := zm2 (i := i) (by omega)
    simp only [zga, e3, e2, if_true, if_false]
def zGx (bd : Nat → Nat) (c : Nat → Nat → Nat) (V : Nat → Nat → Int32) (lc q : Nat) (e : va_E) : Nat → Nat × va_E := fun j => if j = lc then (q, e) else (bd j, zlab c V j)
section ZA
variable {D : va_G} {A : Nat → Prop} {H H1 : Heap} {o : Nat × Nat × Nat × Nat} {cs : ClassId × ClassId × ClassId × ClassId} {sc lc : Nat} {fa fb : Nat → Option Nat} {ad bd : Nat → Nat} {c : Nat → Nat → Nat} {gp mo : Nat → Int32} {V : Nat → Nat → Int32} {X : va_W} {F : Nat → Nat × va_E} {q : Nat} {e e1 : va_E}
theorem zx_new (h : zH D A (zB o cs sc lc fa fb ad bd c gp mo V ++ [(q, e)]) H) : zH D A (zw_ws (zX o cs sc lc fa fb (V 5)) sc (fun k => (ad k, zcell c gp mo V ad bd k)) (lc + 1) (zGx bd c V lc q e)) H := by
  unfold zB at h
  rw [zw_pushg (G' := zGx bd c V lc q e) (fun i hi => by simp [zGx, Nat.ne_of_lt hi]) (by simp [zGx])] at h
  exact h
theorem zx_at (hX : X.length = 4) : (zw_ws X sc F (lc + 1) (zGx bd c V lc q e))[4 + sc + lc]? = some (q, e) := by
  have h := zw_g (X := X) (n := sc) (F := F) (k := lc + 1) (G := zGx bd c V lc q e) hX (Nat.lt_succ_self lc)
  rw [h]
  simp [zGx]
theorem zx_set (hX : X.length = 4) (h : zH D A (zw_ws X sc F (lc + 1) (zGx bd c V lc q e)) H) (h1 : zH D (fun x => x = q) [(q, e1)] H1) (hk : ∀ x : Nat, x < H.size → ¬ x = q → H1[x]? = H[x]?) : zH D A (zw_ws X sc F (lc + 1) (zGx bd c V lc q e1)) H1 := by
  have h2 := zone h (zx_at hX) h1 hk
  rw [zw_setg (X' := X) (F' := F) (G' := zGx bd c V lc q e1) hX (Nat.lt_succ_self lc) (by simp [zGx]) (fun i hi hn => by simp [zGx, hn]) (fun _ _ => rfl) rfl] at h2
  exact h2
theorem zb_add {z : Nat → Int32} (hI : zI sc lc c gp) {kd : Nat} {x n : Int32} (hz : z = V 5) (he : e = zcell (zac c sc kd x n) (upd gp sc (-1)) (upd mo sc 0) (zaV V sc) (va_up ad sc q) bd sc) (h : zH D A (zw_ws (zX o cs (sc + 1) lc fa fb z) sc (fun k => (ad k, zcell c gp mo V ad bd k)) (lc + 1) (zGx bd c V lc q e)) H) : zH D A (zB o cs (sc + 1) lc fa fb (va_up ad sc q) bd (zac c sc kd x n) (upd gp sc (-1)) (upd mo sc 0) (zaV V sc)) H := by
  subst hz
  obtain ⟨hs, hl, hk, hj, -⟩ := hI
  rw [← zw_pushg (G := fun j => (bd j, zlab c V j)) (fun i hi => by simp [zGx, Nat.ne_of_lt hi]) (q := (q, e)) (by simp [zGx])] at h
  have e5 : (zaV V sc) 5 = V 5 := by funext i; simp [zaV]
  have e4 : (zaV V sc) 4 = V 4 := by funext i; simp [zaV]
  obtain ⟨h1, h2⟩ := h
  have h3 := zw_pushf (F' := fun k => (va_up ad sc q k, zcell (zac c sc kd x n) (upd gp sc (-1)) (upd mo sc 0) (zaV V sc) (va_up ad sc q) bd k)) (G' := fun j => (bd j, zlab (zac c sc kd x n) (zaV V sc) j)) (fun i hi => ?_) (by rw [he, va_up_self]) (fun i hi => ?_) h1 h2
  · unfold zB
    rw [e5]
    exact h3
  · have hn : i ≠ sc := Nat.ne_of_lt hi
    obtain ⟨-, -, -, -, hv, -⟩ := hk i hi
    simp only [zcell, zac, zaV, upd, hn, false_and, if_false, va_up_ne _ _ hn, zga_ad hs hl hv]
  · simp only [zlab, e4]
    simp [zac]
theorem zb_lab {z : Nat → Int32} (hI : zI sc lc c gp) {x : Int32} (hx0 : ¬ x < 0) (hz : z = V 5) (he : e = .inr (3, [.int x, .int 0, .int (nI sc)])) (h : zH D A (zw_ws (zX o cs sc (lc + 1) fa fb z) sc (fun k => (ad k, zcell c gp mo V ad bd k)) (lc + 1) (zGx bd c V lc q e)) H) : zH D A (zB o cs sc (lc + 1) fa fb ad (va_up bd lc q) (zlc c lc sc x) gp mo (zu V 4 lc 0)) H := by
  subst hz
  obtain ⟨hs, hl, hk, hj, -⟩ := hI
  have e5 : (zu V 4 lc 0) 5 = V 5 := zu_ne (by decide)
  have e : zw_ws (zX o cs sc (lc + 1) fa fb (V 5)) sc (fun k => (ad k, zcell c gp mo V ad bd k)) (lc + 1) (zGx bd c V lc q e) = zB o cs sc (lc + 1) fa fb ad (va_up bd lc q) (zlc c lc sc x) gp mo (zu V 4 lc 0) := by
    unfold zB
    rw [e5]
    refine zw_congr (fun i hi => ?_) (fun i hi => ?_) rfl
    · obtain ⟨-, -, -, -, hv, -⟩ := hk i hi
      rw [zcell_u4 (by decide)]
      simp only [zcell, zga_bd hs hl hv]
      simp [zlc]
    · by_cases hn : i = lc
      · subst hn
        simp only [zGx, if_true, va_up_self, zlab, zu_at, he, zlc, true_and, if_true]
        simp [zclamp hx0]
      · simp only [zGx, hn, if_false, va_up_ne _ _ hn, zlab, zu_no (show ¬ ((4 : Nat) = 4 ∧ i = lc) from fun q => hn q.2), zlc, false_and]
  rw [← e]
  exact h
end ZA
theorem zvalid_s {sc lc : Nat} {g : Int32} (h : zvalid sc lc g) : zvalid (sc + 1) lc g := by
  rcases h with h | ⟨j, hj, h⟩ | ⟨i, hi, h⟩
  · exact Or.inl h
  · exact Or.inr (Or.inl ⟨j, hj, h⟩)
  · exact Or.inr (Or.inr ⟨i, by omega, h⟩)
theorem zvalid_l {sc lc : Nat} {g : Int32} (h : zvalid sc lc g) : zvalid sc (lc + 1) g := by
  rcases h with h | ⟨j, hj, h⟩ | ⟨i, hi, h⟩
  · exact Or.inl h
  · exact Or.inr (Or.inl ⟨j, by omega, h⟩)
  · exact Or.inr (Or.inr ⟨i, hi, h⟩)
theorem zI_add {sc lc : Nat} {c : Nat → Nat → Nat} {gp : Nat → Int32} {kd : Nat} {x n : Int32} (hI : zI sc lc c gp) (hlt : sc < 4096) (hkd : kd ≤ 2) (hx : x.toNatClampNeg < 4) (hn : n.toNatClampNeg ≤ 65536) (hp : kd = 1 → ∃ p, p ≤ 12 ∧ n.toNatClampNeg = 2 ^ p) : zI (sc + 1) lc (zac c sc kd x n) (upd gp sc (-1)) := by
  obtain ⟨hs, hl, hk, hj, hm⟩ := hI
  refine ⟨by omega, hl, fun k hk1 => ?_, fun j hj1 => ?_, fun i j hij hj1 => ?_⟩
  · by_cases hn1 : k = sc
    · subst hn1
      simp only [zac, upd, true_and, if_true]
      exact ⟨hkd, hx, hn, hp, Or.inl rfl, fun _ => trivial⟩
    · obtain ⟨h1, h2, h3, h4, h5, h6⟩ := hk k (by omega)
      simp only [zac, upd, hn1, false_and, if_false]
      exact ⟨h1, h2, h3, h4, zvalid_s h5, h6⟩
  · have := hj j hj1
    simp [zac]
    omega
  · have := hm i j hij hj1
    simpa [zac] using this
theorem zJ_add {sc : Nat} {c : Nat → Nat → Nat} {gp : Nat → Int32} {V : Nat → Nat → Int32} {kd : Nat} {x n : Int32} (h : zJ sc c gp V) : zJ (sc + 1) (zac c sc kd x n) (upd gp sc (-1)) (zaV V sc) := by
  intro k hk
  by_cases hn : k = sc
  · subst hn
    simp [zaV]
  · have := h k (by omega)
    simpa [zaV, upd, hn] using this
theorem zI_lab {sc lc : Nat} {c : Nat → Nat → Nat} {gp : Nat → Int32} {x : Int32} (hI : zI sc lc c gp) (hlt : lc < 1024) (hx : x.toNatClampNeg < 4) : zI sc (lc + 1) (zlc c lc sc x) gp := by
  obtain ⟨hs, hl, hk, hj, hm⟩ := hI
  refine ⟨hs, by omega, fun k hk1 => ?_, fun j hj1 => ?_, fun i j hij hj1 => ?_⟩
  · obtain ⟨h1, h2, h3, h4, h5, h6⟩ := hk k hk1
    simp only [zlc]
    simp only [show ¬ ((0 : Nat) = 3) by decide, show ¬ ((0 : Nat) = 4) by decide, show ¬ ((1 : Nat) = 3) by decide, show ¬ ((1 : Nat) = 4) by decide, show ¬ ((2 : Nat) = 3) by decide, show ¬ ((2 : Nat) = 4) by decide, and_false, if_false]
    exact ⟨h1, h2, h3, h4, zvalid_l h5, h6⟩
  · by_cases hn : j = lc
    · subst hn
      simp [zlc]
      exact hx
    · have := hj j (by omega)
      simpa [zlc, hn] using this
  · by_cases hn : j = lc
    · by_cases hi : i = lc
      · simp [zlc, hn, hi]
      · have := (hj i (by omega)).2
        simp [zlc, hn, hi]
        exact this
    · have hi : i ≠ lc := by omega
      have := hm i j hij (by omega)
      simpa [zlc, hn, hi] using this
theorem zJ_lab {sc lc : Nat} {c : Nat → Nat → Nat} {gp : Nat → Int32} {V : Nat → Nat → Int32} {x : Int32} (h : zJ sc c gp V) : zJ sc (zlc c lc sc x) gp (zu V 4 lc 0) := by
  intro k hk
  have := h k hk
  simpa [zu] using this
end
section
/-- the class's object, by its pure state -/
def zCW (D : va_G) (A : Nat → Prop) (o : Nat × Nat × Nat × Nat) (cs : ClassId × ClassId × ClassId × ClassId) (sc lc : Nat) (c : Nat → Nat → Nat) (gp mo : Nat → Int32) (V : Nat → Nat → Int32) (H : Heap) : Prop := ∃ (fa fb : Nat → Option Nat) (ad bd : Nat → Nat), (∀ k, k < sc → fa k = some (ad k)) ∧ (∀ j, j < lc → fb j = some (bd j)) ∧ zH D A (zB o cs sc lc fa fb ad bd c gp mo V) H
/-- what is asked of a new statement -/
def zgd (kd : Nat) (x n : Int32) : Prop := zsec x = true ∧ ((kd = 0 ∧ ¬ n < 0 ∧ ¬ 65536 < n) ∨ (kd = 1 ∧ zisal n = true) ∨ (kd = 2 ∧ (n = 5 ∨ n = 6)))
/-- a new statement's answer and state: W old or new -/
def zadd (kd sc : Nat) (x n : Int32) (Wo Wn : Heap → Prop) (r : Int32) (H : Heap) : Prop := (zgd kd x n ∧ sc < 4096 ∧ r = nI sc ∧ Wn H) ∨ (¬ (zgd kd x n ∧ sc < 4096) ∧ r = -1 ∧ Wo H)
theorem zsec_pos {x : Int32} (h : zsec x = true) : ¬ x < 0 := (of_decide_eq_true h).1
theorem zx_cut {D : va_G} {A : Nat → Prop} {H : Heap} {X : va_W} {n k : Nat} {F : Nat → Nat × va_E} {bd : Nat → Nat} {c : Nat → Nat → Nat} {V : Nat → Nat → Int32} {q : Nat} {e : va_E} (h : zH D A (zw_ws X n F (k + 1) (zGx bd c V k q e)) H) : zH D A (zw_ws X n F k (fun j => (bd j, zlab c V j))) H := by
  rw [← zw_pushg (G := fun j => (bd j, zlab c V j)) (fun i hi => by simp [zGx, Nat.ne_of_lt hi]) (q := (q, e)) (by simp [zGx])] at h
  have hg : ∀ (i : Nat) (q2 : Nat × va_E), (zw_ws X n F k (fun j => (bd j, zlab c V j)))[i]? = some q2 → (zw_ws X n F k (fun j => (bd j, zlab c V j)) ++ [(q, e)])[i]? = some q2 := fun i q2 h2 => by
    rw [List.getElem?_append_left (List.getElem?_eq_some_iff.mp h2).1]
    exact h2
  exact ⟨h.1.by id hg, h.2.by id hg (fun i j _ _ h => h)⟩
set_option maxHeartbeats 4000000 in
set_option maxRecDepth 100000 in
theorem t_BL_bytes (l : Launch) (D : va_G) (cs : ClassId × ClassId × ClassId × ClassId) (A : Nat → Prop) (o : Nat × Nat × Nat × Nat) (sc lc : Nat) (c : Nat → Nat → Nat) (gp mo : Nat → Int32) (V : Nat → Nat → Int32) (hI : zI sc lc c gp) (x n : Int32) : zMet l D cs y_BL_bytes c_BL_bytes 3 (some FieldType.int) ({ frames := 4, cells := 1, slots := 4, locals := 76 } : Room) [.ref o.1, .int x, .int n] (fun H => zCW D A o cs sc lc c gp mo V H ∧ ∀ q, H.size ≤ q → A q) A (zqi (zadd 0 sc x n (zCW D A o cs sc lc c gp mo V) (zCW D A o cs (sc + 1) lc (zac c sc 0 x n) (upd gp sc (-1)) (upd mo sc 0) (zaV V sc)))) := by
  refine zmk (by decide) (Nat.le_of_ble_eq_true rfl) ?_
  intro p e s m below meth cd ls E hK hP0 hl
  have hS : va_S A s.heap s.heap [] := va_S.rf
  obtain ⟨hW, hA⟩ := hP0
  obtain ⟨fa, fb, ad, bd, hfa, hfb, hP, hD⟩ := id hW
  obtain ⟨hx, hb, hr, hts, hown, hlocks, hml, hin⟩ := id E
  have hl : lv_has ls 3 [(0, .ref o.1), (1, .int x), (2, .int n)] := hl
  refine lv_iload_n hx hb d_BL_bytes_0 rfl (lv_at hl 1 rfl) ?_
  refine zcS [.int x] [] E (t_BL_isSection l D cs x s.heap) d_BL_bytes_1 w_51 w_52 w_1 w_53 ⟨by decide +kernel, by decide +kernel, (by decide +kernel : Option.map (fun d => d.parameters.length) (parseMethodDescriptor "(I)Z") = some 1)⟩ ⟨(Nat.le_of_ble_eq_true rfl), (Nat.le_of_ble_eq_true rfl)⟩ ⟨(Nat.le_of_ble_eq_true rfl), (Nat.le_of_ble_eq_true rfl)⟩ rfl (Nat.le_of_ble_eq_true rfl) hl.1 hK rfl hS (fun _ h => h.elim) (zki fun r H locs hq _ _ hS => ?_)
  obtain ⟨rfl, rfl⟩ := hq
  refine lv_if_eq (tgt := 17) hx hb d_BL_bytes_4 (by decide) (fun c_25 => ?_) (fun c_25 => ?_)
  · skip
    have hsec : zsec x = false := by cases hz : zsec x with | false => rfl | true => simp [hz] at c_25
    refine lv_iconst (v := (-1)) hx hb d_BL_bytes_17 (by decide) ?_
    refine zri E d_BL_bytes_18 hS (Nat.le_of_ble_eq_true rfl) (Nat.le_of_ble_eq_true rfl) ?_
    exact ⟨_, rfl, Or.inr ⟨fun q => (by have q1 := q.1.1; rw [hsec] at q1; exact Bool.noConfusion q1), rfl, hW⟩⟩
  · skip
    have hsec : zsec x = true := by cases hz : zsec x with | true => rfl | false => simp [hz] at c_25
    have hx0 := zsec_pos hsec
    refine lv_iload_n hx hb d_BL_bytes_7 rfl (lv_at hl 2 rfl) ?_
    refine lv_if_lt (tgt := 17) hx hb d_BL_bytes_8 (by decide) (fun c_26 => ?_) (fun c_26 => ?_)
    · skip
      refine lv_iconst (v := (-1)) hx hb d_BL_bytes_17 (by decide) ?_
      refine zri E d_BL_bytes_18 hS (Nat.le_of_ble_eq_true rfl) (Nat.le_of_ble_eq_true rfl) ?_
      refine ⟨_, rfl, Or.inr ⟨fun q => ?_, rfl, hW⟩⟩
      obtain ⟨⟨-, q⟩, -⟩ := q
      rcases q with ⟨-, q1, q2⟩ | ⟨q1, -⟩ | ⟨q1, -⟩
      · exact q1 c_26
      · exact absurd q1 (by decide)
      · exact absurd q1 (by decide)
    · skip
      refine lv_iload_n hx hb d_BL_bytes_11 rfl (lv_at hl 2 rfl) ?_
      refine lv_ldc (v := 65536) hx hb hown (hts _ w_54) d_BL_bytes_12 ?_
      refine lv_icmp_le (tgt := 19) hx hb d_BL_bytes_14 (by decide) (fun c_27 => ?_) (fun c_27 => ?_)
      · skip
        have hgd : zgd 0 x n := ⟨hsec, Or.inl ⟨rfl, c_26, Int32.not_lt.mpr c_27⟩⟩
        have hn0 : ¬ n < 0 := c_26
        refine lv_aload_n hx hb d_BL_bytes_19 rfl (lv_at hl 0 rfl) ?_
        refine va_new (ci := 2) (fs := [.int 0, .int 0, .int 0, .int 0]) (C := "BranchLayout$Bytes") (T := T_By) (N := 4) hx hb hts in_By ty_By ok_By hown (hts _ w_55) (hts _ w_56) (hts _ w_6) hK.1 hP hD hS hA rfl (fun j hj => by rcases (show j = 0 ∨ j = 1 ∨ j = 2 ∨ j = 3 by omega) with rfl | rfl | rfl | rfl <;> rfl) (Nat.le_of_ble_eq_true rfl) (Nat.le_of_ble_eq_true rfl) d_BL_bytes_20 (fun q H hP hD hS => ?_)
        have hw := zx_new ⟨hP, hD⟩
        have hAq : A q := hw.2.2 _ _ (zx_at rfl)
        refine lv_dup hx hb d_BL_bytes_23 rfl ?_
        refine lv_iload_n hx hb d_BL_bytes_24 rfl (lv_at hl 1 rfl) ?_
        refine lv_iload_n hx hb d_BL_bytes_25 rfl (lv_at hl 2 rfl) ?_
        refine zcI [.int x, .int n] [.ref q, .ref o.1] E (t_By_init l D cs q x n) d_BL_bytes_26 w_57 w_58 w_6 w_59 rfl ⟨by decide +kernel, by decide +kernel, (by decide +kernel : Option.map (fun d => d.parameters.length) (parseMethodDescriptor "(II)V") = some 2)⟩ ⟨(Nat.le_of_ble_eq_true rfl), (Nat.le_of_ble_eq_true rfl)⟩ ⟨(Nat.le_of_ble_eq_true rfl), (Nat.le_of_ble_eq_true rfl)⟩ rfl (Nat.le_of_ble_eq_true rfl) hl.1 hK (zat hw (zx_at rfl)) hS (fun q2 h => by rw [h]; exact hAq) (zkv fun H1 locs hq _ hk hS => ?_)
        have hw := zx_set rfl hw hq hk
        refine zcV [.ref q] [] E (t_BL_addStatement l D cs A o sc lc fa fb (V 5) sc (lc + 1) lc q 2 (fun k => (ad k, zcell c gp mo V ad bd k)) _ _ _ hI.1 (Nat.lt_succ_self lc) (by simp [zGx]; rfl) rfl (fun U h => h.2.2.2.2.2.2.2.1)) d_BL_bytes_29 w_97 w_99 ws_BL_addStatement w_1 w_100 ⟨rfl, by decide +kernel, by decide +kernel, (by decide +kernel : Option.map (fun d => d.parameters.length) (parseMethodDescriptor "(LBranchLayout$Statement;)I") = some 1)⟩ ⟨(Nat.le_of_ble_eq_true rfl), (Nat.le_of_ble_eq_true rfl)⟩ ⟨(Nat.le_of_ble_eq_true rfl), (Nat.le_of_ble_eq_true rfl)⟩ rfl (Nat.le_of_ble_eq_true rfl) hl.1 (va_recv hK.1 hw.1 (ci := 4) (q0 := 0) rfl (zw_x rfl)) hK hw hS (fun _ h => h) (zki fun r H2 locs hq _ _ hS => ?_)
        refine zri E d_BL_bytes_32 hS (Nat.le_of_ble_eq_true rfl) (Nat.le_of_ble_eq_true rfl) ?_
        refine ⟨_, rfl, ?_⟩
        rcases hq with ⟨h1, h2, h3⟩ | ⟨h1, h2, h3⟩
        · refine Or.inl ⟨hgd, h1, h2, va_up fa sc (some q), fb, va_up ad sc q, bd, fun k hk => ?_, hfb, zb_add hI rfl ?_ h3⟩
          · by_cases hks : k = sc
            · subst hks; rw [va_up_self, va_up_self]
            · rw [va_up_ne _ _ hks, va_up_ne _ _ hks]; exact hfa k (by omega)
          · simp only [zcell, zac, zaV, upd, true_and, if_true, show ¬ ((0 : Nat) = 2) by decide, show ¬ ((0 : Nat) = 1) by decide, show ¬ ((1 : Nat) = 2) by decide, show ¬ ((1 : Nat) = 0) by decide, show ¬ ((2 : Nat) = 0) by decide, show ¬ ((2 : Nat) = 1) by decide, show (0 : Nat) < 4 by decide, show (1 : Nat) < 4 by decide, show (2 : Nat) < 4 by decide, show (3 : Nat) < 4 by decide, if_false, zclamp hx0, zclamp hn0, zga]
            try rfl
        · refine Or.inr ⟨fun q => h1 q.2, h2, fa, fb, ad, bd, hfa, hfb, ?_⟩
          exact zx_cut h3
      · skip
        refine lv_iconst (v := (-1)) hx hb d_BL_bytes_17 (by decide) ?_
        refine zri E d_BL_bytes_18 hS (Nat.le_of_ble_eq_true rfl) (Nat.le_of_ble_eq_true rfl) ?_
        refine ⟨_, rfl, Or.inr ⟨fun q => ?_, rfl, hW⟩⟩
        obtain ⟨⟨-, q⟩, -⟩ := q
        rcases q with ⟨-, q1, q2⟩ | ⟨q1, -⟩ | ⟨q1, -⟩
        · exact q2 (Int32.not_le.mp c_27)
        · exact absurd q1 (by decide)
        · exact absurd q1 (by decide)
set_option maxHeartbeats 4000000 in
set_option maxRecDepth 100000 in
theorem t_BL_align (l : Launch) (D : va_G) (cs : ClassId × ClassId × ClassId × ClassId) (A : Nat → Prop) (o : Nat × Nat × Nat × Nat) (sc lc : Nat) (c : Nat → Nat → Nat) (gp mo : Nat → Int32) (V : Nat → Nat → Int32) (hI : zI sc lc c gp) (x n : Int32) : zMet l D cs y_BL_align c_BL_align 3 (some FieldType.int) ({ frames := 4, cells := 1, slots := 4, locals := 76 } : Room) [.ref o.1, .int x, .int n] (fun H => zCW D A o cs sc lc c gp mo V H ∧ ∀ q, H.size ≤ q → A q) A (zqi (zadd 1 sc x n (zCW D A o cs sc lc c gp mo V) (zCW D A o cs (sc + 1) lc (zac c sc 1 x n) (upd gp sc (-1)) (upd mo sc 0) (zaV V sc)))) := by
  refine zmk (by decide) (Nat.le_of_ble_eq_true rfl) ?_
  intro p e s m below meth cd ls E hK hP0 hl
  have hS : va_S A s.heap s.heap [] := va_S.rf
  obtain ⟨hW, hA⟩ := hP0
  obtain ⟨fa, fb, ad, bd, hfa, hfb, hP, hD⟩ := id hW
  obtain ⟨hx, hb, hr, hts, hown, hlocks, hml, hin⟩ := id E
  have hl : lv_has ls 3 [(0, .ref o.1), (1, .int x), (2, .int n)] := hl
  refine lv_iload_n hx hb d_BL_align_0 rfl (lv_at hl 1 rfl) ?_
  refine zcS [.int x] [] E (t_BL_isSection l D cs x s.heap) d_BL_align_1 w_51 w_52 w_1 w_53 ⟨by decide +kernel, by decide +kernel, (by decide +kernel : Option.map (fun d => d.parameters.length) (parseMethodDescriptor "(I)Z") = some 1)⟩ ⟨(Nat.le_of_ble_eq_true rfl), (Nat.le_of_ble_eq_true rfl)⟩ ⟨(Nat.le_of_ble_eq_true rfl), (Nat.le_of_ble_eq_true rfl)⟩ rfl (Nat.le_of_ble_eq_true rfl) hl.1 hK rfl hS (fun _ h => h.elim) (zki fun r H locs hq _ _ hS => ?_)
  obtain ⟨rfl, rfl⟩ := hq
  refine lv_if_eq (tgt := 14) hx hb d_BL_align_4 (by decide) (fun c_28 => ?_) (fun c_28 => ?_)
  · skip
    have hsec : zsec x = false := by cases hz : zsec x with | false => rfl | true => simp [hz] at c_28
    refine lv_iconst (v := (-1)) hx hb d_BL_align_14 (by decide) ?_
    refine zri E d_BL_align_15 hS (Nat.le_of_ble_eq_true rfl) (Nat.le_of_ble_eq_true rfl) ?_
    exact ⟨_, rfl, Or.inr ⟨fun q => (by have q1 := q.1.1; rw [hsec] at q1; exact Bool.noConfusion q1), rfl, hW⟩⟩
  · skip
    have hsec : zsec x = true := by cases hz : zsec x with | true => rfl | false => simp [hz] at c_28
    have hx0 := zsec_pos hsec
    refine lv_iload_n hx hb d_BL_align_7 rfl (lv_at hl 2 rfl) ?_
    refine zcS [.int n] [] E (t_BL_isAlignment l D cs n s.heap) d_BL_align_8 w_105 w_106 w_1 w_107 ⟨by decide +kernel, by decide +kernel, (by decide +kernel : Option.map (fun d => d.parameters.length) (parseMethodDescriptor "(I)Z") = some 1)⟩ ⟨(Nat.le_of_ble_eq_true rfl), (Nat.le_of_ble_eq_true rfl)⟩ ⟨(Nat.le_of_ble_eq_true rfl), (Nat.le_of_ble_eq_true rfl)⟩ rfl (Nat.le_of_ble_eq_true rfl) hl.1 hK rfl hS (fun _ h => h.elim) (zki fun r H locs hq _ _ hS => ?_)
    obtain ⟨rfl, rfl⟩ := hq
    refine lv_if_ne (tgt := 16) hx hb d_BL_align_11 (by decide) (fun c_29 => ?_) (fun c_29 => ?_)
    · skip
      have hal : zisal n = true := by cases hz : zisal n with | true => rfl | false => simp [hz] at c_29
      have hgd : zgd 1 x n := ⟨hsec, Or.inr (Or.inl ⟨rfl, hal⟩)⟩
      have hn0 : ¬ n < 0 := fun q => (of_decide_eq_true hal).1 (Int32.lt_trans q (by decide))
      refine lv_aload_n hx hb d_BL_align_16 rfl (lv_at hl 0 rfl) ?_
      refine va_new (ci := 0) (fs := [.int 0, .int 0, .int 0, .int 0]) (C := "BranchLayout$Alignment") (T := T_Al) (N := 4) hx hb hts in_Al ty_Al ok_Al hown (hts _ w_114) (hts _ w_115) (hts _ w_8) hK.1 hP hD hS hA rfl (fun j hj => by rcases (show j = 0 ∨ j = 1 ∨ j = 2 ∨ j = 3 by omega) with rfl | rfl | rfl | rfl <;> rfl) (Nat.le_of_ble_eq_true rfl) (Nat.le_of_ble_eq_true rfl) d_BL_align_17 (fun q H hP hD hS => ?_)
      have hw := zx_new ⟨hP, hD⟩
      have hAq : A q := hw.2.2 _ _ (zx_at rfl)
      refine lv_dup hx hb d_BL_align_20 rfl ?_
      refine lv_iload_n hx hb d_BL_align_21 rfl (lv_at hl 1 rfl) ?_
      refine lv_iload_n hx hb d_BL_align_22 rfl (lv_at hl 2 rfl) ?_
      refine zcI [.int x, .int n] [.ref q, .ref o.1] E (t_Al_init l D cs q x n) d_BL_align_23 w_116 w_117 w_8 w_118 rfl ⟨by decide +kernel, by decide +kernel, (by decide +kernel : Option.map (fun d => d.parameters.length) (parseMethodDescriptor "(II)V") = some 2)⟩ ⟨(Nat.le_of_ble_eq_true rfl), (Nat.le_of_ble_eq_true rfl)⟩ ⟨(Nat.le_of_ble_eq_true rfl), (Nat.le_of_ble_eq_true rfl)⟩ rfl (Nat.le_of_ble_eq_true rfl) hl.1 hK (zat hw (zx_at rfl)) hS (fun q2 h => by rw [h]; exact hAq) (zkv fun H1 locs hq _ hk hS => ?_)
      have hw := zx_set rfl hw hq hk
      refine zcV [.ref q] [] E (t_BL_addStatement l D cs A o sc lc fa fb (V 5) sc (lc + 1) lc q 0 (fun k => (ad k, zcell c gp mo V ad bd k)) _ _ _ hI.1 (Nat.lt_succ_self lc) (by simp [zGx]; rfl) rfl (fun U h => h.2.2.2.2.2.1)) d_BL_align_26 w_97 w_99 ws_BL_addStatement w_1 w_100 ⟨rfl, by decide +kernel, by decide +kernel, (by decide +kernel : Option.map (fun d => d.parameters.length) (parseMethodDescriptor "(LBranchLayout$Statement;)I") = some 1)⟩ ⟨(Nat.le_of_ble_eq_true rfl), (Nat.le_of_ble_eq_true rfl)⟩ ⟨(Nat.le_of_ble_eq_true rfl), (Nat.le_of_ble_eq_true rfl)⟩ rfl (Nat.le_of_ble_eq_true rfl) hl.1 (va_recv hK.1 hw.1 (ci := 4) (q0 := 0) rfl (zw_x rfl)) hK hw hS (fun _ h => h) (zki fun r H2 locs hq _ _ hS => ?_)
      refine zri E d_BL_align_29 hS (Nat.le_of_ble_eq_true rfl) (Nat.le_of_ble_eq_true rfl) ?_
      refine ⟨_, rfl, ?_⟩
      rcases hq with ⟨h1, h2, h3⟩ | ⟨h1, h2, h3⟩
      · refine Or.inl ⟨hgd, h1, h2, va_up fa sc (some q), fb, va_up ad sc q, bd, fun k hk => ?_, hfb, zb_add hI rfl ?_ h3⟩
        · by_cases hks : k = sc
          · subst hks; rw [va_up_self, va_up_self]
          · rw [va_up_ne _ _ hks, va_up_ne _ _ hks]; exact hfa k (by omega)
        · simp only [zcell, zac, zaV, upd, true_and, if_true, show ¬ ((0 : Nat) = 2) by decide, show ¬ ((0 : Nat) = 1) by decide, show ¬ ((1 : Nat) = 2) by decide, show ¬ ((1 : Nat) = 0) by decide, show ¬ ((2 : Nat) = 0) by decide, show ¬ ((2 : Nat) = 1) by decide, show (0 : Nat) < 4 by decide, show (1 : Nat) < 4 by decide, show (2 : Nat) < 4 by decide, show (3 : Nat) < 4 by decide, if_false, zclamp hx0, zclamp hn0, zga]
          try rfl
      · refine Or.inr ⟨fun q => h1 q.2, h2, fa, fb, ad, bd, hfa, hfb, ?_⟩
        exact zx_cut h3
    · skip
      have hal : zisal n = false := by cases hz : zisal n with | false => rfl | true => simp [hz] at c_29
      refine lv_iconst (v := (-1)) hx hb d_BL_align_14 (by decide) ?_
      refine zri E d_BL_align_15 hS (Nat.le_of_ble_eq_true rfl) (Nat.le_of_ble_eq_true rfl) ?_
      refine ⟨_, rfl, Or.inr ⟨fun q => ?_, rfl, hW⟩⟩
      obtain ⟨⟨-, q⟩, -⟩ := q
      rcases q with ⟨q1, -⟩ | ⟨-, q1⟩ | ⟨q1, -⟩
      · exact absurd q1 (by decide)
      · rw [hal] at q1; exact Bool.noConfusion q1
      · exact absurd q1 (by decide)
set_option maxHeartbeats 4000000 in
set_option maxRecDepth 100000 in
theorem t_BL_branch (l : Launch) (D : va_G) (cs : ClassId × ClassId × ClassId × ClassId) (A : Nat → Prop) (o : Nat × Nat × Nat × Nat) (sc lc : Nat) (c : Nat → Nat → Nat) (gp mo : Nat → Int32) (V : Nat → Nat → Int32) (hI : zI sc lc c gp) (x n : Int32) : zMet l D cs y_BL_branch c_BL_branch 3 (some FieldType.int) ({ frames := 4, cells := 1, slots := 8, locals := 76 } : Room) [.ref o.1, .int x, .int n] (fun H => zCW D A o cs sc lc c gp mo V H ∧ ∀ q, H.size ≤ q → A q) A (zqi (zadd 2 sc x n (zCW D A o cs sc lc c gp mo V) (zCW D A o cs (sc + 1) lc (zac c sc 2 x n) (upd gp sc (-1)) (upd mo sc 0) (zaV V sc)))) := by
  refine zmk (by decide) (Nat.le_of_ble_eq_true rfl) ?_
  intro p e s m below meth cd ls E hK hP0 hl
  have hS : va_S A s.heap s.heap [] := va_S.rf
  obtain ⟨hW, hA⟩ := hP0
  obtain ⟨fa, fb, ad, bd, hfa, hfb, hP, hD⟩ := id hW
  obtain ⟨hx, hb, hr, hts, hown, hlocks, hml, hin⟩ := id E
  have hl : lv_has ls 3 [(0, .ref o.1), (1, .int x), (2, .int n)] := hl
  refine lv_iload_n hx hb d_BL_branch_0 rfl (lv_at hl 1 rfl) ?_
  refine zcS [.int x] [] E (t_BL_isSection l D cs x s.heap) d_BL_branch_1 w_51 w_52 w_1 w_53 ⟨by decide +kernel, by decide +kernel, (by decide +kernel : Option.map (fun d => d.parameters.length) (parseMethodDescriptor "(I)Z") = some 1)⟩ ⟨(Nat.le_of_ble_eq_true rfl), (Nat.le_of_ble_eq_true rfl)⟩ ⟨(Nat.le_of_ble_eq_true rfl), (Nat.le_of_ble_eq_true rfl)⟩ rfl (Nat.le_of_ble_eq_true rfl) hl.1 hK rfl hS (fun _ h => h.elim) (zki fun r H locs hq _ _ hS => ?_)
  obtain ⟨rfl, rfl⟩ := hq
  refine lv_if_eq (tgt := 18) hx hb d_BL_branch_4 (by decide) (fun c_30 => ?_) (fun c_30 => ?_)
  · skip
    have hsec : zsec x = false := by cases hz : zsec x with | false => rfl | true => simp [hz] at c_30
    refine lv_iconst (v := (-1)) hx hb d_BL_branch_18 (by decide) ?_
    refine zri E d_BL_branch_19 hS (Nat.le_of_ble_eq_true rfl) (Nat.le_of_ble_eq_true rfl) ?_
    exact ⟨_, rfl, Or.inr ⟨fun q => (by have q1 := q.1.1; rw [hsec] at q1; exact Bool.noConfusion q1), rfl, hW⟩⟩
  · skip
    have hsec : zsec x = true := by cases hz : zsec x with | true => rfl | false => simp [hz] at c_30
    have hx0 := zsec_pos hsec
    refine lv_iload_n hx hb d_BL_branch_7 rfl (lv_at hl 2 rfl) ?_
    refine lv_iconst (v := 5) hx hb d_BL_branch_8 (by decide) ?_
    refine lv_icmp_eq (tgt := 20) hx hb d_BL_branch_9 (by decide) (fun c_31 => ?_) (fun c_31 => ?_)
    · skip
      have hgd : zgd 2 x n := ⟨hsec, Or.inr (Or.inr ⟨rfl, Or.inl c_31⟩)⟩
      have hn0 : ¬ n < 0 := by rw [c_31]; decide
      refine lv_aload_n hx hb d_BL_branch_20 rfl (lv_at hl 0 rfl) ?_
      refine va_new (ci := 1) (fs := [.int 0, .int 0, .int 0, .int 0, .null, .int 0, .int 0, .int 0]) (C := "BranchLayout$Branch") (T := T_Br) (N := 8) hx hb hts in_Br ty_Br ok_Br hown (hts _ w_131) (hts _ w_132) (hts _ w_9) hK.1 hP hD hS hA rfl (fun j hj => by rcases (show j = 0 ∨ j = 1 ∨ j = 2 ∨ j = 3 ∨ j = 4 ∨ j = 5 ∨ j = 6 ∨ j = 7 by omega) with rfl | rfl | rfl | rfl | rfl | rfl | rfl | rfl <;> rfl) (Nat.le_of_ble_eq_true rfl) (Nat.le_of_ble_eq_true rfl) d_BL_branch_21 (fun q H hP hD hS => ?_)
      have hw := zx_new ⟨hP, hD⟩
      have hAq : A q := hw.2.2 _ _ (zx_at rfl)
      refine lv_dup hx hb d_BL_branch_24 rfl ?_
      refine lv_iload_n hx hb d_BL_branch_25 rfl (lv_at hl 1 rfl) ?_
      refine lv_iload_n hx hb d_BL_branch_26 rfl (lv_at hl 2 rfl) ?_
      refine zcI [.int x, .int n] [.ref q, .ref o.1] E (t_Br_init l D cs q x n) d_BL_branch_27 w_133 w_134 w_9 w_135 rfl ⟨by decide +kernel, by decide +kernel, (by decide +kernel : Option.map (fun d => d.parameters.length) (parseMethodDescriptor "(II)V") = some 2)⟩ ⟨(Nat.le_of_ble_eq_true rfl), (Nat.le_of_ble_eq_true rfl)⟩ ⟨(Nat.le_of_ble_eq_true rfl), (Nat.le_of_ble_eq_true rfl)⟩ rfl (Nat.le_of_ble_eq_true rfl) hl.1 hK (zat hw (zx_at rfl)) hS (fun q2 h => by rw [h]; exact hAq) (zkv fun H1 locs hq _ hk hS => ?_)
      have hw := zx_set rfl hw hq hk
      refine zcV [.ref q] [] E (t_BL_addStatement l D cs A o sc lc fa fb (V 5) sc (lc + 1) lc q 1 (fun k => (ad k, zcell c gp mo V ad bd k)) _ _ _ hI.1 (Nat.lt_succ_self lc) (by simp [zGx]; rfl) rfl (fun U h => h.2.2.2.2.2.2.1)) d_BL_branch_30 w_97 w_99 ws_BL_addStatement w_1 w_100 ⟨rfl, by decide +kernel, by decide +kernel, (by decide +kernel : Option.map (fun d => d.parameters.length) (parseMethodDescriptor "(LBranchLayout$Statement;)I") = some 1)⟩ ⟨(Nat.le_of_ble_eq_true rfl), (Nat.le_of_ble_eq_true rfl)⟩ ⟨(Nat.le_of_ble_eq_true rfl), (Nat.le_of_ble_eq_true rfl)⟩ rfl (Nat.le_of_ble_eq_true rfl) hl.1 (va_recv hK.1 hw.1 (ci := 4) (q0 := 0) rfl (zw_x rfl)) hK hw hS (fun _ h => h) (zki fun r H2 locs hq _ _ hS => ?_)
      refine zri E d_BL_branch_33 hS (Nat.le_of_ble_eq_true rfl) (Nat.le_of_ble_eq_true rfl) ?_
      refine ⟨_, rfl, ?_⟩
      rcases hq with ⟨h1, h2, h3⟩ | ⟨h1, h2, h3⟩
      · refine Or.inl ⟨hgd, h1, h2, va_up fa sc (some q), fb, va_up ad sc q, bd, fun k hk => ?_, hfb, zb_add hI rfl ?_ h3⟩
        · by_cases hks : k = sc
          · subst hks; rw [va_up_self, va_up_self]
          · rw [va_up_ne _ _ hks, va_up_ne _ _ hks]; exact hfa k (by omega)
        · simp only [zcell, zac, zaV, upd, true_and, if_true, show ¬ ((0 : Nat) = 2) by decide, show ¬ ((0 : Nat) = 1) by decide, show ¬ ((1 : Nat) = 2) by decide, show ¬ ((1 : Nat) = 0) by decide, show ¬ ((2 : Nat) = 0) by decide, show ¬ ((2 : Nat) = 1) by decide, show (0 : Nat) < 4 by decide, show (1 : Nat) < 4 by decide, show (2 : Nat) < 4 by decide, show (3 : Nat) < 4 by decide, if_false, zclamp hx0, zclamp hn0, zga]
          try rfl
      · refine Or.inr ⟨fun q => h1 q.2, h2, fa, fb, ad, bd, hfa, hfb, ?_⟩
        exact zx_cut h3
    · skip
      refine lv_iload_n hx hb d_BL_branch_12 rfl (lv_at hl 2 rfl) ?_
      refine lv_bipush (v := 6) hx hb d_BL_branch_13 (by decide) ?_
      refine lv_icmp_eq (tgt := 20) hx hb d_BL_branch_15 (by decide) (fun c_32 => ?_) (fun c_32 => ?_)
      · skip
        have hgd : zgd 2 x n := ⟨hsec, Or.inr (Or.inr ⟨rfl, Or.inr c_32⟩)⟩
        have hn0 : ¬ n < 0 := by rw [c_32]; decide
        refine lv_aload_n hx hb d_BL_branch_20 rfl (lv_at hl 0 rfl) ?_
        refine va_new (ci := 1) (fs := [.int 0, .int 0, .int 0, .int 0, .null, .int 0, .int 0, .int 0]) (C := "BranchLayout$Branch") (T := T_Br) (N := 8) hx hb hts in_Br ty_Br ok_Br hown (hts _ w_131) (hts _ w_132) (hts _ w_9) hK.1 hP hD hS hA rfl (fun j hj => by rcases (show j = 0 ∨ j = 1 ∨ j = 2 ∨ j = 3 ∨ j = 4 ∨ j = 5 ∨ j = 6 ∨ j = 7 by omega) with rfl | rfl | rfl | rfl | rfl | rfl | rfl | rfl <;> rfl) (Nat.le_of_ble_eq_true rfl) (Nat.le_of_ble_eq_true rfl) d_BL_branch_21 (fun q H hP hD hS => ?_)
        have hw := zx_new ⟨hP, hD⟩
        have hAq : A q := hw.2.2 _ _ (zx_at rfl)
        refine lv_dup hx hb d_BL_branch_24 rfl ?_
        refine lv_iload_n hx hb d_BL_branch_25 rfl (lv_at hl 1 rfl) ?_
        refine lv_iload_n hx hb d_BL_branch_26 rfl (lv_at hl 2 rfl) ?_
        refine zcI [.int x, .int n] [.ref q, .ref o.1] E (t_Br_init l D cs q x n) d_BL_branch_27 w_133 w_134 w_9 w_135 rfl ⟨by decide +kernel, by decide +kernel, (by decide +kernel : Option.map (fun d => d.parameters.length) (parseMethodDescriptor "(II)V") = some 2)⟩ ⟨(Nat.le_of_ble_eq_true rfl), (Nat.le_of_ble_eq_true rfl)⟩ ⟨(Nat.le_of_ble_eq_true rfl), (Nat.le_of_ble_eq_true rfl)⟩ rfl (Nat.le_of_ble_eq_true rfl) hl.1 hK (zat hw (zx_at rfl)) hS (fun q2 h => by rw [h]; exact hAq) (zkv fun H1 locs hq _ hk hS => ?_)
        have hw := zx_set rfl hw hq hk
        refine zcV [.ref q] [] E (t_BL_addStatement l D cs A o sc lc fa fb (V 5) sc (lc + 1) lc q 1 (fun k => (ad k, zcell c gp mo V ad bd k)) _ _ _ hI.1 (Nat.lt_succ_self lc) (by simp [zGx]; rfl) rfl (fun U h => h.2.2.2.2.2.2.1)) d_BL_branch_30 w_97 w_99 ws_BL_addStatement w_1 w_100 ⟨rfl, by decide +kernel, by decide +kernel, (by decide +kernel : Option.map (fun d => d.parameters.length) (parseMethodDescriptor "(LBranchLayout$Statement;)I") = some 1)⟩ ⟨(Nat.le_of_ble_eq_true rfl), (Nat.le_of_ble_eq_true rfl)⟩ ⟨(Nat.le_of_ble_eq_true rfl), (Nat.le_of_ble_eq_true rfl)⟩ rfl (Nat.le_of_ble_eq_true rfl) hl.1 (va_recv hK.1 hw.1 (ci := 4) (q0 := 0) rfl (zw_x rfl)) hK hw hS (fun _ h => h) (zki fun r H2 locs hq _ _ hS => ?_)
        refine zri E d_BL_branch_33 hS (Nat.le_of_ble_eq_true rfl) (Nat.le_of_ble_eq_true rfl) ?_
        refine ⟨_, rfl, ?_⟩
        rcases hq with ⟨h1, h2, h3⟩ | ⟨h1, h2, h3⟩
        · refine Or.inl ⟨hgd, h1, h2, va_up fa sc (some q), fb, va_up ad sc q, bd, fun k hk => ?_, hfb, zb_add hI rfl ?_ h3⟩
          · by_cases hks : k = sc
            · subst hks; rw [va_up_self, va_up_self]
            · rw [va_up_ne _ _ hks, va_up_ne _ _ hks]; exact hfa k (by omega)
          · simp only [zcell, zac, zaV, upd, true_and, if_true, show ¬ ((0 : Nat) = 2) by decide, show ¬ ((0 : Nat) = 1) by decide, show ¬ ((1 : Nat) = 2) by decide, show ¬ ((1 : Nat) = 0) by decide, show ¬ ((2 : Nat) = 0) by decide, show ¬ ((2 : Nat) = 1) by decide, show (0 : Nat) < 4 by decide, show (1 : Nat) < 4 by decide, show (2 : Nat) < 4 by decide, show (3 : Nat) < 4 by decide, if_false, zclamp hx0, zclamp hn0, zga]
            try rfl
        · refine Or.inr ⟨fun q => h1 q.2, h2, fa, fb, ad, bd, hfa, hfb, ?_⟩
          exact zx_cut h3
      · skip
        refine lv_iconst (v := (-1)) hx hb d_BL_branch_18 (by decide) ?_
        refine zri E d_BL_branch_19 hS (Nat.le_of_ble_eq_true rfl) (Nat.le_of_ble_eq_true rfl) ?_
        refine ⟨_, rfl, Or.inr ⟨fun q => ?_, rfl, hW⟩⟩
        obtain ⟨⟨-, q⟩, -⟩ := q
        rcases q with ⟨q1, -⟩ | ⟨q1, -⟩ | ⟨-, q1 | q1⟩
        · exact absurd q1 (by decide)
        · exact absurd q1 (by decide)
        · exact c_31 q1
        · exact c_32 q1
end
section
section ZCU
variable {p : Program} {l : Launch} {e : Env} {R : Room} {s : State} {m : MethodId} {av : Array Value} {below : List Frame} {meth : Method} {c : Code} {H : Heap} {locs : List Loc} {cells slots : Nat} {Q : State → Prop} {own nm : String} {cc : ByteArray} {nL : Nat} {r : Option FieldType} {pc : Nat} {ls : Array Slot} {st0 : List Value}
variable {D : va_G} {cs : ClassId × ClassId × ClassId × ClassId} {C owner : String} {idx : Nat} {x y : MethodName} {cc' : ByteArray} {n' : Nat} {r' : Option FieldType} {rm : Room} {b : Nat} {P : Heap → Prop} {A' A0 : Nat → Prop} {Qh : Option Value → Heap → Prop} {H0 : Heap}
theorem zcU (As rest : List Value) (E : zE p s m meth c av own nm cc nL r) (hM : zMet l D cs y cc' n' r' rm (.ref b :: As) P A' Qh) (hdg : decode cc pc = .ok (.invokevirtual idx, 3))
    (cw : va_CU R s av own C owner idx x y cc' n' r' (Cond.code y cc' n' r' :: zt) rm rm.cells rm.slots As.length) (hf : cells + rm.cells ≤ R.cells ∧ slots + rm.slots ≤ R.slots) (hst : st0 = As.reverse ++ .ref b :: rest) (hw : (rest.map fun v => v.category).sum ≤ 8) (hl : ls.size = nL)
    (hrec : ∃ cell : Cell, H[b]? = some cell ∧ cell.vm.isStatics = false ∧ s.vm.findClass C = some cell.cls) (hK : zK D cs s) (hP : P H) (hS : va_S A0 H0 H locs) (hA : ∀ q, A' q → A0 q)
    (kk : zKK p l e R s m av below meth c H cells slots Q rm A' A0 H0 Qh (pc + 3) ls rest) : W p l e R s m av below meth c H locs cells slots Q (F0 m pc ls st0) := by
  obtain ⟨hx, hb, hr, hts, hown, hlocks, hml, hin⟩ := E
  exact zgo (va_runU (As := As) (rest := rest) (n := As.length) ⟨hx, hb, hml, hown, hts⟩ hM cw ⟨zblind, hrec, zpre hK hP⟩ rfl rfl hl hst (lv_room hw) hdg hf) hS hA kk
theorem zcSU (As rest : List Value) (E : zE p s m meth c av own nm cc nL r) (hM : zMet l D cs y cc' n' r' rm (.ref b :: As) P A' Qh) (hdg : decode cc pc = .ok (.invokespecial idx, 3)) {cC : ClassId} (hat : ClassAt s C cC)
    (m1 : Cond.methodLink own idx y ∈ zt) (m2 : Cond.sameMethod y.cls y.cls y.name y.desc ∈ zt) (m3 : Cond.superclass own y.cls ∈ zt) (m4 : Cond.instanceMethod y ∈ zt) (m5 : Cond.initialized y.cls ∈ zt) (m6 : Cond.code y cc' n' r' ∈ zt)
    (hd : y.name ≠ "<init>" ∧ (parseMethodDescriptor y.desc).map (fun d => d.parameters.length) = some As.length) (hR : rm.frames + 1 ≤ R.frames ∧ 8 + (n' + 11) + rm.locals ≤ R.locals) (hf : cells + rm.cells ≤ R.cells ∧ slots + rm.slots ≤ R.slots) (hst : st0 = As.reverse ++ .ref b :: rest) (hw : (rest.map fun v => v.category).sum ≤ 8) (hl : ls.size = nL)
    (hrec : ∃ cell : Cell, H[b]? = some cell ∧ cell.vm.isStatics = false ∧ s.vm.findClass C = some cell.cls) (hK : zK D cs s) (hP : P H) (hS : va_S A0 H0 H locs) (hA : ∀ q, A' q → A0 q)
    (kk : zKK p l e R s m av below meth c H cells slots Q rm A' A0 H0 Qh (pc + 3) ls rest) : W p l e R s m av below meth c H locs cells slots Q (F0 m pc ls st0) := by
  obtain ⟨hx, hb, hr, hts, hown, hlocks, hml, hin⟩ := E
  refine zgo (va_runSU (As := As) (rest := rest) (n := As.length) hat ⟨hx, hb, hml, hown, hts⟩ hM (va_cwSU As.length hts (zt_all ?_) rfl rfl rfl hd hR) ⟨zblind, hrec, zpre hK hP⟩ rfl rfl hl hst (lv_room hw) hdg hf) hS hA kk
  intro w hw
  simp only [va_wsSU, List.cons_append, List.nil_append, List.mem_cons] at hw
  rcases hw with rfl | rfl | rfl | rfl | rfl | rfl | h
  · exact m1
  · exact m2
  · exact m3
  · exact m4
  · exact m5
  · exact m6
  · exact h
end ZCU
theorem zwU {own C owner : String} {idx : Nat} {x y : MethodName} {w0 : List Cond} (m1 : Cond.methodLink own idx x ∈ zt) (m2 : Cond.sameMethod x.cls owner x.name x.desc ∈ zt) (m3 : Cond.selects C x y ∈ zt) (m4 : Cond.instanceMethod y ∈ zt) (m5 : Cond.initialized y.cls ∈ zt) (m6 : ∀ w ∈ w0, w ∈ zt) : GoodIn zt (va_wsU own idx C owner x y w0) := by
  refine zt_all fun w hw => ?_
  simp only [va_wsU, List.cons_append, List.nil_append, List.mem_cons] at hw
  rcases hw with rfl | rfl | rfl | rfl | rfl | h
  · exact m1
  · exact m2
  · exact m3
  · exact m4
  · exact m5
  · exact m6 w h
theorem zwO {own C owner : String} {idx : Nat} {x y : MethodName} {w0 : List Cond} (m1 : Cond.methodLink own idx x ∈ zt) (m2 : Cond.sameMethod x.cls owner x.name x.desc ∈ zt) (m7 : Cond.instanceMethod ⟨owner, x.name, x.desc⟩ ∈ zt) (m3 : Cond.selects C x y ∈ zt) (m4 : Cond.instanceMethod y ∈ zt) (m5 : Cond.initialized y.cls ∈ zt) (m6 : ∀ w ∈ w0, w ∈ zt) : GoodIn zt (va_wsO own idx C owner x y w0) := by
  refine zt_all fun w hw => ?_
  simp only [va_wsO, List.cons_append, List.nil_append, List.mem_cons] at hw
  rcases hw with rfl | rfl | rfl | rfl | rfl | rfl | h
  · exact m1
  · exact m2
  · exact m7
  · exact m3
  · exact m4
  · exact m5
  · exact m6 w h
theorem zcons {w0 : Cond} (h : w0 ∈ zt) : ∀ w ∈ w0 :: zt, w ∈ zt := fun w hw => by
  rcases List.mem_cons.mp hw with rfl | h1
  · exact h
  · exact h1
theorem zrec {s : State} {H : Heap} {D : va_G} {cs : ClassId × ClassId × ClassId × ClassId} {ws : va_W} {a i ci : Nat} {fs : List Value} {q : vw_C} (hK : zK D cs s) (hP : va_P D zcl ws H) (hc : zcl[ci]? = some q) (he : ws[i]? = some (a, .inr (ci, fs))) : ∃ cell : Cell, H[a]? = some cell ∧ cell.vm.isStatics = false ∧ s.vm.findClass q.1 = some cell.cls := va_recv hK.1 hP hc he
def zfs (V : Nat → Nat → Int32) (k : Nat) (w : Int32) : Int32 := if w = 0 then V 0 k else if w = 1 then V 1 k else if w = 2 then 0 else if w = 3 then 0 else -1
def zfa (V : Nat → Nat → Int32) (k : Nat) (w : Int32) : Int32 := if w = 0 then V 0 k else if w = 1 then V 1 k else if w = 2 then V 2 k else if w = 3 then V 3 k else -1
theorem zout {w : Int32} (h0 : ¬ w = 0) (h1 : ¬ w = 1) (h2 : ¬ w = 2) (h3 : ¬ w = 3) : w.toInt < 0 ∨ 3 < w.toInt := by
  have a0 := lv_neT (k := 0) (a := 0) h0 (by decide)
  have a1 := lv_neT (k := 1) (a := 1) h1 (by decide)
  have a2 := lv_neT (k := 2) (a := 2) h2 (by decide)
  have a3 := lv_neT (k := 3) (a := 3) h3 (by decide)
  omega
set_option maxHeartbeats 4000000 in
set_option maxRecDepth 100000 in
theorem t_St_fact (l : Launch) (D : va_G) (cs : ClassId × ClassId × ClassId × ClassId) (A : Nat → Prop) (o : Nat × Nat × Nat × Nat) (sc lc : Nat) (fa fb : Nat → Option Nat) (ad bd : Nat → Nat) (c : Nat → Nat → Nat) (gp mo : Nat → Int32) (V : Nat → Nat → Int32) (k : Nat) (hk : k < sc) (w : Int32) (H1 : Heap) (hw : zH D A (zB o cs sc lc fa fb ad bd c gp mo V) H1) : zMet l D cs y_St_fact c_St_fact 2 (some FieldType.int) ({ frames := 0, cells := 0, slots := 0, locals := 0 } : Room) [.ref (ad k), .int w] (fun H => H = H1) (fun _ => False) (zqi fun r H => H = H1 ∧ r = zfs V k w) := by
  refine zmk (by decide) (Nat.le_of_ble_eq_true rfl) ?_
  intro p e s m below meth cd ls E hK hP0 hl
  have hS : va_S (fun _ => False) s.heap s.heap [] := va_S.rf
  subst hP0
  have hP := hw.1
  obtain ⟨hx, hb, hr, hts, hown, hlocks, hml, hin⟩ := id E
  have hl : lv_has ls 2 [(0, .ref (ad k)), (1, .int w)] := hl
  refine lv_iload_n hx hb d_St_fact_0 rfl (lv_at hl 1 rfl) ?_
  by_cases h0 : w = 0
  · skip
    refine lv_tableIn (tgt := 32) hx hb d_St_fact_1 (by rw [h0]; decide) (by rw [h0]; decide) (by rw [h0]; rfl) (by decide) ?_
    refine lv_aload_n hx hb d_St_fact_32 rfl (lv_at hl 0 rfl) ?_
    refine zs_get_at E hK hP hk w_80 (u_same (hts _ w_81)) d_St_fact_33 ?_
    refine zri E d_St_fact_36 hS (Nat.le_of_ble_eq_true rfl) (Nat.le_of_ble_eq_true rfl) ?_
    exact ⟨_, rfl, rfl, by simp [zfs, h0]⟩
  · skip
    by_cases h1 : w = 1
    · skip
      refine lv_tableIn (tgt := 37) hx hb d_St_fact_1 (by rw [h1]; decide) (by rw [h1]; decide) (by rw [h1]; rfl) (by decide) ?_
      refine lv_aload_n hx hb d_St_fact_37 rfl (lv_at hl 0 rfl) ?_
      refine zs_get_length E hK hP hk w_68 (fun _ h9 => h9) d_St_fact_38 ?_
      refine zri E d_St_fact_41 hS (Nat.le_of_ble_eq_true rfl) (Nat.le_of_ble_eq_true rfl) ?_
      exact ⟨_, rfl, rfl, by simp [zfs, h0, h1]⟩
    · skip
      by_cases h2 : w = 2
      · skip
        refine lv_tableIn (tgt := 42) hx hb d_St_fact_1 (by rw [h2]; decide) (by rw [h2]; decide) (by rw [h2]; rfl) (by decide) ?_
        refine lv_iconst (v := 0) hx hb d_St_fact_42 (by decide) ?_
        refine zri E d_St_fact_43 hS (Nat.le_of_ble_eq_true rfl) (Nat.le_of_ble_eq_true rfl) ?_
        exact ⟨_, rfl, rfl, by simp [zfs, h0, h1, h2]⟩
      · skip
        by_cases h3 : w = 3
        · skip
          refine lv_tableIn (tgt := 42) hx hb d_St_fact_1 (by rw [h3]; decide) (by rw [h3]; decide) (by rw [h3]; rfl) (by decide) ?_
          refine lv_iconst (v := 0) hx hb d_St_fact_42 (by decide) ?_
          refine zri E d_St_fact_43 hS (Nat.le_of_ble_eq_true rfl) (Nat.le_of_ble_eq_true rfl) ?_
          exact ⟨_, rfl, rfl, by simp [zfs, h0, h1, h2, h3]⟩
        · skip
          refine lv_tableOut (tgt := 44) hx hb d_St_fact_1 (zout h0 h1 h2 h3) (by decide) ?_
          refine lv_iconst (v := (-1)) hx hb d_St_fact_44 (by decide) ?_
          refine zri E d_St_fact_45 hS (Nat.le_of_ble_eq_true rfl) (Nat.le_of_ble_eq_true rfl) ?_
          exact ⟨_, rfl, rfl, by simp [zfs, h0, h1, h2, h3]⟩
set_option maxHeartbeats 4000000 in
set_option maxRecDepth 100000 in
theorem t_Br_fact (l : Launch) (D : va_G) (cs : ClassId × ClassId × ClassId × ClassId) (A : Nat → Prop) (o : Nat × Nat × Nat × Nat) (sc lc : Nat) (fa fb : Nat → Option Nat) (ad bd : Nat → Nat) (c : Nat → Nat → Nat) (gp mo : Nat → Int32) (V : Nat → Nat → Int32) (k : Nat) (hk : k < sc) (h2k : c 0 k = 2) (hv : V 2 k = 0 ∨ V 2 k = 1) (w : Int32) (H1 : Heap) (hw : zH D A (zB o cs sc lc fa fb ad bd c gp mo V) H1) : zMet l D cs y_Br_fact c_Br_fact 2 (some FieldType.int) ({ frames := 1, cells := 0, slots := 0, locals := 21 } : Room) [.ref (ad k), .int w] (fun H => H = H1) (fun _ => False) (zqi fun r H => H = H1 ∧ r = zfa V k w) := by
  refine zmk (by decide) (Nat.le_of_ble_eq_true rfl) ?_
  intro p e s m below meth cd ls E hK hP0 hl
  have hS : va_S (fun _ => False) s.heap s.heap [] := va_S.rf
  subst hP0
  have hP := hw.1
  have hc : (zB o cs sc lc fa fb ad bd c gp mo V)[4 + k]? = some (ad k, .inr (1, [.int (V 1 k), .int (nI (c 1 k)), .int (V 0 k), .int (nI (c 2 k)), va_rf (zga ad bd (gp k)), .int (mo k), .int (V 2 k), .int (V 3 k)])) := by rw [zb_s hk]; simp only [zcell, h2k, if_true]
  obtain ⟨hx, hb, hr, hts, hown, hlocks, hml, hin⟩ := id E
  have hl : lv_has ls 2 [(0, .ref (ad k)), (1, .int w)] := hl
  refine lv_iload_n hx hb d_Br_fact_0 rfl (lv_at hl 1 rfl) ?_
  by_cases h2 : w = 2
  · skip
    refine lv_lookup (tgt := 28) (off := 27) hx hb d_Br_fact_1 (by decide) (by rw [h2]; decide) (by decide) ?_
    refine lv_aload_n hx hb d_Br_fact_28 rfl (lv_at hl 0 rfl) ?_
    refine va_get (D := D) (ci := 1) (v := .int (V 2 k)) (C := "BranchLayout$Branch") (T := T_Br) (N := 8) hx hb hts in_Br hown hK.1 hP (4 + k) hc rfl 6 (by decide) (hts _ w_142) (fun _ h9 => h9) rfl d_Br_fact_29 ?_
    refine lv_if_eq (tgt := 39) hx hb d_Br_fact_32 (by decide) (fun c_1 => ?_) (fun c_1 => ?_)
    · skip
      refine lv_iconst (v := 0) hx hb d_Br_fact_39 (by decide) ?_
      refine zri E d_Br_fact_40 hS (Nat.le_of_ble_eq_true rfl) (Nat.le_of_ble_eq_true rfl) ?_
      exact ⟨_, rfl, rfl, by simp [zfa, h2, c_1]⟩
    · skip
      refine lv_iconst (v := 1) hx hb d_Br_fact_35 (by decide) ?_
      refine lv_goto (tgt := 40) hx hb d_Br_fact_36 (by decide) ?_
      refine zri E d_Br_fact_40 hS (Nat.le_of_ble_eq_true rfl) (Nat.le_of_ble_eq_true rfl) ?_
      exact ⟨_, rfl, rfl, by have e1 := hv.resolve_left c_1; simp [zfa, h2, e1]⟩
  · skip
    by_cases h3 : w = 3
    · skip
      refine lv_lookup (tgt := 41) (off := 40) hx hb d_Br_fact_1 (by decide) (by rw [h3]; decide) (by decide) ?_
      refine lv_aload_n hx hb d_Br_fact_41 rfl (lv_at hl 0 rfl) ?_
      refine va_get (D := D) (ci := 1) (v := .int (V 3 k)) (C := "BranchLayout$Branch") (T := T_Br) (N := 8) hx hb hts in_Br hown hK.1 hP (4 + k) hc rfl 7 (by decide) (hts _ w_144) (fun _ h9 => h9) rfl d_Br_fact_42 ?_
      refine zri E d_Br_fact_45 hS (Nat.le_of_ble_eq_true rfl) (Nat.le_of_ble_eq_true rfl) ?_
      exact ⟨_, rfl, rfl, by simp [zfa, h3]⟩
    · skip
      refine lv_lookup (tgt := 46) (off := 45) hx hb d_Br_fact_1 (by decide) ((lv_osw h2 (by decide)).trans ((lv_osw h3 (by decide)).trans (by simp [Op.lookupswitch.offset]))) (by decide) ?_
      refine lv_aload_n hx hb d_Br_fact_46 rfl (lv_at hl 0 rfl) ?_
      refine lv_iload_n hx hb d_Br_fact_47 rfl (lv_at hl 1 rfl) ?_
      refine zcSU [.int w] [] E (t_St_fact l D cs A o sc lc fa fb ad bd c gp mo V k hk w _ hw) d_Br_fact_48 ((hK.1.1 1 _ rfl).2) w_248 w_243 w_158 w_242 w_5 w_250 ⟨by decide, (by decide +kernel : Option.map (fun d => d.parameters.length) (parseMethodDescriptor "(I)I") = some 1)⟩ ⟨(Nat.le_of_ble_eq_true rfl), (Nat.le_of_ble_eq_true rfl)⟩ ⟨(Nat.le_of_ble_eq_true rfl), (Nat.le_of_ble_eq_true rfl)⟩ rfl (Nat.le_of_ble_eq_true rfl) hl.1 (zrec hK hP rfl hc) hK rfl hS (fun _ h => h) (zki fun r H locs hq _ _ hS => ?_)
      refine zri E d_Br_fact_51 hS (Nat.le_of_ble_eq_true rfl) (Nat.le_of_ble_eq_true rfl) ?_
      exact ⟨_, rfl, hq.1, by rw [hq.2]; simp [zfs, zfa, h2, h3]⟩
def zst (n : Nat) (x : Int32) : Bool := decide (¬ x < 0 ∧ ¬ nI n ≤ x)
theorem zst_of {n : Nat} {x : Int32} (hn : n < 2 ^ 31) (h : zst n x = true) : ∃ j, j < n ∧ x = nI j ∧ x.toNatClampNeg = j := by
  have h1 := of_decide_eq_true h
  rcases pk_ix x (n := n) hn with q | q | ⟨j, hj, rfl⟩
  · exact absurd q h1.1
  · exact absurd q h1.2
  · exact ⟨j, hj, rfl, nI_clamp (by omega)⟩
theorem zsn_t {n : Nat} {ad : Nat → Nat} {x : Int32} (h : zst n x = true) : zsn n ad x = some (ad x.toNatClampNeg) := by
  have h1 := of_decide_eq_true h
  simp only [zsn, h1.1, h1.2, if_false]
theorem zsn_f {n : Nat} {ad : Nat → Nat} {x : Int32} (h : zst n x = false) : zsn n ad x = none := by
  have h1 := of_decide_eq_false h
  by_cases h2 : x < 0
  · simp only [zsn, h2, if_true]
  · by_cases h3 : nI n ≤ x
    · simp only [zsn, h2, h3, if_true, if_false]
    · exact absurd ⟨h2, h3⟩ h1
set_option maxHeartbeats 4000000 in
set_option maxRecDepth 100000 in
theorem t_BL_statement (l : Launch) (D : va_G) (cs : ClassId × ClassId × ClassId × ClassId) (A : Nat → Prop) (o : Nat × Nat × Nat × Nat) (sc lc : Nat) (fa fb : Nat → Option Nat) (ad bd : Nat → Nat) (c : Nat → Nat → Nat) (gp mo : Nat → Int32) (V : Nat → Nat → Int32) (hI : zI sc lc c gp) (hJ : zJ sc c gp V) (hf : ∀ k, k < sc → fa k = some (ad k)) (x w : Int32) (H1 : Heap) (hw : zH D A (zB o cs sc lc fa fb ad bd c gp mo V) H1) : zMet l D cs y_BL_statement c_BL_statement 4 (some FieldType.int) ({ frames := 2, cells := 0, slots := 0, locals := 42 } : Room) [.ref o.1, .int x, .int w] (fun H => H = H1) (fun _ => False) (zqi fun r H => H = H1 ∧ r = if zst sc x then zfa V x.toNatClampNeg w else -1) := by
  refine zmk (by decide) (Nat.le_of_ble_eq_true rfl) ?_
  intro p e s m below meth cd ls E hK hP0 hl
  have hS : va_S (fun _ => False) s.heap s.heap [] := va_S.rf
  subst hP0
  have hP := hw.1
  obtain ⟨hx, hb, hr, hts, hown, hlocks, hml, hin⟩ := id E
  have hl : lv_has ls 4 [(0, .ref o.1), (1, .int x), (2, .int w)] := hl
  refine lv_aload_n hx hb d_BL_statement_0 rfl (lv_at hl 0 rfl) ?_
  refine lv_iload_n hx hb d_BL_statement_1 rfl (lv_at hl 1 rfl) ?_
  refine zcV [.int x] [] E (t_BL_statementNumbered l D cs A o sc lc fa fb ad bd c gp mo V hI.1 hf x _ hw) d_BL_statement_2 w_179 w_181 ws_BL_statementNumbered w_1 w_182 ⟨rfl, by decide +kernel, by decide +kernel, (by decide +kernel : Option.map (fun d => d.parameters.length) (parseMethodDescriptor "(I)LBranchLayout$Statement;") = some 1)⟩ ⟨(Nat.le_of_ble_eq_true rfl), (Nat.le_of_ble_eq_true rfl)⟩ ⟨(Nat.le_of_ble_eq_true rfl), (Nat.le_of_ble_eq_true rfl)⟩ rfl (Nat.le_of_ble_eq_true rfl) hl.1 (zrec hK hP (ci := 4) (i := 0) rfl (zb_x rfl)) hK rfl hS (fun _ h => h) (zkr fun r H locs hq _ _ hS => ?_)
  obtain ⟨rfl, rfl⟩ := hq
  cases hz : zst sc x with
  | false =>
    rw [zsn_f hz]
    refine lv_astore_nN (lv' := [(3, .null), (0, .ref o.1), (1, .int x), (2, .int w)]) hx hb d_BL_statement_5 rfl hl (by decide) rfl (fun ls hl => ?_)
    refine lv_aload_nN hx hb d_BL_statement_6 rfl (lv_at hl 0 rfl) ?_
    refine lv_ifnonnullN hx hb d_BL_statement_7 ?_
    refine lv_iconst (v := (-1)) hx hb d_BL_statement_10 (by decide) ?_
    refine lv_goto (tgt := 19) hx hb d_BL_statement_11 (by decide) ?_
    refine zri E d_BL_statement_19 hS (Nat.le_of_ble_eq_true rfl) (Nat.le_of_ble_eq_true rfl) ?_
    exact ⟨_, rfl, rfl, by simp⟩
  | true =>
    rw [zsn_t hz]
    obtain ⟨k, hk, ex, ek⟩ := zst_of (by have := hI.1; omega) hz
    rw [ek]
    refine lv_astore_n (lv' := [(3, .ref (ad k)), (0, .ref o.1), (1, .int x), (2, .int w)]) hx hb d_BL_statement_5 rfl hl (by decide) rfl (fun ls hl => ?_)
    refine lv_aload_n hx hb d_BL_statement_6 rfl (lv_at hl 0 rfl) ?_
    refine lv_ifnonnull (tgt := 14) hx hb d_BL_statement_7 (by decide) ?_
    refine lv_aload_n hx hb d_BL_statement_14 rfl (lv_at hl 0 rfl) ?_
    refine lv_iload_n hx hb d_BL_statement_15 rfl (lv_at hl 3 rfl) ?_
    obtain ⟨hg1, -, -, -, -, hg6⟩ := hI.2.2.1 k hk
    obtain ⟨hj1, hj2, hj3⟩ := hJ k hk
    by_cases h2k : c 0 k = 2
    · skip
      have hc : (zB o cs sc lc fa fb ad bd c gp mo V)[4 + k]? = some (ad k, .inr (1, [.int (V 1 k), .int (nI (c 1 k)), .int (V 0 k), .int (nI (c 2 k)), va_rf (zga ad bd (gp k)), .int (mo k), .int (V 2 k), .int (V 3 k)])) := by rw [zb_s hk]; simp only [zcell, h2k, if_true]
      refine zcU [.int w] [] E (t_Br_fact l D cs A o sc lc fa fb ad bd c gp mo V k hk h2k hj1 w _ hw) d_BL_statement_16 (va_cwO (C := "BranchLayout$Branch") (owner := "BranchLayout$Statement") (x := ⟨"BranchLayout$Statement", "fact", "(I)I"⟩) 1 hts (zwO w_241 w_243 w_242 w_245 w_246 w_9 (zcons w_247)) rfl rfl rfl w_250 ⟨by decide, by decide, (by decide +kernel : Option.map (fun d => d.parameters.length) (parseMethodDescriptor "(I)I") = some 1)⟩ ⟨(Nat.le_of_ble_eq_true rfl), (Nat.le_of_ble_eq_true rfl)⟩) ⟨(Nat.le_of_ble_eq_true rfl), (Nat.le_of_ble_eq_true rfl)⟩ rfl (Nat.le_of_ble_eq_true rfl) hl.1 (zrec hK hP rfl hc) hK rfl hS (fun _ h => h) (zki fun r H locs hq _ _ hS => ?_)
      refine zri E d_BL_statement_19 hS (Nat.le_of_ble_eq_true rfl) (Nat.le_of_ble_eq_true rfl) ?_
      exact ⟨_, rfl, hq.1, by rw [hq.2]; simp⟩
    · skip
      by_cases h1k : c 0 k = 1
      · skip
        have hc : (zB o cs sc lc fa fb ad bd c gp mo V)[4 + k]? = some (ad k, .inr (0, [.int (V 1 k), .int (nI (c 1 k)), .int (V 0 k), .int (nI (c 2 k))])) := by rw [zb_s hk]; simp only [zcell, h1k, if_true, if_false, show ¬ ((1 : Nat) = 2) by decide]
        have e0 := hj3 (hg6 h2k)
        have e1 := hj2 e0
        refine zcU [.int w] [] E (t_St_fact l D cs A o sc lc fa fb ad bd c gp mo V k hk w _ hw) d_BL_statement_16 (va_cwU (C := "BranchLayout$Alignment") (owner := "BranchLayout$Statement") (x := ⟨"BranchLayout$Statement", "fact", "(I)I"⟩) 1 hts (zwU w_241 w_243 w_244 w_242 w_5 (zcons w_250)) rfl rfl rfl rfl ⟨by decide, by decide, (by decide +kernel : Option.map (fun d => d.parameters.length) (parseMethodDescriptor "(I)I") = some 1)⟩ ⟨(Nat.le_of_ble_eq_true rfl), (Nat.le_of_ble_eq_true rfl)⟩) ⟨(Nat.le_of_ble_eq_true rfl), (Nat.le_of_ble_eq_true rfl)⟩ rfl (Nat.le_of_ble_eq_true rfl) hl.1 (zrec hK hP rfl hc) hK rfl hS (fun _ h => h) (zki fun r H locs hq _ _ hS => ?_)
        refine zri E d_BL_statement_19 hS (Nat.le_of_ble_eq_true rfl) (Nat.le_of_ble_eq_true rfl) ?_
        exact ⟨_, rfl, hq.1, by rw [hq.2]; simp [zfs, zfa, e0, e1]⟩
      · skip
        have hc : (zB o cs sc lc fa fb ad bd c gp mo V)[4 + k]? = some (ad k, .inr (2, [.int (V 1 k), .int (nI (c 1 k)), .int (V 0 k), .int (nI (c 2 k))])) := by rw [zb_s hk]; simp only [zcell, h2k, h1k, if_false]
        have e0 := hj3 (hg6 h2k)
        have e1 := hj2 e0
        refine zcU [.int w] [] E (t_St_fact l D cs A o sc lc fa fb ad bd c gp mo V k hk w _ hw) d_BL_statement_16 (va_cwU (C := "BranchLayout$Bytes") (owner := "BranchLayout$Statement") (x := ⟨"BranchLayout$Statement", "fact", "(I)I"⟩) 1 hts (zwU w_241 w_243 w_249 w_242 w_5 (zcons w_250)) rfl rfl rfl rfl ⟨by decide, by decide, (by decide +kernel : Option.map (fun d => d.parameters.length) (parseMethodDescriptor "(I)I") = some 1)⟩ ⟨(Nat.le_of_ble_eq_true rfl), (Nat.le_of_ble_eq_true rfl)⟩) ⟨(Nat.le_of_ble_eq_true rfl), (Nat.le_of_ble_eq_true rfl)⟩ rfl (Nat.le_of_ble_eq_true rfl) hl.1 (zrec hK hP rfl hc) hK rfl hS (fun _ h => h) (zki fun r H locs hq _ _ hS => ?_)
        refine zri E d_BL_statement_19 hS (Nat.le_of_ble_eq_true rfl) (Nat.le_of_ble_eq_true rfl) ?_
        exact ⟨_, rfl, hq.1, by rw [hq.2]; simp [zfs, zfa, e0, e1]⟩
set_option maxHeartbeats 4000000 in
set_option maxRecDepth 100000 in
theorem t_BL_size (l : Launch) (D : va_G) (cs : ClassId × ClassId × ClassId × ClassId) (A : Nat → Prop) (o : Nat × Nat × Nat × Nat) (sc lc : Nat) (fa fb : Nat → Option Nat) (ad bd : Nat → Nat) (c : Nat → Nat → Nat) (gp mo : Nat → Int32) (V : Nat → Nat → Int32) (x : Int32) (H1 : Heap) (hw : zH D A (zB o cs sc lc fa fb ad bd c gp mo V) H1) : zMet l D cs y_BL_size c_BL_size 2 (some FieldType.int) ({ frames := 1, cells := 0, slots := 0, locals := 20 } : Room) [.ref o.1, .int x] (fun H => H = H1) (fun _ => False) (zqi fun r H => H = H1 ∧ r = if zsec x then V 5 x.toNatClampNeg else -1) := by
  refine zmk (by decide) (Nat.le_of_ble_eq_true rfl) ?_
  intro p e s m below meth cd ls E hK hP0 hl
  have hS : va_S (fun _ => False) s.heap s.heap [] := va_S.rf
  subst hP0
  have hP := hw.1
  obtain ⟨hx, hb, hr, hts, hown, hlocks, hml, hin⟩ := id E
  have hl : lv_has ls 2 [(0, .ref o.1), (1, .int x)] := hl
  refine lv_iload_n hx hb d_BL_size_0 rfl (lv_at hl 1 rfl) ?_
  refine zcS [.int x] [] E (t_BL_isSection l D cs x s.heap) d_BL_size_1 w_51 w_52 w_1 w_53 ⟨by decide +kernel, by decide +kernel, (by decide +kernel : Option.map (fun d => d.parameters.length) (parseMethodDescriptor "(I)Z") = some 1)⟩ ⟨(Nat.le_of_ble_eq_true rfl), (Nat.le_of_ble_eq_true rfl)⟩ ⟨(Nat.le_of_ble_eq_true rfl), (Nat.le_of_ble_eq_true rfl)⟩ rfl (Nat.le_of_ble_eq_true rfl) hl.1 hK rfl hS (fun _ h => h.elim) (zki fun r H locs hq _ _ hS => ?_)
  obtain ⟨rfl, rfl⟩ := hq
  refine lv_if_eq (tgt := 16) hx hb d_BL_size_4 (by decide) (fun c_2 => ?_) (fun c_2 => ?_)
  · skip
    have hsec : zsec x = false := by cases hz : zsec x with | false => rfl | true => simp [hz] at c_2
    refine lv_iconst (v := (-1)) hx hb d_BL_size_16 (by decide) ?_
    refine zri E d_BL_size_17 hS (Nat.le_of_ble_eq_true rfl) (Nat.le_of_ble_eq_true rfl) ?_
    exact ⟨_, rfl, rfl, by simp [hsec]⟩
  · skip
    have hsec : zsec x = true := by cases hz : zsec x with | true => rfl | false => simp [hz] at c_2
    have hin4 : vp_in x 4 := (zin (n := 4) (N := 4) (by decide) (by decide) (of_decide_eq_true hsec).1 (Int32.not_le.mpr (of_decide_eq_true hsec).2)).1
    refine lv_aload_n hx hb d_BL_size_7 rfl (lv_at hl 0 rfl) ?_
    refine va_get (D := D) (ci := 4) (v := .ref o.2.2.2) (C := "BranchLayout") (T := T_BL) (N := 5) hx hb hts in_BL hown hK.1 hP 0 (zb_x rfl) rfl 2 (by decide) (hts _ w_25) (fun _ h9 => h9) rfl d_BL_size_8 ?_
    refine lv_iload_n hx hb d_BL_size_11 rfl (lv_at hl 1 rfl) ?_
    refine va_iald hx hb hK.1 hP 3 0 (zb_x rfl) rfl hin4 d_BL_size_12 ?_
    refine lv_goto (tgt := 17) hx hb d_BL_size_13 (by decide) ?_
    refine zri E d_BL_size_17 hS (Nat.le_of_ble_eq_true rfl) (Nat.le_of_ble_eq_true rfl) ?_
    exact ⟨_, rfl, rfl, by simp [hsec]⟩
set_option maxHeartbeats 4000000 in
set_option maxRecDepth 100000 in
theorem t_BL_place (l : Launch) (D : va_G) (cs : ClassId × ClassId × ClassId × ClassId) (A : Nat → Prop) (o : Nat × Nat × Nat × Nat) (sc lc : Nat) (fa fb : Nat → Option Nat) (ad bd : Nat → Nat) (c : Nat → Nat → Nat) (gp mo : Nat → Int32) (V : Nat → Nat → Int32) (hn : lc ≤ 1024) (hf : ∀ k, k < lc → fb k = some (bd k)) (x : Int32) (H1 : Heap) (hw : zH D A (zB o cs sc lc fa fb ad bd c gp mo V) H1) : zMet l D cs y_BL_place c_BL_place 3 (some FieldType.int) ({ frames := 1, cells := 0, slots := 0, locals := 21 } : Room) [.ref o.1, .int x] (fun H => H = H1) (fun _ => False) (zqi fun r H => H = H1 ∧ r = if zst lc x then V 4 x.toNatClampNeg else -1) := by
  refine zmk (by decide) (Nat.le_of_ble_eq_true rfl) ?_
  intro p e s m below meth cd ls E hK hP0 hl
  have hS : va_S (fun _ => False) s.heap s.heap [] := va_S.rf
  subst hP0
  have hP := hw.1
  obtain ⟨hx, hb, hr, hts, hown, hlocks, hml, hin⟩ := id E
  have hl : lv_has ls 3 [(0, .ref o.1), (1, .int x)] := hl
  refine lv_aload_n hx hb d_BL_place_0 rfl (lv_at hl 0 rfl) ?_
  refine lv_iload_n hx hb d_BL_place_1 rfl (lv_at hl 1 rfl) ?_
  refine zcV [.int x] [] E (t_BL_labelNumbered l D cs A o sc lc fa fb ad bd c gp mo V hn hf x _ hw) d_BL_place_2 w_187 w_189 ws_BL_labelNumbered w_1 w_190 ⟨rfl, by decide +kernel, by decide +kernel, (by decide +kernel : Option.map (fun d => d.parameters.length) (parseMethodDescriptor "(I)LBranchLayout$Label;") = some 1)⟩ ⟨(Nat.le_of_ble_eq_true rfl), (Nat.le_of_ble_eq_true rfl)⟩ ⟨(Nat.le_of_ble_eq_true rfl), (Nat.le_of_ble_eq_true rfl)⟩ rfl (Nat.le_of_ble_eq_true rfl) hl.1 (zrec hK hP (ci := 4) (i := 0) rfl (zb_x rfl)) hK rfl hS (fun _ h => h) (zkr fun r H locs hq _ _ hS => ?_)
  obtain ⟨rfl, rfl⟩ := hq
  cases hz : zst lc x with
  | false =>
    rw [zsn_f hz]
    refine lv_astore_nN (lv' := [(2, .null), (0, .ref o.1), (1, .int x)]) hx hb d_BL_place_5 rfl hl (by decide) rfl (fun ls hl => ?_)
    refine lv_aload_nN hx hb d_BL_place_6 rfl (lv_at hl 0 rfl) ?_
    refine lv_ifnonnullN hx hb d_BL_place_7 ?_
    refine lv_iconst (v := (-1)) hx hb d_BL_place_10 (by decide) ?_
    refine lv_goto (tgt := 18) hx hb d_BL_place_11 (by decide) ?_
    refine zri E d_BL_place_18 hS (Nat.le_of_ble_eq_true rfl) (Nat.le_of_ble_eq_true rfl) ?_
    exact ⟨_, rfl, rfl, by simp⟩
  | true =>
    rw [zsn_t hz]
    obtain ⟨j, hj, ex, ej⟩ := zst_of (by omega) hz
    rw [ej]
    refine lv_astore_n (lv' := [(2, .ref (bd j)), (0, .ref o.1), (1, .int x)]) hx hb d_BL_place_5 rfl hl (by decide) rfl (fun ls hl => ?_)
    refine lv_aload_n hx hb d_BL_place_6 rfl (lv_at hl 0 rfl) ?_
    refine lv_ifnonnull (tgt := 14) hx hb d_BL_place_7 (by decide) ?_
    refine lv_aload_n hx hb d_BL_place_14 rfl (lv_at hl 0 rfl) ?_
    refine va_get (D := D) (ci := 3) (v := .int (V 4 j)) (C := "BranchLayout$Label") (T := T_La) (N := 3) hx hb hts in_La hown hK.1 hP (4 + sc + j) (zb_l hj) rfl 1 (by decide) (hts _ w_85) (u_same (hts _ w_86)) rfl d_BL_place_15 ?_
    refine zri E d_BL_place_18 hS (Nat.le_of_ble_eq_true rfl) (Nat.le_of_ble_eq_true rfl) ?_
    exact ⟨_, rfl, rfl, by simp⟩
end
section
def zlabel (lc : Nat) (x : Int32) (Wo Wn : Heap → Prop) (r : Int32) (H : Heap) : Prop := (zsec x = true ∧ lc < 1024 ∧ r = nI lc ∧ Wn H) ∨ (¬ (zsec x = true ∧ lc < 1024) ∧ r = -1 ∧ Wo H)
set_option maxHeartbeats 4000000 in
set_option maxRecDepth 100000 in
theorem t_BL_label (l : Launch) (D : va_G) (cs : ClassId × ClassId × ClassId × ClassId) (A : Nat → Prop) (o : Nat × Nat × Nat × Nat) (sc lc : Nat) (c : Nat → Nat → Nat) (gp mo : Nat → Int32) (V : Nat → Nat → Int32) (hI : zI sc lc c gp) (x : Int32) : zMet l D cs y_BL_label c_BL_label 2 (some FieldType.int) ({ frames := 3, cells := 1, slots := 3, locals := 55 } : Room) [.ref o.1, .int x] (fun H => zCW D A o cs sc lc c gp mo V H ∧ ∀ q, H.size ≤ q → A q) A (zqi (zlabel lc x (zCW D A o cs sc lc c gp mo V) (zCW D A o cs sc (lc + 1) (zlc c lc sc x) gp mo (zu V 4 lc 0)))) := by
  refine zmk (by decide) (Nat.le_of_ble_eq_true rfl) ?_
  intro p e s m below meth cd ls E hK hP0 hl
  have hS : va_S A s.heap s.heap [] := va_S.rf
  obtain ⟨hW, hA⟩ := hP0
  obtain ⟨fa, fb, ad, bd, hfa, hfb, hP, hD⟩ := id hW
  obtain ⟨hx, hb, hr, hts, hown, hlocks, hml, hin⟩ := id E
  have hl : lv_has ls 2 [(0, .ref o.1), (1, .int x)] := hl
  refine lv_iload_n hx hb d_BL_label_0 rfl (lv_at hl 1 rfl) ?_
  refine zcS [.int x] [] E (t_BL_isSection l D cs x s.heap) d_BL_label_1 w_51 w_52 w_1 w_53 ⟨by decide +kernel, by decide +kernel, (by decide +kernel : Option.map (fun d => d.parameters.length) (parseMethodDescriptor "(I)Z") = some 1)⟩ ⟨(Nat.le_of_ble_eq_true rfl), (Nat.le_of_ble_eq_true rfl)⟩ ⟨(Nat.le_of_ble_eq_true rfl), (Nat.le_of_ble_eq_true rfl)⟩ rfl (Nat.le_of_ble_eq_true rfl) hl.1 hK rfl hS (fun _ h => h.elim) (zki fun r H locs hq _ _ hS => ?_)
  obtain ⟨rfl, rfl⟩ := hq
  refine lv_if_eq (tgt := 19) hx hb d_BL_label_4 (by decide) (fun c_9 => ?_) (fun c_9 => ?_)
  · skip
    have hsec : zsec x = false := by cases hz : zsec x with | false => rfl | true => simp [hz] at c_9
    refine lv_iconst (v := (-1)) hx hb d_BL_label_19 (by decide) ?_
    refine zri E d_BL_label_20 hS (Nat.le_of_ble_eq_true rfl) (Nat.le_of_ble_eq_true rfl) ?_
    exact ⟨_, rfl, Or.inr ⟨fun q => (by have q1 := q.1; rw [hsec] at q1; exact Bool.noConfusion q1), rfl, hW⟩⟩
  · skip
    have hsec : zsec x = true := by cases hz : zsec x with | true => rfl | false => simp [hz] at c_9
    have hx0 := zsec_pos hsec
    have hlc := hI.2.1
    refine lv_aload_n hx hb d_BL_label_7 rfl (lv_at hl 0 rfl) ?_
    refine va_get (D := D) (ci := 4) (v := .int (nI lc)) (C := "BranchLayout") (T := T_BL) (N := 5) hx hb hts in_BL hown hK.1 hP 0 (zb_x rfl) rfl 4 (by decide) (hts _ w_27) (fun _ h9 => h9) rfl d_BL_label_8 ?_
    refine lv_aload_n hx hb d_BL_label_11 rfl (lv_at hl 0 rfl) ?_
    refine va_get (D := D) (ci := 4) (v := .ref o.2.2.1) (C := "BranchLayout") (T := T_BL) (N := 5) hx hb hts in_BL hown hK.1 hP 0 (zb_x rfl) rfl 1 (by decide) (hts _ w_24) (fun _ h9 => h9) rfl d_BL_label_12 ?_
    refine va_alen hx hb hK.1 hP 2 3 (zb_x rfl) rfl (v := nI 1024) rfl d_BL_label_15 ?_
    refine lv_icmp_lt (tgt := 21) hx hb d_BL_label_16 (by decide) (fun c_10 => ?_) (fun c_10 => ?_)
    · skip
      have hlt : lc < 1024 := (nI_ltI (by omega) (by decide)).mp c_10
      refine lv_aload_n hx hb d_BL_label_21 rfl (lv_at hl 0 rfl) ?_
      refine va_get (D := D) (ci := 4) (v := .ref o.2.2.1) (C := "BranchLayout") (T := T_BL) (N := 5) hx hb hts in_BL hown hK.1 hP 0 (zb_x rfl) rfl 1 (by decide) (hts _ w_24) (fun _ h9 => h9) rfl d_BL_label_22 ?_
      refine lv_aload_n hx hb d_BL_label_25 rfl (lv_at hl 0 rfl) ?_
      refine va_get (D := D) (ci := 4) (v := .int (nI lc)) (C := "BranchLayout") (T := T_BL) (N := 5) hx hb hts in_BL hown hK.1 hP 0 (zb_x rfl) rfl 4 (by decide) (hts _ w_27) (fun _ h9 => h9) rfl d_BL_label_26 ?_
      refine va_new (ci := 3) (fs := [.int 0, .int 0, .int 0]) (C := "BranchLayout$Label") (T := T_La) (N := 3) hx hb hts in_La ty_La ok_La hown (hts _ w_21) (hts _ w_163) (hts _ w_10) hK.1 hP hD hS hA rfl (fun j hj => by rcases (show j = 0 ∨ j = 1 ∨ j = 2 by omega) with rfl | rfl | rfl <;> rfl) (Nat.le_of_ble_eq_true rfl) (Nat.le_of_ble_eq_true rfl) d_BL_label_29 (fun q H hP hD hS => ?_)
      have hw := zx_new ⟨hP, hD⟩
      have hAq : A q := hw.2.2 _ _ (zx_at rfl)
      have hP := hw.1
      have hD := hw.2
      refine lv_dup hx hb d_BL_label_32 rfl ?_
      refine lv_iload_n hx hb d_BL_label_33 rfl (lv_at hl 1 rfl) ?_
      refine lv_aload_n hx hb d_BL_label_34 rfl (lv_at hl 0 rfl) ?_
      refine va_get (D := D) (ci := 4) (v := .int (nI sc)) (C := "BranchLayout") (T := T_BL) (N := 5) hx hb hts in_BL hown hK.1 hP 0 (zw_x rfl) rfl 3 (by decide) (hts _ w_26) (fun _ h9 => h9) rfl d_BL_label_35 ?_
      refine zcI [.int x, .int (nI sc)] [.ref q, .int (nI lc), .ref o.2.2.1] E (t_La_init l D cs q x (nI sc)) d_BL_label_38 w_164 w_165 w_10 w_166 rfl ⟨by decide +kernel, by decide +kernel, (by decide +kernel : Option.map (fun d => d.parameters.length) (parseMethodDescriptor "(II)V") = some 2)⟩ ⟨(Nat.le_of_ble_eq_true rfl), (Nat.le_of_ble_eq_true rfl)⟩ ⟨(Nat.le_of_ble_eq_true rfl), (Nat.le_of_ble_eq_true rfl)⟩ rfl (Nat.le_of_ble_eq_true rfl) hl.1 hK (zat hw (zx_at rfl)) hS (fun q2 h => by rw [h]; exact hAq) (zkv fun H1 locs hq _ hk hS => ?_)
      have hw := zx_set rfl hw hq hk
      have hP := hw.1
      have hD := hw.2
      refine va_astq hx hb hK.1 hP hD hS 2 3 (4 + sc + lc) 3 (zw_x rfl) rfl (zx_at rfl) rfl (vp_in_nI hlt (by decide)) d_BL_label_41 (fun H locs hP hD hS => ?_)
      rw [nI_clamp (show lc < 2 ^ 31 by omega), zw_setx (Nat.le_of_ble_eq_true rfl)] at hP hD
      have hP : va_P D zcl (zw_ws (zX o cs sc lc fa (va_up fb lc (some q)) (V 5)) sc (fun k => (ad k, zcell c gp mo V ad bd k)) (lc + 1) (zGx bd c V lc q (.inr (3, [.int x, .int 0, .int (nI sc)])))) H := hP
      have hD : va_D A (zw_ws (zX o cs sc lc fa (va_up fb lc (some q)) (V 5)) sc (fun k => (ad k, zcell c gp mo V ad bd k)) (lc + 1) (zGx bd c V lc q (.inr (3, [.int x, .int 0, .int (nI sc)])))) := hD
      refine lv_aload_n hx hb d_BL_label_42 rfl (lv_at hl 0 rfl) ?_
      refine lv_dup hx hb d_BL_label_43 rfl ?_
      refine va_get (D := D) (ci := 4) (v := .int (nI lc)) (C := "BranchLayout") (T := T_BL) (N := 5) hx hb hts in_BL hown hK.1 hP 0 (zw_x rfl) rfl 4 (by decide) (hts _ w_27) (fun _ h9 => h9) rfl d_BL_label_44 ?_
      refine lv_dup_x1 hx hb d_BL_label_47 rfl rfl ?_
      refine lv_iconst (v := 1) hx hb d_BL_label_48 (by decide) ?_
      refine lv_iadd hx hb d_BL_label_49 ?_
      refine va_put (D := D) (ci := 4) (v := .int (nI lc + 1)) (ty := .int) (C := "BranchLayout") (T := T_BL) (N := 5) hx hb hts in_BL ty_BL ok_BL nm_BL hown hK.1 hP hD hS 0 (zw_x rfl) rfl 4 (by decide) (hts _ w_27) (fun _ h9 => h9) rfl (by decide +kernel) rfl rfl (Nat.le_of_ble_eq_true rfl) d_BL_label_50 (fun H locs hP hD hS => ?_)
      rw [zw_setx (Nat.le_of_ble_eq_true rfl), nI_1] at hP hD
      refine zri E d_BL_label_53 hS (Nat.le_of_ble_eq_true rfl) (Nat.le_of_ble_eq_true rfl) ?_
      refine ⟨_, rfl, Or.inl ⟨hsec, hlt, rfl, fa, va_up fb lc (some q), ad, va_up bd lc q, hfa, fun k hk => ?_, zb_lab hI hx0 rfl rfl ⟨hP, hD⟩⟩⟩
      by_cases hks : k = lc
      · subst hks; rw [va_up_self, va_up_self]
      · rw [va_up_ne _ _ hks, va_up_ne _ _ hks]; exact hfb k (by omega)
    · skip
      refine lv_iconst (v := (-1)) hx hb d_BL_label_19 (by decide) ?_
      refine zri E d_BL_label_20 hS (Nat.le_of_ble_eq_true rfl) (Nat.le_of_ble_eq_true rfl) ?_
      exact ⟨_, rfl, Or.inr ⟨fun q => c_10 (nI_lt q.2 (by decide)), rfl, hW⟩⟩
set_option maxHeartbeats 4000000 in
set_option maxRecDepth 100000 in
theorem t_BL_clear (l : Launch) (D : va_G) (cs : ClassId × ClassId × ClassId × ClassId) (A : Nat → Prop) (o : Nat × Nat × Nat × Nat) (sc lc : Nat) (c : Nat → Nat → Nat) (gp mo : Nat → Int32) (V : Nat → Nat → Int32) (hI : zI sc lc c gp) : zMet l D cs y_BL_clear c_BL_clear 1 none ({ frames := 1, cells := 0, slots := 0, locals := 23 } : Room) [.ref o.1] (zCW D A o cs sc lc c gp mo V) A (zqv (zCW D A o cs 0 0 c gp mo (zfl V 0))) := by
  refine zmk (by decide) (Nat.le_of_ble_eq_true rfl) ?_
  intro p e s m below meth cd ls E hK hP0 hl
  have hS : va_S A s.heap s.heap [] := va_S.rf
  obtain ⟨fa, fb, ad, bd, hfa, hfb, hP, hD⟩ := id hP0
  obtain ⟨hP, hD⟩ := zw_cut (F' := fun k => (ad k, zcell c gp mo V ad bd k)) (G' := fun j => (bd j, zlab c V j)) hP hD
  obtain ⟨hx, hb, hr, hts, hown, hlocks, hml, hin⟩ := id E
  have hl : lv_has ls 1 [(0, .ref o.1)] := hl
  refine lv_aload_n hx hb d_BL_clear_0 rfl (lv_at hl 0 rfl) ?_
  refine lv_iconst (v := 0) hx hb d_BL_clear_1 (by decide) ?_
  refine lv_topi (fun z_11 ez_11 => ?_)
  rw [← nI_0] at ez_11
  subst ez_11
  refine va_put (D := D) (ci := 4) (v := .int (nI 0)) (ty := .int) (C := "BranchLayout") (T := T_BL) (N := 5) hx hb hts in_BL ty_BL ok_BL nm_BL hown hK.1 hP hD hS 0 (zw_x rfl) rfl 3 (by decide) (hts _ w_26) (fun _ h9 => h9) rfl (by decide +kernel) rfl rfl (Nat.le_of_ble_eq_true rfl) d_BL_clear_2 (fun H locs hP hD hS => ?_)
  rw [zw_setx (Nat.le_of_ble_eq_true rfl)] at hP hD
  refine lv_aload_n hx hb d_BL_clear_5 rfl (lv_at hl 0 rfl) ?_
  refine lv_iconst (v := 0) hx hb d_BL_clear_6 (by decide) ?_
  refine lv_topi (fun z_12 ez_12 => ?_)
  rw [← nI_0] at ez_12
  subst ez_12
  refine va_put (D := D) (ci := 4) (v := .int (nI 0)) (ty := .int) (C := "BranchLayout") (T := T_BL) (N := 5) hx hb hts in_BL ty_BL ok_BL nm_BL hown hK.1 hP hD hS 0 (zw_x rfl) rfl 4 (by decide) (hts _ w_27) (fun _ h9 => h9) rfl (by decide +kernel) rfl rfl (Nat.le_of_ble_eq_true rfl) d_BL_clear_7 (fun H locs hP hD hS => ?_)
  rw [zw_setx (Nat.le_of_ble_eq_true rfl)] at hP hD
  have hP : va_P D zcl (zB o cs 0 0 fa fb ad bd c gp mo V) H := hP
  have hD : va_D A (zB o cs 0 0 fa fb ad bd c gp mo V) := hD
  refine lv_aload_n hx hb d_BL_clear_10 rfl (lv_at hl 0 rfl) ?_
  refine va_get (D := D) (ci := 4) (v := .ref o.2.2.2) (C := "BranchLayout") (T := T_BL) (N := 5) hx hb hts in_BL hown hK.1 hP 0 (zb_x rfl) rfl 2 (by decide) (hts _ w_25) (fun _ h9 => h9) rfl d_BL_clear_11 ?_
  refine lv_iconst (v := 0) hx hb d_BL_clear_14 (by decide) ?_
  refine zcS [.ref o.2.2.2, .int 0] [] E (t_Ar_fill l D cs A o 0 0 fa fb ad bd c gp mo V 0) d_BL_clear_15 w_44 w_45 w_3 w_46 ⟨by decide +kernel, by decide +kernel, (by decide +kernel : Option.map (fun d => d.parameters.length) (parseMethodDescriptor "([II)V") = some 2)⟩ ⟨(Nat.le_of_ble_eq_true rfl), (Nat.le_of_ble_eq_true rfl)⟩ ⟨(Nat.le_of_ble_eq_true rfl), (Nat.le_of_ble_eq_true rfl)⟩ rfl (Nat.le_of_ble_eq_true rfl) hl.1 hK ⟨hP, hD⟩ hS (fun _ h => h) (zkv fun H locs hq _ _ hS => ?_)
  refine zrv E d_BL_clear_18 hS (Nat.le_of_ble_eq_true rfl) (Nat.le_of_ble_eq_true rfl) ?_
  exact ⟨rfl, fa, fb, ad, bd, fun k hk => absurd hk (Nat.not_lt_zero k), fun k hk => absurd hk (Nat.not_lt_zero k), hq⟩
/-- the section of a place, if there is such a place -/
def zpse (sc lc : Nat) (c : Nat → Nat → Nat) (p : Int32) : Option Nat := if p < 0 then (if zst sc (-2 - p) then some (c 1 (-2 - p).toNatClampNeg) else none) else if zst lc p then some (c 3 p.toNatClampNeg) else none
def zgoc (sc lc : Nat) (c : Nat → Nat → Nat) (x p : Int32) : Prop := zst sc x = true ∧ c 0 x.toNatClampNeg = 2 ∧ zpse sc lc c p = some (c 1 x.toNatClampNeg)
def zgoq (sc lc : Nat) (c : Nat → Nat → Nat) (x p : Int32) (Wo Wn : Heap → Prop) (r : Int32) (H : Heap) : Prop := (zgoc sc lc c x p ∧ r = 1 ∧ Wn H) ∨ (¬ zgoc sc lc c x p ∧ r = 0 ∧ Wo H)
theorem zpn_none {sc lc : Nat} {ad bd : Nat → Nat} {c : Nat → Nat → Nat} {p : Int32} (h : zpn sc lc ad bd p = none) : zpse sc lc c p = none := by
  unfold zpn at h
  unfold zpse
  by_cases hp : p < 0
  · rw [if_pos hp] at h ⊢
    cases hz : zst sc (-2 - p) with
    | false => rfl
    | true => rw [zsn_t hz] at h; cases h
  · rw [if_neg hp] at h ⊢
    cases hz : zst lc p with
    | false => rfl
    | true => rw [zsn_t hz] at h; cases h
theorem zpn_some {sc lc a : Nat} {ad bd : Nat → Nat} {c : Nat → Nat → Nat} {p : Int32} (hs : sc ≤ 4096) (hl : lc ≤ 1024) (h : zpn sc lc ad bd p = some a) : zga ad bd p = some a ∧ zvalid sc lc p ∧ ((∃ i, i < sc ∧ a = ad i ∧ zpse sc lc c p = some (c 1 i)) ∨ ∃ j, j < lc ∧ a = bd j ∧ zpse sc lc c p = some (c 3 j)) := by
  unfold zpn at h
  unfold zpse
  by_cases hp : p < 0
  · rw [if_pos hp] at h
    cases hz : zst sc (-2 - p) with
    | false => rw [zsn_f hz] at h; cases h
    | true =>
      rw [zsn_t hz] at h
      obtain ⟨i, hi, e1, e2⟩ := zst_of (by omega) hz
      have e3 : p = -2 - nI i := by
        rw [← e1]
        apply Int32.toBitVec_inj.mp
        simp only [Int32.toBitVec_sub]
        bv_omega
      have e4 : ¬ p = -1 := by rw [e3]; exact (zm2 (by omega)).2.2
      cases h
      refine ⟨by simp only [zga, e4, hp, if_false, if_true], Or.inr (Or.inr ⟨i, hi, e3⟩), Or.inl ⟨i, hi, by rw [e2], by rw [if_pos hp]; simp only [if_true, e2]⟩⟩
  · rw [if_neg hp] at h
    cases hz : zst lc p with
    | false => rw [zsn_f hz] at h; cases h
    | true =>
      rw [zsn_t hz] at h
      obtain ⟨j, hj, e1, e2⟩ := zst_of (by omega) hz
      have e4 : ¬ p = -1 := fun q => hp (by rw [q]; decide)
      cases h
      refine ⟨by simp only [zga, e4, hp, if_false], Or.inr (Or.inl ⟨j, hj, e1⟩), Or.inr ⟨j, hj, by rw [e2], by rw [if_neg hp]; simp only [if_true, e2]⟩⟩
theorem zp_get_section {p : Program} {l : Launch} {e : Env} {R : Room} {s : State} {m : MethodId} {av : Array Value} {below : List Frame} {meth : Method} {cd : Code} {H : Heap} {locs : List Loc} {cells slots : Nat} {Q : State → Prop} {own nm : String} {cc : ByteArray} {nL : Nat} {r : Option FieldType} {pc : Nat} {ls : Array Slot} {rest : List Value} {D : va_G} {o : Nat × Nat × Nat × Nat} {cs : ClassId × ClassId × ClassId × ClassId} {sc lc g : Nat} {fa fb : Nat → Option Nat} {ad bd : Nat → Nat} {c : Nat → Nat → Nat} {gp mo : Nat → Int32} {V : Nat → Nat → Int32} {pl : Int32} (E : zE p s m meth cd av own nm cc nL r) (hK : zK D cs s) (hP : va_P D zcl (zB o cs sc lc fa fb ad bd c gp mo V) H) (hg3 : (∃ i, i < sc ∧ g = ad i ∧ zpse sc lc c pl = some (c 1 i)) ∨ ∃ j, j < lc ∧ g = bd j ∧ zpse sc lc c pl = some (c 3 j)) {idx : Nat} (hlink : Cond.fieldLink own idx "BranchLayout$Place" "section" "I" ∈ zt) (hdg : decode cc pc = .ok (.getfield idx, 3))
    (kk : ∀ u, zpse sc lc c pl = some u → W p l e R s m av below meth cd H locs cells slots Q (F0 m (pc + 3) ls (.int (nI u) :: rest))) : W p l e R s m av below meth cd H locs cells slots Q (F0 m pc ls (.ref g :: rest)) := by
  rcases hg3 with ⟨i, hi, rfl, hu⟩ | ⟨j, hj, rfl, hu⟩
  · exact zs_get_section E hK hP hi hlink (fun _ h9 => h9) hdg (kk _ hu)
  · obtain ⟨hx, hb, hr, hts, hown, hlocks, hml, hin⟩ := E
    exact va_get (D := D) (ci := 3) (v := .int (nI (c 3 j))) (C := "BranchLayout$Label") (T := T_La) (N := 3) hx hb hts in_La hown hK.1 hP (4 + sc + j) (zb_l hj) rfl 0 (by decide) (hts _ hlink) (fun _ h9 => h9) rfl hdg (kk _ hu)
set_option maxHeartbeats 4000000 in
set_option maxRecDepth 100000 in
theorem t_BL_go (l : Launch) (D : va_G) (cs : ClassId × ClassId × ClassId × ClassId) (A : Nat → Prop) (o : Nat × Nat × Nat × Nat) (sc lc : Nat) (c : Nat → Nat → Nat) (gp mo : Nat → Int32) (V : Nat → Nat → Int32) (hI : zI sc lc c gp) (x pl mr : Int32) : zMet l D cs y_BL_go c_BL_go 6 (some FieldType.boolean) ({ frames := 2, cells := 0, slots := 0, locals := 42 } : Room) [.ref o.1, .int x, .int pl, .int mr] (zCW D A o cs sc lc c gp mo V) A (zqi (zgoq sc lc c x pl (zCW D A o cs sc lc c gp mo V) (fun H => zCW D A o cs sc lc c (upd gp x.toNatClampNeg pl) (upd mo x.toNatClampNeg mr) V H))) := by
  refine zmk (by decide) (Nat.le_of_ble_eq_true rfl) ?_
  intro p e s m below meth cd ls E hK hP0 hl
  have hS : va_S A s.heap s.heap [] := va_S.rf
  obtain ⟨fa, fb, ad, bd, hfa, hfb, hw⟩ := id hP0
  obtain ⟨hP, hD⟩ := id hw
  obtain ⟨hx, hb, hr, hts, hown, hlocks, hml, hin⟩ := id E
  have hl : lv_has ls 6 [(0, .ref o.1), (1, .int x), (2, .int pl), (3, .int mr)] := hl
  refine lv_aload_n hx hb d_BL_go_0 rfl (lv_at hl 0 rfl) ?_
  refine lv_iload_n hx hb d_BL_go_1 rfl (lv_at hl 1 rfl) ?_
  refine zcV [.int x] [] E (t_BL_statementNumbered l D cs A o sc lc fa fb ad bd c gp mo V hI.1 hfa x _ hw) d_BL_go_2 w_179 w_181 ws_BL_statementNumbered w_1 w_182 ⟨rfl, by decide +kernel, by decide +kernel, (by decide +kernel : Option.map (fun d => d.parameters.length) (parseMethodDescriptor "(I)LBranchLayout$Statement;") = some 1)⟩ ⟨(Nat.le_of_ble_eq_true rfl), (Nat.le_of_ble_eq_true rfl)⟩ ⟨(Nat.le_of_ble_eq_true rfl), (Nat.le_of_ble_eq_true rfl)⟩ rfl (Nat.le_of_ble_eq_true rfl) hl.1 (zrec hK hP (ci := 4) (i := 0) rfl (zb_x rfl)) hK rfl hS (fun _ h => h.elim) (zkr fun r H locs hq _ _ hS => ?_)
  obtain ⟨rfl, rfl⟩ := hq
  cases hz : zst sc x with
  | false =>
    rw [zsn_f hz]
    refine lv_astoreN (lv' := [(5, .null), (0, .ref o.1), (1, .int x), (2, .int pl), (3, .int mr)]) hx hb d_BL_go_5 hl (by decide) rfl (fun ls hl => ?_)
    refine lv_aloadN hx hb d_BL_go_7 (lv_at hl 0 rfl) ?_
    refine lv_instN hx hb d_BL_go_9 ?_
    refine lv_if_eq (tgt := 25) hx hb d_BL_go_12 (by decide) (fun c_13 => ?_) (fun c_13 => ?_)
    · skip
      refine lv_iconst (v := 0) hx hb d_BL_go_25 (by decide) ?_
      refine zrz E d_BL_go_26 (by decide) hS (Nat.le_of_ble_eq_true rfl) (Nat.le_of_ble_eq_true rfl) ?_
      exact ⟨_, rfl, Or.inr ⟨fun q => (by have q1 := q.1; rw [hz] at q1; exact Bool.noConfusion q1), rfl, hP0⟩⟩
    · skip
      exact absurd rfl c_13
  | true =>
    rw [zsn_t hz]
    obtain ⟨k, hk, ex, ek⟩ := zst_of (by have := hI.1; omega) hz
    rw [ek]
    refine lv_astore (lv' := [(5, .ref (ad k)), (0, .ref o.1), (1, .int x), (2, .int pl), (3, .int mr)]) hx hb d_BL_go_5 hl (by decide) rfl (fun ls hl => ?_)
    refine lv_aload hx hb d_BL_go_7 (lv_at hl 0 rfl) ?_
    by_cases h2k : c 0 k = 2
    · skip
      have hc : (zB o cs sc lc fa fb ad bd c gp mo V)[4 + k]? = some (ad k, .inr (1, [.int (V 1 k), .int (nI (c 1 k)), .int (V 0 k), .int (nI (c 2 k)), va_rf (zga ad bd (gp k)), .int (mo k), .int (V 2 k), .int (V 3 k)])) := by rw [zb_s hk]; simp only [zcell, h2k, if_true]
      refine va_instY hx hb hown (hts _ w_131) (C := "BranchLayout$Branch") hK.2.2.2.2.2.1 (zrec hK hP rfl hc) d_BL_go_9 ?_
      refine lv_if_eq (tgt := 25) hx hb d_BL_go_12 (by decide) (fun c_16 => ?_) (fun c_16 => ?_)
      · skip
        exact absurd c_16 (by decide)
      · skip
        refine lv_aload hx hb d_BL_go_15 (lv_at hl 0 rfl) ?_
        refine va_castY hx hb hown (hts _ w_131) (C := "BranchLayout$Branch") hK.2.2.2.2.2.1 (zrec hK hP rfl hc) d_BL_go_17 ?_
        refine lv_astore (lv' := [(4, .ref (ad k)), (5, .ref (ad k)), (0, .ref o.1), (1, .int x), (2, .int pl), (3, .int mr)]) hx hb d_BL_go_20 hl (by decide) rfl (fun ls hl => ?_)
        refine lv_goto (tgt := 27) hx hb d_BL_go_22 (by decide) ?_
        refine lv_aload_n hx hb d_BL_go_27 rfl (lv_at hl 2 rfl) ?_
        refine lv_iload_n hx hb d_BL_go_28 rfl (lv_at hl 4 rfl) ?_
        refine zcV [.int pl] [] E (t_BL_placeNamed l D cs A o sc lc fa fb ad bd c gp mo V hI.1 hfa hI.2.1 hfb pl _ hw) d_BL_go_29 w_183 w_185 ws_BL_placeNamed w_1 w_186 ⟨rfl, by decide +kernel, by decide +kernel, (by decide +kernel : Option.map (fun d => d.parameters.length) (parseMethodDescriptor "(I)LBranchLayout$Place;") = some 1)⟩ ⟨(Nat.le_of_ble_eq_true rfl), (Nat.le_of_ble_eq_true rfl)⟩ ⟨(Nat.le_of_ble_eq_true rfl), (Nat.le_of_ble_eq_true rfl)⟩ rfl (Nat.le_of_ble_eq_true rfl) hl.1 (zrec hK hP (ci := 4) (i := 0) rfl (zb_x rfl)) hK rfl hS (fun _ h => h.elim) (zkr fun r H locs hq _ _ hS => ?_)
        obtain ⟨rfl, er⟩ := hq
        cases r with
        | none =>
          refine lv_astoreN (lv' := [(5, .null), (4, .ref (ad k)), (0, .ref o.1), (1, .int x), (2, .int pl), (3, .int mr)]) hx hb d_BL_go_32 hl (by decide) rfl (fun ls hl => ?_)
          refine lv_aloadN hx hb d_BL_go_34 (lv_at hl 0 rfl) ?_
          refine lv_ifnullN (tgt := 52) hx hb d_BL_go_36 (by decide) ?_
          refine lv_iconst (v := 0) hx hb d_BL_go_52 (by decide) ?_
          refine zrz E d_BL_go_53 (by decide) hS (Nat.le_of_ble_eq_true rfl) (Nat.le_of_ble_eq_true rfl) ?_
          exact ⟨_, rfl, Or.inr ⟨fun q => (by have q1 := q.2.2; rw [zpn_none er.symm] at q1; cases q1), rfl, hP0⟩⟩
        | some g =>
          refine lv_astore (lv' := [(5, .ref g), (4, .ref (ad k)), (0, .ref o.1), (1, .int x), (2, .int pl), (3, .int mr)]) hx hb d_BL_go_32 hl (by decide) rfl (fun ls hl => ?_)
          refine lv_aload hx hb d_BL_go_34 (lv_at hl 0 rfl) ?_
          refine lv_ifnull hx hb d_BL_go_36 ?_
          refine lv_aload hx hb d_BL_go_39 (lv_at hl 0 rfl) ?_
          obtain ⟨hg1, hg2, hg3⟩ := zpn_some (c := c) hI.1 hI.2.1 er.symm
          refine zp_get_section E hK hP hg3 w_73 d_BL_go_41 (fun u hu => ?_)
          refine lv_aload hx hb d_BL_go_44 (lv_at hl 1 rfl) ?_
          refine zs_get_section E hK hP hk w_74 (u_same (hts _ w_75)) d_BL_go_46 ?_
          refine lv_icmp_eq (tgt := 54) hx hb d_BL_go_49 (by decide) (fun c_17 => ?_) (fun c_17 => ?_)
          · skip
            have hul : u < 4 := by
              rcases hg3 with ⟨i, hi, -, hu2⟩ | ⟨j, hj, -, hu2⟩
              · rw [hu2] at hu; cases hu; exact (hI.2.2.1 i hi).2.1
              · rw [hu2] at hu; cases hu; exact (hI.2.2.2.1 j hj).1
            have hkl := (hI.2.2.1 k hk).2.1
            have huk : u = c 1 k := (nI_eq (by omega) (by omega)).mp c_17
            have hgo : zgoc sc lc c x pl := ⟨hz, by rw [ek]; exact h2k, by rw [ek, hu, huk]⟩
            refine lv_aload hx hb d_BL_go_54 (lv_at hl 1 rfl) ?_
            refine lv_aload hx hb d_BL_go_56 (lv_at hl 0 rfl) ?_
            refine va_putN (D := D) (ci := 1) (v := .ref g) (ty := .object "BranchLayout$Place") (C := "BranchLayout$Branch") (T := T_Br) (N := 8) (host := "BranchLayout") hx hb hts in_Br ty_Br ok_Br nm_Br hown hK.1 hP hD hS (4 + k) hc rfl 4 (by decide) (va_Nw.use rfl hK.2.1) (fun _ h9 => h9) rfl (by decide +kernel) rfl rfl (Nat.le_of_ble_eq_true rfl) d_BL_go_58 (fun H locs hP hD hS => ?_)
            have e1 := zb_sets (o := o) (cs := cs) (lc := lc) (fa := fa) (fb := fb) (ad := ad) (bd := bd) (c := c) (gp := gp) (mo := mo) (gp' := upd gp k pl) (mo' := mo) (V := V) (V' := V) hk rfl (fun i _ h => by simp only [zcell, upd, h, if_false]) rfl rfl
            simp only [zcell, h2k, if_true, upd, hg1] at e1
            have hP : va_P D zcl (zB o cs sc lc fa fb ad bd c (upd gp k pl) mo V) H := by rw [← e1]; exact hP
            have hD : va_D A (zB o cs sc lc fa fb ad bd c (upd gp k pl) mo V) := by rw [← e1]; exact hD
            have hc : (zB o cs sc lc fa fb ad bd c (upd gp k pl) mo V)[4 + k]? = some (ad k, .inr (1, [.int (V 1 k), .int (nI (c 1 k)), .int (V 0 k), .int (nI (c 2 k)), va_rf (some g), .int (mo k), .int (V 2 k), .int (V 3 k)])) := by rw [zb_s hk]; simp only [zcell, h2k, if_true, upd, hg1]
            refine lv_aload hx hb d_BL_go_61 (lv_at hl 1 rfl) ?_
            refine lv_iload_n hx hb d_BL_go_63 rfl (lv_at hl 5 rfl) ?_
            refine va_putN (D := D) (ci := 1) (v := .int mr) (ty := .int) (C := "BranchLayout$Branch") (T := T_Br) (N := 8) (host := "BranchLayout") hx hb hts in_Br ty_Br ok_Br nm_Br hown hK.1 hP hD hS (4 + k) hc rfl 5 (by decide) (va_Nw.use rfl hK.2.2.1) (fun _ h9 => h9) rfl (by decide +kernel) rfl rfl (Nat.le_of_ble_eq_true rfl) d_BL_go_64 (fun H locs hP hD hS => ?_)
            have e2 := zb_sets (o := o) (cs := cs) (lc := lc) (fa := fa) (fb := fb) (ad := ad) (bd := bd) (c := c) (gp := upd gp k pl) (mo := mo) (gp' := upd gp k pl) (mo' := upd mo k mr) (V := V) (V' := V) hk rfl (fun i _ h => by simp only [zcell, upd, h, if_false]) rfl rfl
            simp only [zcell, h2k, if_true, upd, hg1] at e2
            refine lv_iconst (v := 1) hx hb d_BL_go_67 (by decide) ?_
            refine zrz E d_BL_go_68 (by decide) hS (Nat.le_of_ble_eq_true rfl) (Nat.le_of_ble_eq_true rfl) ?_
            refine ⟨_, rfl, Or.inl ⟨hgo, rfl, fa, fb, ad, bd, hfa, hfb, ?_⟩⟩
            exact ⟨by rw [← e2]; exact hP, by rw [← e2]; exact hD⟩
          · skip
            refine lv_iconst (v := 0) hx hb d_BL_go_52 (by decide) ?_
            refine zrz E d_BL_go_53 (by decide) hS (Nat.le_of_ble_eq_true rfl) (Nat.le_of_ble_eq_true rfl) ?_
            exact ⟨_, rfl, Or.inr ⟨fun q => c_17 (by have q1 := q.2.2; rw [hu, ek] at q1; rw [Option.some.inj q1]), rfl, hP0⟩⟩
    · skip
      by_cases h1k : c 0 k = 1
      · skip
        have hc : (zB o cs sc lc fa fb ad bd c gp mo V)[4 + k]? = some (ad k, .inr (0, [.int (V 1 k), .int (nI (c 1 k)), .int (V 0 k), .int (nI (c 2 k))])) := by rw [zb_s hk]; simp only [zcell, h1k, if_true, if_false, show ¬ ((1 : Nat) = 2) by decide]
        refine va_instNo hx hb hown (hts _ w_131) (C := "BranchLayout$Alignment") hK.2.2.2.2.2.2.2.2.2.2.2.1 (zrec hK hP rfl hc) d_BL_go_9 ?_
        refine lv_if_eq (tgt := 25) hx hb d_BL_go_12 (by decide) (fun c_18 => ?_) (fun c_18 => ?_)
        · skip
          refine lv_iconst (v := 0) hx hb d_BL_go_25 (by decide) ?_
          refine zrz E d_BL_go_26 (by decide) hS (Nat.le_of_ble_eq_true rfl) (Nat.le_of_ble_eq_true rfl) ?_
          exact ⟨_, rfl, Or.inr ⟨fun q => h2k (by have q1 := q.2.1; rw [ek] at q1; exact q1), rfl, hP0⟩⟩
        · skip
          exact absurd rfl c_18
      · skip
        have hc : (zB o cs sc lc fa fb ad bd c gp mo V)[4 + k]? = some (ad k, .inr (2, [.int (V 1 k), .int (nI (c 1 k)), .int (V 0 k), .int (nI (c 2 k))])) := by rw [zb_s hk]; simp only [zcell, h2k, h1k, if_false]
        refine va_instNo hx hb hown (hts _ w_131) (C := "BranchLayout$Bytes") hK.2.2.2.2.2.2.2.2.2.2.2.2 (zrec hK hP rfl hc) d_BL_go_9 ?_
        refine lv_if_eq (tgt := 25) hx hb d_BL_go_12 (by decide) (fun c_19 => ?_) (fun c_19 => ?_)
        · skip
          refine lv_iconst (v := 0) hx hb d_BL_go_25 (by decide) ?_
          refine zrz E d_BL_go_26 (by decide) hS (Nat.le_of_ble_eq_true rfl) (Nat.le_of_ble_eq_true rfl) ?_
          exact ⟨_, rfl, Or.inr ⟨fun q => h2k (by have q1 := q.2.1; rw [ek] at q1; exact q1), rfl, hP0⟩⟩
        · skip
          exact absurd rfl c_19
end
section
def zbr (V : Nat → Nat → Int32) : Nat → Bool := fun k => decide (V 2 k = 1)
theorem zal_le (n e : Nat) : zal n e ≤ n := Nat.le_trans (Nat.mod_le _ _) (Nat.sub_le _ _)
theorem zln_le {c : Nat → Nat → Nat} {br : Nat → Bool} {k e : Nat} (h : c 2 k ≤ 65536) : zln c br k e ≤ 65536 := by
  unfold zln
  have := zal_le (c 2 k) e
  split
  · split
    · omega
    · exact h
  · split
    · omega
    · exact h
theorem zSZ_le {c : Nat → Nat → Nat} {br : Nat → Bool} {sc B : Nat} (h : ∀ k, k < sc → ∀ e, zln c br k e ≤ B) : ∀ k i, k ≤ sc → zSZ c br k i ≤ k * B
  | 0, _, _ => by simp [zSZ]
  | k + 1, i, hk => by
    have h1 := zSZ_le h k i (by omega)
    have h2 := h k (by omega) (zSZ c br k i)
    have e : (k + 1) * B = k * B + B := Nat.succ_mul _ _
    rw [e]
    unfold zSZ
    split <;> omega
theorem zSZ_lt {c : Nat → Nat → Nat} {br : Nat → Bool} {sc lc : Nat} {gp : Nat → Int32} (hI : zI sc lc c gp) {k i : Nat} (hk : k ≤ sc) : zSZ c br k i < 2 ^ 30 := by
  have h1 := zSZ_le (br := br) (fun k hk e => zln_le (hI.2.2.1 k hk).2.2.1) k i hk
  have h2 : k * 65536 ≤ 4096 * 65536 := Nat.mul_le_mul_right _ (Nat.le_trans hk hI.1)
  exact Nat.lt_of_le_of_lt (Nat.le_trans h1 h2) (by decide)
theorem zneg_mask {e : Nat} (he : e < 2 ^ 31) : ∀ p, p ≤ 12 → (-nI e) &&& (nI (2 ^ p) - 1) = nI (zal (2 ^ p) e) := by
  intro p hp
  have hx : (-nI e).toBitVec.toNat = (2 ^ 32 - e) % 2 ^ 32 := by
    rw [Int32.toBitVec_neg, BitVec.toNat_neg, pk_tn (by omega)]
  have hm : ∀ p, p ≤ 12 → (nI (2 ^ p) - 1).toBitVec.toNat = 2 ^ p - 1 := by decide
  rw [pk_and _ p (hm p hp), hx]
  congr 1
  unfold zal
  have : p = 0 ∨ p = 1 ∨ p = 2 ∨ p = 3 ∨ p = 4 ∨ p = 5 ∨ p = 6 ∨ p = 7 ∨ p = 8 ∨ p = 9 ∨ p = 10 ∨ p = 11 ∨ p = 12 := by omega
  rcases this with rfl | rfl | rfl | rfl | rfl | rfl | rfl | rfl | rfl | rfl | rfl | rfl | rfl <;> simp only [Nat.reducePow] <;> omega
/-- after k statements and p labels of the walk -/
def zT (c : Nat → Nat → Nat) (br : Nat → Bool) (V : Nat → Nat → Int32) (k p : Nat) : Nat → Nat → Int32 := fun f i =>
  if f = 0 ∧ i < k then nI (zSZ c br i (c 1 i)) else if f = 1 ∧ i < k then nI (zln c br i (zSZ c br i (c 1 i))) else if f = 4 ∧ i < p then nI (zSZ c br (c 4 i) (c 3 i)) else if f = 5 ∧ i < 4 then nI (zSZ c br k i) else V f i
theorem zT_0 {c : Nat → Nat → Nat} {br : Nat → Bool} {V : Nat → Nat → Int32} : zfl V 0 = zT c br V 0 0 := by
  funext f i
  by_cases h5 : f = 5
  · subst h5
    by_cases h0 : i = 0
    · subst h0; simp [zfl, zu, zT, zSZ, nI_0]
    · by_cases h1 : i = 1
      · subst h1; simp [zfl, zu, zT, zSZ, nI_0]
      · by_cases h2 : i = 2
        · subst h2; simp [zfl, zu, zT, zSZ, nI_0]
        · by_cases h3 : i = 3
          · subst h3; simp [zfl, zu, zT, zSZ, nI_0]
          · have : ¬ i < 4 := by omega
            simp [zfl, zu, zT, h0, h1, h2, h3, this]
  · simp [zfl, zu, zT, h5]
theorem zT_2 {c : Nat → Nat → Nat} {br : Nat → Bool} {V : Nat → Nat → Int32} {k p i : Nat} : zT c br V k p 2 i = V 2 i := by simp [zT]
theorem zT_3 {c : Nat → Nat → Nat} {br : Nat → Bool} {V : Nat → Nat → Int32} {k p i : Nat} : zT c br V k p 3 i = V 3 i := by simp [zT]
theorem zT_br {c : Nat → Nat → Nat} {br : Nat → Bool} {V : Nat → Nat → Int32} {k p : Nat} : zbr (zT c br V k p) = zbr V := by
  funext i
  simp [zbr, zT_2]
theorem zT_5 {c : Nat → Nat → Nat} {br : Nat → Bool} {V : Nat → Nat → Int32} {k p i : Nat} (h : i < 4) : zT c br V k p 5 i = nI (zSZ c br k i) := by simp [zT, h]
theorem zT_s {c : Nat → Nat → Nat} {br : Nat → Bool} {V : Nat → Nat → Int32} {k p : Nat} (h : c 1 k < 4) : zu (zu (zu (zT c br V k p) 0 k (nI (zSZ c br k (c 1 k)))) 1 k (nI (zln c br k (zSZ c br k (c 1 k))))) 5 (c 1 k) (nI (zSZ c br k (c 1 k) + zln c br k (zSZ c br k (c 1 k)))) = zT c br V (k + 1) p := by
  funext f i
  by_cases h0 : f = 0
  · subst h0
    by_cases hi : i = k
    · subst hi; simp [zu, zT]
    · have : (i < k + 1) = (i < k) := by apply propext; omega
      simp [zu, zT, hi, this]
  · by_cases h1 : f = 1
    · subst h1
      by_cases hi : i = k
      · subst hi; simp [zu, zT]
      · have : (i < k + 1) = (i < k) := by apply propext; omega
        simp [zu, zT, hi, this]
    · by_cases h5 : f = 5
      · subst h5
        by_cases hi : i = c 1 k
        · subst hi; simp [zu, zT, h, zSZ]
        · have hne : ¬ c 1 k = i := fun q => hi q.symm
          simp [zu, zT, hi, zSZ, hne]
      · simp [zu, zT, h0, h1, h5]
/-- labels a .. b - 1 told by the sizes as they are -/
def zTl (c : Nat → Nat → Nat) (V : Nat → Nat → Int32) (a b : Nat) : Nat → Nat → Int32 := fun f i => if f = 4 ∧ a ≤ i ∧ i < b then V 5 (c 3 i) else V f i
theorem zTl_0 {c : Nat → Nat → Nat} {V : Nat → Nat → Int32} {a : Nat} : V = zTl c V a a := by
  funext f i
  have : ¬ (f = 4 ∧ a ≤ i ∧ i < a) := by omega
  simp [zTl, this]
theorem zTl_s {c : Nat → Nat → Nat} {V : Nat → Nat → Int32} {a b : Nat} (h : a ≤ b) : zu (zTl c V a b) 4 b (V 5 (c 3 b)) = zTl c V a (b + 1) := by
  funext f i
  by_cases hf : f = 4
  · subst hf
    by_cases hi : i = b
    · subst hi; simp [zu, zTl, h]
    · have : (i < b + 1) = (i < b) := by apply propext; omega
      simp [zu, zTl, hi, this]
  · simp [zu, zTl, hf]
theorem zTl_5 {c : Nat → Nat → Nat} {V : Nat → Nat → Int32} {a b : Nat} : zTl c V a b 5 = V 5 := by
  funext i
  simp [zTl]
theorem zT_l {c : Nat → Nat → Nat} {br : Nat → Bool} {V : Nat → Nat → Int32} {k p q : Nat} (hpq : p ≤ q) (h : ∀ j, p ≤ j → j < q → c 4 j = k ∧ c 3 j < 4) : zTl c (zT c br V k p) p q = zT c br V k q := by
  funext f i
  by_cases hf : f = 4
  · subst hf
    by_cases hi : p ≤ i ∧ i < q
    · obtain ⟨e1, e2⟩ := h i hi.1 hi.2
      simp [zTl, zT, hi.1, hi.2, e1, e2]
    · by_cases h1 : i < p
      · have h2 : i < q := by omega
        have h3 : ¬ p ≤ i := by omega
        simp [zTl, zT, h1, h2, h3]
      · have h2 : ¬ i < q := by omega
        simp [zTl, zT, h1, h2]
  · simp [zTl, zT, hf]
/-- branches 0 .. k - 1 looked at -/
def zLn (gp mo : Nat → Int32) (V : Nat → Nat → Int32) (k : Nat) : Nat → Nat → Int32 := fun f i =>
  if f = 2 ∧ i < k then (if V 2 i = 1 ∧ zok (zdi gp mo V i) = false then 0 else V 2 i) else if f = 3 ∧ i < k ∧ V 2 i = 1 then (if zok (zdi gp mo V i) then (zdi gp mo V i).toInt32 else 0) else V f i
/-- branch k looked at -/
def zLk (gp mo : Nat → Int32) (V : Nat → Nat → Int32) (k : Nat) : Nat → Nat → Int32 := if V 2 k = 1 then (if zok (zdi gp mo V k) then zu (zu V 2 k 1) 3 k (zdi gp mo V k).toInt32 else zu (zu V 2 k 0) 3 k 0) else V
theorem zLn_0 {gp mo : Nat → Int32} {V : Nat → Nat → Int32} : V = zLn gp mo V 0 := by
  funext f i
  simp [zLn]
theorem zLn_di {gp mo : Nat → Int32} {V : Nat → Nat → Int32} {k i : Nat} : zdi gp mo (zLn gp mo V k) i = zdi gp mo V i := by simp [zdi, zgat, zLn]
theorem zLn_s {gp mo : Nat → Int32} {V : Nat → Nat → Int32} {k : Nat} : zLk gp mo (zLn gp mo V k) k = zLn gp mo V (k + 1) := by
  have e2 : zLn gp mo V k 2 k = V 2 k := by simp [zLn]
  unfold zLk
  rw [zLn_di, e2]
  funext f i
  by_cases hk : i = k
  · subst hk
    by_cases h1 : V 2 i = 1
    · cases ho : zok (zdi gp mo V i) with
      | true =>
        by_cases f2 : f = 2
        · subst f2; simp [h1, ho, zu, zLn]
        · by_cases f3 : f = 3
          · subst f3; simp [h1, ho, zu, zLn]
          · simp [h1, ho, zu, zLn, f2, f3]
      | false =>
        by_cases f2 : f = 2
        · subst f2; simp [h1, ho, zu, zLn]
        · by_cases f3 : f = 3
          · subst f3; simp [h1, ho, zu, zLn]
          · simp [h1, ho, zu, zLn, f2, f3]
    · simp [h1, zLn]
      intro hf; rw [hf]
  · have hlt : (i < k + 1) = (i < k) := by apply propext; omega
    have hz : ∀ x y : Int32, zu (zu (zLn gp mo V k) 2 k x) 3 k y f i = zLn gp mo V k f i := fun x y => by simp [zu, hk]
    have hr : zLn gp mo V (k + 1) f i = zLn gp mo V k f i := by simp only [zLn, hlt]
    rw [hr]
    split
    · split
      · exact hz _ _
      · exact hz _ _
    · rfl
/-- all that go are short -/
def zSh (c : Nat → Nat → Nat) (gp : Nat → Int32) (V : Nat → Nat → Int32) (k : Nat) : Nat → Nat → Int32 := fun f i => if f = 2 ∧ i < k ∧ c 0 i = 2 then (if gp i = -1 then 0 else 1) else V f i
theorem zSh_0 {c : Nat → Nat → Nat} {gp : Nat → Int32} {V : Nat → Nat → Int32} : V = zSh c gp V 0 := by
  funext f i
  simp [zSh]
theorem zSh_b {c : Nat → Nat → Nat} {gp : Nat → Int32} {V : Nat → Nat → Int32} {k : Nat} (h : c 0 k = 2) : zu (zSh c gp V k) 2 k (if gp k = -1 then 0 else 1) = zSh c gp V (k + 1) := by
  funext f i
  by_cases hf : f = 2
  · subst hf
    by_cases hi : i = k
    · subst hi; simp [zu, zSh, h]
    · have : (i < k + 1) = (i < k) := by apply propext; omega
      simp [zu, zSh, hi, this]
  · simp [zu, zSh, hf]
theorem zSh_n {c : Nat → Nat → Nat} {gp : Nat → Int32} {V : Nat → Nat → Int32} {k : Nat} (h : ¬ c 0 k = 2) : zSh c gp V k = zSh c gp V (k + 1) := by
  funext f i
  by_cases hi : i = k
  · subst hi; simp [zSh, h]
  · have : (i < k + 1) = (i < k) := by apply propext; omega
    simp [zSh, this]
/-- long branches among the first k -/
def zct (c : Nat → Nat → Nat) (V : Nat → Nat → Int32) : Nat → Nat
  | 0 => 0
  | k + 1 => zct c V k + (if c 0 k = 2 ∧ V 2 k = 0 then 1 else 0)
theorem zct_le {c : Nat → Nat → Nat} {V : Nat → Nat → Int32} : ∀ k, zct c V k ≤ k
  | 0 => Nat.le_refl _
  | k + 1 => by
    have := zct_le (c := c) (V := V) k
    unfold zct
    split <;> omega
end
section
section ZK3
variable {o : Nat × Nat × Nat × Nat} {cs : ClassId × ClassId × ClassId × ClassId} {sc lc : Nat} {fa fb : Nat → Option Nat} {ad bd : Nat → Nat} {c : Nat → Nat → Nat} {gp mo : Nat → Int32} {V : Nat → Nat → Int32} {k : Nat}
theorem zc_Br (hk : k < sc) (h2k : c 0 k = 2) : (zB o cs sc lc fa fb ad bd c gp mo V)[4 + k]? = some (ad k, .inr (1, [.int (V 1 k), .int (nI (c 1 k)), .int (V 0 k), .int (nI (c 2 k)), va_rf (zga ad bd (gp k)), .int (mo k), .int (V 2 k), .int (V 3 k)])) := by rw [zb_s hk]; simp only [zcell, h2k, if_true]
theorem zc_Al (hk : k < sc) (h1k : c 0 k = 1) : (zB o cs sc lc fa fb ad bd c gp mo V)[4 + k]? = some (ad k, .inr (0, [.int (V 1 k), .int (nI (c 1 k)), .int (V 0 k), .int (nI (c 2 k))])) := by rw [zb_s hk]; simp only [zcell, h1k, if_true, if_false, show ¬ ((1 : Nat) = 2) by decide]
theorem zc_By (hk : k < sc) (h2k : ¬ c 0 k = 2) (h1k : ¬ c 0 k = 1) : (zB o cs sc lc fa fb ad bd c gp mo V)[4 + k]? = some (ad k, .inr (2, [.int (V 1 k), .int (nI (c 1 k)), .int (V 0 k), .int (nI (c 2 k))])) := by rw [zb_s hk]; simp only [zcell, h2k, h1k, if_false]
end ZK3
set_option maxHeartbeats 4000000 in
set_option maxRecDepth 100000 in
theorem t_By_lengthFrom (l : Launch) (D : va_G) (cs : ClassId × ClassId × ClassId × ClassId) (A : Nat → Prop) (o : Nat × Nat × Nat × Nat) (sc lc : Nat) (fa fb : Nat → Option Nat) (ad bd : Nat → Nat) (c : Nat → Nat → Nat) (gp mo : Nat → Int32) (V : Nat → Nat → Int32) (k : Nat) (hk : k < sc) (h2k : ¬ c 0 k = 2) (h1k : ¬ c 0 k = 1) (e0 : Nat) (he : e0 < 2 ^ 31) (H1 : Heap) (hw : zH D A (zB o cs sc lc fa fb ad bd c gp mo V) H1) : zMet l D cs y_By_lengthFrom c_By_lengthFrom 2 (some FieldType.int) ({ frames := 0, cells := 0, slots := 0, locals := 0 } : Room) [.ref (ad k), .int (nI e0)] (fun H => H = H1) (fun _ => False) (zqi fun r H => H = H1 ∧ r = nI (zln c (zbr V) k e0)) := by
  refine zmk (by decide) (Nat.le_of_ble_eq_true rfl) ?_
  intro p e s m below meth cd ls E hK hP0 hl
  have hS : va_S (fun _ => False) s.heap s.heap [] := va_S.rf
  subst hP0
  have hP := hw.1
  have hc : (zB o cs sc lc fa fb ad bd c gp mo V)[4 + k]? = some (ad k, .inr (2, [.int (V 1 k), .int (nI (c 1 k)), .int (V 0 k), .int (nI (c 2 k))])) := by rw [zb_s hk]; simp only [zcell, h2k, h1k, if_false]
  obtain ⟨hx, hb, hr, hts, hown, hlocks, hml, hin⟩ := id E
  have hl : lv_has ls 2 [(0, .ref (ad k)), (1, .int (nI e0))] := hl
  refine lv_aload_n hx hb d_By_lengthFrom_0 rfl (lv_at hl 0 rfl) ?_
  refine va_get (D := D) (ci := 2) (v := .int (nI (c 2 k))) (C := "BranchLayout$Bytes") (T := T_By) (N := 4) hx hb hts in_By hown hK.1 hP (4 + k) hc rfl 3 (by decide) (hts _ w_67) (fun _ h9 => h9) rfl d_By_lengthFrom_1 ?_
  refine zri E d_By_lengthFrom_4 hS (Nat.le_of_ble_eq_true rfl) (Nat.le_of_ble_eq_true rfl) ?_
  exact ⟨_, rfl, rfl, by simp only [zln, h2k, h1k, if_false]⟩
set_option maxHeartbeats 4000000 in
set_option maxRecDepth 100000 in
theorem t_Al_lengthFrom (l : Launch) (D : va_G) (cs : ClassId × ClassId × ClassId × ClassId) (A : Nat → Prop) (o : Nat × Nat × Nat × Nat) (sc lc : Nat) (fa fb : Nat → Option Nat) (ad bd : Nat → Nat) (c : Nat → Nat → Nat) (gp mo : Nat → Int32) (V : Nat → Nat → Int32) (k : Nat) (hk : k < sc) (h1k : c 0 k = 1) (hp : ∃ p, p ≤ 12 ∧ c 2 k = 2 ^ p) (e0 : Nat) (he : e0 < 2 ^ 31) (H1 : Heap) (hw : zH D A (zB o cs sc lc fa fb ad bd c gp mo V) H1) : zMet l D cs y_Al_lengthFrom c_Al_lengthFrom 2 (some FieldType.int) ({ frames := 0, cells := 0, slots := 0, locals := 0 } : Room) [.ref (ad k), .int (nI e0)] (fun H => H = H1) (fun _ => False) (zqi fun r H => H = H1 ∧ r = nI (zln c (zbr V) k e0)) := by
  refine zmk (by decide) (Nat.le_of_ble_eq_true rfl) ?_
  intro p e s m below meth cd ls E hK hP0 hl
  have hS : va_S (fun _ => False) s.heap s.heap [] := va_S.rf
  subst hP0
  have hP := hw.1
  have hc : (zB o cs sc lc fa fb ad bd c gp mo V)[4 + k]? = some (ad k, .inr (0, [.int (V 1 k), .int (nI (c 1 k)), .int (V 0 k), .int (nI (c 2 k))])) := by rw [zb_s hk]; simp only [zcell, h1k, if_true, if_false, show ¬ ((1 : Nat) = 2) by decide]
  obtain ⟨hx, hb, hr, hts, hown, hlocks, hml, hin⟩ := id E
  have hl : lv_has ls 2 [(0, .ref (ad k)), (1, .int (nI e0))] := hl
  refine lv_iload_n hx hb d_Al_lengthFrom_0 rfl (lv_at hl 1 rfl) ?_
  refine lv_ineg hx hb d_Al_lengthFrom_1 ?_
  refine lv_aload_n hx hb d_Al_lengthFrom_2 rfl (lv_at hl 0 rfl) ?_
  refine va_get (D := D) (ci := 0) (v := .int (nI (c 2 k))) (C := "BranchLayout$Alignment") (T := T_Al) (N := 4) hx hb hts in_Al hown hK.1 hP (4 + k) hc rfl 3 (by decide) (hts _ w_120) (fun _ h9 => h9) rfl d_Al_lengthFrom_3 ?_
  refine lv_iconst (v := 1) hx hb d_Al_lengthFrom_6 (by decide) ?_
  refine lv_isub hx hb d_Al_lengthFrom_7 ?_
  refine lv_iand hx hb d_Al_lengthFrom_8 ?_
  refine zri E d_Al_lengthFrom_9 hS (Nat.le_of_ble_eq_true rfl) (Nat.le_of_ble_eq_true rfl) ?_
  refine ⟨_, rfl, rfl, ?_⟩
  obtain ⟨p, hp1, hp2⟩ := hp
  rw [hp2, zneg_mask he p hp1]
  simp only [zln, h1k, if_true, if_false, show ¬ ((1 : Nat) = 2) by decide, hp2]
set_option maxHeartbeats 4000000 in
set_option maxRecDepth 100000 in
theorem t_Br_lengthFrom (l : Launch) (D : va_G) (cs : ClassId × ClassId × ClassId × ClassId) (A : Nat → Prop) (o : Nat × Nat × Nat × Nat) (sc lc : Nat) (fa fb : Nat → Option Nat) (ad bd : Nat → Nat) (c : Nat → Nat → Nat) (gp mo : Nat → Int32) (V : Nat → Nat → Int32) (k : Nat) (hk : k < sc) (h2k : c 0 k = 2) (hv : V 2 k = 0 ∨ V 2 k = 1) (e0 : Nat) (he : e0 < 2 ^ 31) (H1 : Heap) (hw : zH D A (zB o cs sc lc fa fb ad bd c gp mo V) H1) : zMet l D cs y_Br_lengthFrom c_Br_lengthFrom 2 (some FieldType.int) ({ frames := 0, cells := 0, slots := 0, locals := 0 } : Room) [.ref (ad k), .int (nI e0)] (fun H => H = H1) (fun _ => False) (zqi fun r H => H = H1 ∧ r = nI (zln c (zbr V) k e0)) := by
  refine zmk (by decide) (Nat.le_of_ble_eq_true rfl) ?_
  intro p e s m below meth cd ls E hK hP0 hl
  have hS : va_S (fun _ => False) s.heap s.heap [] := va_S.rf
  subst hP0
  have hP := hw.1
  have hc : (zB o cs sc lc fa fb ad bd c gp mo V)[4 + k]? = some (ad k, .inr (1, [.int (V 1 k), .int (nI (c 1 k)), .int (V 0 k), .int (nI (c 2 k)), va_rf (zga ad bd (gp k)), .int (mo k), .int (V 2 k), .int (V 3 k)])) := by rw [zb_s hk]; simp only [zcell, h2k, if_true]
  obtain ⟨hx, hb, hr, hts, hown, hlocks, hml, hin⟩ := id E
  have hl : lv_has ls 2 [(0, .ref (ad k)), (1, .int (nI e0))] := hl
  refine lv_aload_n hx hb d_Br_lengthFrom_0 rfl (lv_at hl 0 rfl) ?_
  refine va_get (D := D) (ci := 1) (v := .int (V 2 k)) (C := "BranchLayout$Branch") (T := T_Br) (N := 8) hx hb hts in_Br hown hK.1 hP (4 + k) hc rfl 6 (by decide) (hts _ w_142) (fun _ h9 => h9) rfl d_Br_lengthFrom_1 ?_
  refine lv_if_eq (tgt := 11) hx hb d_Br_lengthFrom_4 (by decide) (fun c_3 => ?_) (fun c_3 => ?_)
  · skip
    refine lv_aload_n hx hb d_Br_lengthFrom_11 rfl (lv_at hl 0 rfl) ?_
    refine va_get (D := D) (ci := 1) (v := .int (nI (c 2 k))) (C := "BranchLayout$Branch") (T := T_Br) (N := 8) hx hb hts in_Br hown hK.1 hP (4 + k) hc rfl 3 (by decide) (hts _ w_137) (fun _ h9 => h9) rfl d_Br_lengthFrom_12 ?_
    refine zri E d_Br_lengthFrom_15 hS (Nat.le_of_ble_eq_true rfl) (Nat.le_of_ble_eq_true rfl) ?_
    refine ⟨_, rfl, rfl, ?_⟩
    have e1 : zbr V k = false := by simp [zbr, c_3]
    simp [zln, h2k, e1]
  · skip
    refine lv_iconst (v := 2) hx hb d_Br_lengthFrom_7 (by decide) ?_
    refine lv_goto (tgt := 15) hx hb d_Br_lengthFrom_8 (by decide) ?_
    refine zri E d_Br_lengthFrom_15 hS (Nat.le_of_ble_eq_true rfl) (Nat.le_of_ble_eq_true rfl) ?_
    refine ⟨_, rfl, rfl, ?_⟩
    have e1 : zbr V k = true := by have := hv.resolve_left c_3; simp [zbr, this]
    simp [zln, h2k, e1, nI]
set_option maxHeartbeats 4000000 in
set_option maxRecDepth 100000 in
theorem t_BL_tellStatement (l : Launch) (D : va_G) (cs : ClassId × ClassId × ClassId × ClassId) (A : Nat → Prop) (o : Nat × Nat × Nat × Nat) (sc lc : Nat) (fa fb : Nat → Option Nat) (ad bd : Nat → Nat) (c : Nat → Nat → Nat) (gp mo : Nat → Int32) (V : Nat → Nat → Int32) (hI : zI sc lc c gp) (k : Nat) (hk : k < sc) (hv : V 2 k = 0 ∨ V 2 k = 1) (e0 : Nat) (he : e0 < 2 ^ 31) (h5 : V 5 (c 1 k) = nI e0) : zMet l D cs y_BL_tellStatement c_BL_tellStatement 2 none ({ frames := 1, cells := 0, slots := 0, locals := 21 } : Room) [.ref o.1, .ref (ad k)] (zH D A (zB o cs sc lc fa fb ad bd c gp mo V)) A (zqv fun H => zH D A (zB o cs sc lc fa fb ad bd c gp mo (zu (zu (zu V 0 k (nI e0)) 1 k (nI (zln c (zbr V) k e0))) 5 (c 1 k) (nI (e0 + zln c (zbr V) k e0)))) H) := by
  refine zmk (by decide) (Nat.le_of_ble_eq_true rfl) ?_
  intro p e s m below meth cd ls E hK hP0 hl
  have hS : va_S A s.heap s.heap [] := va_S.rf
  obtain ⟨hP, hD⟩ := hP0
  obtain ⟨hg1, hg2, hg3, hg4, hg5, hg6⟩ := hI.2.2.1 k hk
  obtain ⟨hx, hb, hr, hts, hown, hlocks, hml, hin⟩ := id E
  have hl : lv_has ls 2 [(0, .ref o.1), (1, .ref (ad k))] := hl
  refine lv_aload_n hx hb d_BL_tellStatement_0 rfl (lv_at hl 1 rfl) ?_
  refine lv_aload_n hx hb d_BL_tellStatement_1 rfl (lv_at hl 0 rfl) ?_
  refine va_get (D := D) (ci := 4) (v := .ref o.2.2.2) (C := "BranchLayout") (T := T_BL) (N := 5) hx hb hts in_BL hown hK.1 hP 0 (zb_x rfl) rfl 2 (by decide) (hts _ w_25) (fun _ h9 => h9) rfl d_BL_tellStatement_2 ?_
  refine lv_aload_n hx hb d_BL_tellStatement_5 rfl (lv_at hl 1 rfl) ?_
  refine zs_get_section (V := V) E hK hP hk w_76 (u_same (hts _ w_77)) d_BL_tellStatement_6 ?_
  have hin4 : vp_in (nI (c 1 k)) 4 := vp_in_nI hg2 (by decide)
  refine va_iald hx hb hK.1 hP 3 0 (zb_x rfl) rfl hin4 d_BL_tellStatement_9 ?_
  rw [nI_clamp (show c 1 k < 2 ^ 31 by omega), h5]
  refine zs_put_at (V := V) E hK hP hD hS hk w_87 (u_same (hts _ w_81)) d_BL_tellStatement_10 (fun H locs hw hS => ?_)
  obtain ⟨hP, hD⟩ := id hw
  refine lv_aload_n hx hb d_BL_tellStatement_13 rfl (lv_at hl 1 rfl) ?_
  refine lv_aload_n hx hb d_BL_tellStatement_14 rfl (lv_at hl 1 rfl) ?_
  refine lv_aload_n hx hb d_BL_tellStatement_15 rfl (lv_at hl 1 rfl) ?_
  refine zs_get_at (V := (zu V 0 k (nI e0))) E hK hP hk w_87 (u_same (hts _ w_81)) d_BL_tellStatement_16 ?_
  rw [zu_at]
  have ebr : zbr (zu V 0 k (nI e0)) = zbr V := by funext i; simp [zbr, zu]
  have hv1 : (zu V 0 k (nI e0)) 2 k = 0 ∨ (zu V 0 k (nI e0)) 2 k = 1 := by simpa [zu] using hv
  have go : ∀ locs : List Loc, va_S A s.heap H locs → W p l e ({ frames := 1, cells := 0, slots := 0, locals := 21 } : Room) s m ([.ref o.1, .ref (ad k)] : List Value).toArray below meth cd H locs 0 0 (zQ below s ([.ref o.1, .ref (ad k)] : List Value).toArray A (zqv fun H => zH D A (zB o cs sc lc fa fb ad bd c gp mo (zu (zu (zu V 0 k (nI e0)) 1 k (nI (zln c (zbr V) k e0))) 5 (c 1 k) (nI (e0 + zln c (zbr V) k e0)))) H) ({ frames := 1, cells := 0, slots := 0, locals := 21 } : Room)) (F0 m 22 ls [.int (nI (zln c (zbr V) k e0)), .ref (ad k)]) := by
    intro locs hS
    refine zs_put_length (V := (zu V 0 k (nI e0))) E hK hP hD hS hk w_71 (fun _ h9 => h9) d_BL_tellStatement_22 (fun H locs hw hS => ?_)
    obtain ⟨hP, hD⟩ := id hw
    refine lv_aload_n hx hb d_BL_tellStatement_25 rfl (lv_at hl 0 rfl) ?_
    refine va_get (D := D) (ci := 4) (v := .ref o.2.2.2) (C := "BranchLayout") (T := T_BL) (N := 5) hx hb hts in_BL hown hK.1 hP 0 (zb_x rfl) rfl 2 (by decide) (hts _ w_25) (fun _ h9 => h9) rfl d_BL_tellStatement_26 ?_
    refine lv_aload_n hx hb d_BL_tellStatement_29 rfl (lv_at hl 1 rfl) ?_
    refine zs_get_section (V := (zu (zu V 0 k (nI e0)) 1 k (nI (zln c (zbr V) k e0)))) E hK hP hk w_76 (u_same (hts _ w_77)) d_BL_tellStatement_30 ?_
    refine lv_dup2_11 hx hb d_BL_tellStatement_33 rfl rfl ?_
    refine va_iald hx hb hK.1 hP 3 0 (zb_x rfl) rfl hin4 d_BL_tellStatement_34 ?_
    rw [nI_clamp (show c 1 k < 2 ^ 31 by omega), zu_ne (show (5 : Nat) ≠ 1 by decide), zu_ne (show (5 : Nat) ≠ 0 by decide), h5]
    refine lv_aload_n hx hb d_BL_tellStatement_35 rfl (lv_at hl 1 rfl) ?_
    refine zs_get_length (V := (zu (zu V 0 k (nI e0)) 1 k (nI (zln c (zbr V) k e0)))) E hK hP hk w_71 (fun _ h9 => h9) d_BL_tellStatement_36 ?_
    rw [zu_at]
    refine lv_iadd hx hb d_BL_tellStatement_39 ?_
    rw [nI_add]
    refine va_iast hx hb hK.1 hP hD hS 3 0 (zb_x rfl) rfl hin4 d_BL_tellStatement_40 (fun H locs hP hD hS => ?_)
    rw [nI_clamp (show c 1 k < 2 ^ 31 by omega), zb_set5] at hP hD
    refine zrv E d_BL_tellStatement_41 hS (Nat.le_of_ble_eq_true rfl) (Nat.le_of_ble_eq_true rfl) ?_
    exact ⟨rfl, hP, hD⟩
  by_cases h2k : c 0 k = 2
  · skip
    have hc := zc_Br (o := o) (cs := cs) (lc := lc) (fa := fa) (fb := fb) (ad := ad) (bd := bd) (gp := gp) (mo := mo) (V := zu V 0 k (nI e0)) hk h2k
    refine zcU [.int (nI e0)] [.ref (ad k)] E (t_Br_lengthFrom l D cs A o sc lc fa fb ad bd c gp mo (zu V 0 k (nI e0)) k hk h2k hv1 e0 he _ hw) d_BL_tellStatement_19 (va_cwA (C := "BranchLayout$Branch") (owner := "BranchLayout$Statement") (x := ⟨"BranchLayout$Statement", "lengthFrom", "(I)I"⟩) 1 hts (zwU w_211 w_213 w_217 w_218 w_9 (zcons w_219)) rfl rfl rfl hK.2.2.2.2.1 ⟨by decide, by decide, (by decide +kernel : Option.map (fun d => d.parameters.length) (parseMethodDescriptor "(I)I") = some 1)⟩ ⟨(Nat.le_of_ble_eq_true rfl), (Nat.le_of_ble_eq_true rfl)⟩) ⟨(Nat.le_of_ble_eq_true rfl), (Nat.le_of_ble_eq_true rfl)⟩ rfl (Nat.le_of_ble_eq_true rfl) hl.1 (zrec hK hP rfl hc) hK rfl hS (fun _ h => h.elim) (zki fun r H2 locs2 hq _ _ hS2 => ?_)
    obtain ⟨rfl, rfl⟩ := hq
    rw [ebr]
    exact go _ hS2
  · skip
    by_cases h1k : c 0 k = 1
    · skip
      have hc := zc_Al (o := o) (cs := cs) (lc := lc) (fa := fa) (fb := fb) (ad := ad) (bd := bd) (gp := gp) (mo := mo) (V := zu V 0 k (nI e0)) hk h1k
      refine zcU [.int (nI e0)] [.ref (ad k)] E (t_Al_lengthFrom l D cs A o sc lc fa fb ad bd c gp mo (zu V 0 k (nI e0)) k hk h1k (hg4 h1k) e0 he _ hw) d_BL_tellStatement_19 (va_cwA (C := "BranchLayout$Alignment") (owner := "BranchLayout$Statement") (x := ⟨"BranchLayout$Statement", "lengthFrom", "(I)I"⟩) 1 hts (zwU w_211 w_213 w_214 w_215 w_8 (zcons w_216)) rfl rfl rfl hK.2.2.2.2.1 ⟨by decide, by decide, (by decide +kernel : Option.map (fun d => d.parameters.length) (parseMethodDescriptor "(I)I") = some 1)⟩ ⟨(Nat.le_of_ble_eq_true rfl), (Nat.le_of_ble_eq_true rfl)⟩) ⟨(Nat.le_of_ble_eq_true rfl), (Nat.le_of_ble_eq_true rfl)⟩ rfl (Nat.le_of_ble_eq_true rfl) hl.1 (zrec hK hP rfl hc) hK rfl hS (fun _ h => h.elim) (zki fun r H2 locs2 hq _ _ hS2 => ?_)
      obtain ⟨rfl, rfl⟩ := hq
      rw [ebr]
      exact go _ hS2
    · skip
      have hc := zc_By (o := o) (cs := cs) (lc := lc) (fa := fa) (fb := fb) (ad := ad) (bd := bd) (gp := gp) (mo := mo) (V := zu V 0 k (nI e0)) hk h2k h1k
      refine zcU [.int (nI e0)] [.ref (ad k)] E (t_By_lengthFrom l D cs A o sc lc fa fb ad bd c gp mo (zu V 0 k (nI e0)) k hk h2k h1k e0 he _ hw) d_BL_tellStatement_19 (va_cwA (C := "BranchLayout$Bytes") (owner := "BranchLayout$Statement") (x := ⟨"BranchLayout$Statement", "lengthFrom", "(I)I"⟩) 1 hts (zwU w_211 w_213 w_220 w_221 w_6 (zcons w_222)) rfl rfl rfl hK.2.2.2.2.1 ⟨by decide, by decide, (by decide +kernel : Option.map (fun d => d.parameters.length) (parseMethodDescriptor "(I)I") = some 1)⟩ ⟨(Nat.le_of_ble_eq_true rfl), (Nat.le_of_ble_eq_true rfl)⟩) ⟨(Nat.le_of_ble_eq_true rfl), (Nat.le_of_ble_eq_true rfl)⟩ rfl (Nat.le_of_ble_eq_true rfl) hl.1 (zrec hK hP rfl hc) hK rfl hS (fun _ h => h.elim) (zki fun r H2 locs2 hq _ _ hS2 => ?_)
      obtain ⟨rfl, rfl⟩ := hq
      rw [ebr]
      exact go _ hS2
end
section
set_option maxHeartbeats 4000000 in
set_option maxRecDepth 100000 in
theorem t_BL_tellLabelsBefore (l : Launch) (D : va_G) (cs : ClassId × ClassId × ClassId × ClassId) (A : Nat → Prop) (o : Nat × Nat × Nat × Nat) (sc lc : Nat) (fa fb : Nat → Option Nat) (ad bd : Nat → Nat) (c : Nat → Nat → Nat) (gp mo : Nat → Int32) (V : Nat → Nat → Int32) (hI : zI sc lc c gp) (hfb : ∀ k, k < lc → fb k = some (bd k)) (k a : Nat) (hk : k ≤ sc) (ha : a ≤ lc) : zMet l D cs y_BL_tellLabelsBefore c_BL_tellLabelsBefore 4 (some FieldType.int) ({ frames := 0, cells := 0, slots := 0, locals := 0 } : Room) [.ref o.1, .int (nI k), .int (nI a)] (zH D A (zB o cs sc lc fa fb ad bd c gp mo V)) A (zqi fun r H => ∃ b, r = nI b ∧ a ≤ b ∧ b ≤ lc ∧ (∀ j, a ≤ j → j < b → c 4 j ≤ k) ∧ (b = lc ∨ (b < lc ∧ k < c 4 b)) ∧ zH D A (zB o cs sc lc fa fb ad bd c gp mo (zTl c V a b)) H) := by
  refine zmk (by decide) (Nat.le_of_ble_eq_true rfl) ?_
  intro p e s m below meth cd ls E hK hP0 hl
  have hS : va_S A s.heap s.heap [] := va_S.rf
  have hsc := hI.1
  have hlc := hI.2.1
  obtain ⟨hx, hb, hr, hts, hown, hlocks, hml, hin⟩ := id E
  have hl : lv_has ls 4 [(0, .ref o.1), (1, .int (nI k)), (2, .int (nI a))] := hl
  refine lv_iload_n hx hb d_BL_tellLabelsBefore_0 rfl (lv_at hl 2 rfl) ?_
  refine lv_istore_n (lv' := [(3, .int (nI a)), (0, .ref o.1), (1, .int (nI k)), (2, .int (nI a))]) hx hb d_BL_tellLabelsBefore_1 rfl hl (by decide) rfl (fun ls hl => ?_)
  have loop : ∀ (n b : Nat) (H : Heap) (locs : List Loc) (ls : Array Slot), a ≤ b → b ≤ lc → lc + 1 ≤ b + n → (∀ j, a ≤ j → j < b → c 4 j ≤ k) → zH D A (zB o cs sc lc fa fb ad bd c gp mo (zTl c V a b)) H → va_S A s.heap H locs → lv_has ls 4 [(3, .int (nI b)), (0, .ref o.1), (1, .int (nI k)), (2, .int (nI a))] → W p l e ({ frames := 0, cells := 0, slots := 0, locals := 0 } : Room) s m ([.ref o.1, .int (nI k), .int (nI a)] : List Value).toArray below meth cd H locs 0 0 (zQ below s ([.ref o.1, .int (nI k), .int (nI a)] : List Value).toArray A (zqi fun r H => ∃ b, r = nI b ∧ a ≤ b ∧ b ≤ lc ∧ (∀ j, a ≤ j → j < b → c 4 j ≤ k) ∧ (b = lc ∨ (b < lc ∧ k < c 4 b)) ∧ zH D A (zB o cs sc lc fa fb ad bd c gp mo (zTl c V a b)) H) ({ frames := 0, cells := 0, slots := 0, locals := 0 } : Room)) (F0 m 2 ls []) := by
    intro n
    induction n with
    | zero => intro b H locs ls h1 h2 h3; omega
    | succ n ih =>
      intro b H locs ls hab hb1 hn hle hw hS hl
      obtain ⟨hP, hD⟩ := id hw
      refine lv_iload_n hx hb d_BL_tellLabelsBefore_2 rfl (lv_at hl 0 rfl) ?_
      refine lv_aload_n hx hb d_BL_tellLabelsBefore_3 rfl (lv_at hl 1 rfl) ?_
      refine va_get (D := D) (ci := 4) (v := .int (nI lc)) (C := "BranchLayout") (T := T_BL) (N := 5) hx hb hts in_BL hown hK.1 hP 0 (zb_x rfl) rfl 4 (by decide) (hts _ w_27) (fun _ h9 => h9) rfl d_BL_tellLabelsBefore_4 ?_
      refine lv_icmp_ge (tgt := 52) hx hb d_BL_tellLabelsBefore_7 (by decide) (fun c_1 => ?_) (fun c_1 => ?_)
      · skip
        refine lv_iload_n hx hb d_BL_tellLabelsBefore_52 rfl (lv_at hl 0 rfl) ?_
        refine zri E d_BL_tellLabelsBefore_53 hS (Nat.le_of_ble_eq_true rfl) (Nat.le_of_ble_eq_true rfl) ?_
        exact ⟨_, rfl, b, rfl, hab, hb1, hle, Or.inl (Nat.le_antisymm hb1 ((nI_leI (by omega) (by omega)).mp c_1)), hw⟩
      · skip
        have hlt : b < lc := Nat.lt_of_not_le fun q => c_1 (nI_le q (by omega))
        refine lv_aload_n hx hb d_BL_tellLabelsBefore_10 rfl (lv_at hl 1 rfl) ?_
        refine va_get (D := D) (ci := 4) (v := .ref o.2.2.1) (C := "BranchLayout") (T := T_BL) (N := 5) hx hb hts in_BL hown hK.1 hP 0 (zb_x rfl) rfl 1 (by decide) (hts _ w_24) (fun _ h9 => h9) rfl d_BL_tellLabelsBefore_11 ?_
        refine lv_iload_n hx hb d_BL_tellLabelsBefore_14 rfl (lv_at hl 0 rfl) ?_
        refine va_aldq hx hb hK.1 hP 2 3 (zb_x rfl) rfl (vp_in_nI (show b < 1024 by omega) (by decide)) d_BL_tellLabelsBefore_15 ?_
        rw [nI_clamp (show b < 2 ^ 31 by omega), hfb b hlt]
        refine va_get (D := D) (ci := 3) (v := .int (nI (c 4 b))) (C := "BranchLayout$Label") (T := T_La) (N := 3) hx hb hts in_La hown hK.1 hP (4 + sc + b) (zb_l hlt) rfl 2 (by decide) (hts _ w_169) (fun _ h9 => h9) rfl d_BL_tellLabelsBefore_16 ?_
        refine lv_iload_n hx hb d_BL_tellLabelsBefore_19 rfl (lv_at hl 2 rfl) ?_
        obtain ⟨hc3, hc4⟩ := hI.2.2.2.1 b hlt
        refine lv_icmp_gt (tgt := 52) hx hb d_BL_tellLabelsBefore_20 (by decide) (fun c_2 => ?_) (fun c_2 => ?_)
        · skip
          refine lv_iload_n hx hb d_BL_tellLabelsBefore_52 rfl (lv_at hl 0 rfl) ?_
          refine zri E d_BL_tellLabelsBefore_53 hS (Nat.le_of_ble_eq_true rfl) (Nat.le_of_ble_eq_true rfl) ?_
          exact ⟨_, rfl, b, rfl, hab, hb1, hle, Or.inr ⟨hlt, (nI_ltI (by omega) (by omega)).mp c_2⟩, hw⟩
        · skip
          have hbk : c 4 b ≤ k := Nat.le_of_not_lt fun q => c_2 (nI_lt q (by omega))
          refine lv_aload_n hx hb d_BL_tellLabelsBefore_23 rfl (lv_at hl 1 rfl) ?_
          refine va_get (D := D) (ci := 4) (v := .ref o.2.2.1) (C := "BranchLayout") (T := T_BL) (N := 5) hx hb hts in_BL hown hK.1 hP 0 (zb_x rfl) rfl 1 (by decide) (hts _ w_24) (fun _ h9 => h9) rfl d_BL_tellLabelsBefore_24 ?_
          refine lv_iload_n hx hb d_BL_tellLabelsBefore_27 rfl (lv_at hl 0 rfl) ?_
          refine va_aldq hx hb hK.1 hP 2 3 (zb_x rfl) rfl (vp_in_nI (show b < 1024 by omega) (by decide)) d_BL_tellLabelsBefore_28 ?_
          rw [nI_clamp (show b < 2 ^ 31 by omega), hfb b hlt]
          refine lv_aload_n hx hb d_BL_tellLabelsBefore_29 rfl (lv_at hl 1 rfl) ?_
          refine va_get (D := D) (ci := 4) (v := .ref o.2.2.2) (C := "BranchLayout") (T := T_BL) (N := 5) hx hb hts in_BL hown hK.1 hP 0 (zb_x rfl) rfl 2 (by decide) (hts _ w_25) (fun _ h9 => h9) rfl d_BL_tellLabelsBefore_30 ?_
          refine lv_aload_n hx hb d_BL_tellLabelsBefore_33 rfl (lv_at hl 1 rfl) ?_
          refine va_get (D := D) (ci := 4) (v := .ref o.2.2.1) (C := "BranchLayout") (T := T_BL) (N := 5) hx hb hts in_BL hown hK.1 hP 0 (zb_x rfl) rfl 1 (by decide) (hts _ w_24) (fun _ h9 => h9) rfl d_BL_tellLabelsBefore_34 ?_
          refine lv_iload_n hx hb d_BL_tellLabelsBefore_37 rfl (lv_at hl 0 rfl) ?_
          refine va_aldq hx hb hK.1 hP 2 3 (zb_x rfl) rfl (vp_in_nI (show b < 1024 by omega) (by decide)) d_BL_tellLabelsBefore_38 ?_
          rw [nI_clamp (show b < 2 ^ 31 by omega), hfb b hlt]
          refine va_get (D := D) (ci := 3) (v := .int (nI (c 3 b))) (C := "BranchLayout$Label") (T := T_La) (N := 3) hx hb hts in_La hown hK.1 hP (4 + sc + b) (zb_l hlt) rfl 0 (by decide) (hts _ w_78) (u_same (hts _ w_79)) rfl d_BL_tellLabelsBefore_39 ?_
          refine va_iald hx hb hK.1 hP 3 0 (zb_x rfl) rfl (vp_in_nI hc3 (by decide)) d_BL_tellLabelsBefore_42 ?_
          rw [nI_clamp (show c 3 b < 2 ^ 31 by omega), zTl_5]
          refine va_put (D := D) (ci := 3) (v := .int (V 5 (c 3 b))) (ty := .int) (C := "BranchLayout$Label") (T := T_La) (N := 3) hx hb hts in_La ty_La ok_La nm_La hown hK.1 hP hD hS (4 + sc + b) (zb_l hlt) rfl 1 (by decide) (hts _ w_85) (u_same (hts _ w_86)) rfl (by decide +kernel) rfl rfl (Nat.le_of_ble_eq_true rfl) d_BL_tellLabelsBefore_43 (fun H locs hP hD hS => ?_)
          have e1 := zb_setl (o := o) (cs := cs) (sc := sc) (fa := fa) (fb := fb) (ad := ad) (bd := bd) (c := c) (gp := gp) (mo := mo) (gp' := gp) (mo' := mo) (V := zTl c V a b) (V' := zu (zTl c V a b) 4 b (V 5 (c 3 b))) hlt rfl (fun i _ h => by simp only [zlab, zu_no (show ¬ ((4 : Nat) = 4 ∧ i = b) from fun q => h q.2)]) (fun i _ => (zcell_u4 (by decide)).symm) (zu_ne (by decide)).symm
          simp only [zlab, zu_at] at e1
          rw [zTl_s hab] at e1
          refine lv_iinc (v := nI (b + 1)) (lv' := [(3, .int (nI (b + 1))), (0, .ref o.1), (1, .int (nI k)), (2, .int (nI a))]) hx hb d_BL_tellLabelsBefore_46 hl (k := 0) rfl (nI_1 b) (by decide) rfl (fun ls hl => ?_)
          refine lv_goto (tgt := 2) hx hb d_BL_tellLabelsBefore_49 (by decide) ?_
          have hle2 : ∀ j, a ≤ j → j < b + 1 → c 4 j ≤ k := fun j h1 h2 => by
            rcases Nat.lt_or_ge j b with q | q
            · exact hle j h1 q
            · have e9 : j = b := by omega
              rw [e9]; exact hbk
          exact ih (b + 1) _ _ ls (by omega) hlt (by omega) hle2 ⟨by rw [← e1]; exact hP, by rw [← e1]; exact hD⟩ hS hl
  exact loop (lc + 1) a _ _ ls (Nat.le_refl a) ha (by omega) (fun j h1 h2 => by omega) (by rw [← zTl_0]; exact hP0) hS hl
set_option maxHeartbeats 4000000 in
set_option maxRecDepth 100000 in
theorem t_BL_tellPlaces (l : Launch) (D : va_G) (cs : ClassId × ClassId × ClassId × ClassId) (A : Nat → Prop) (o : Nat × Nat × Nat × Nat) (sc lc : Nat) (fa fb : Nat → Option Nat) (ad bd : Nat → Nat) (c : Nat → Nat → Nat) (gp mo : Nat → Int32) (V : Nat → Nat → Int32) (hI : zI sc lc c gp) (hfa : ∀ k, k < sc → fa k = some (ad k)) (hfb : ∀ k, k < lc → fb k = some (bd k)) (hv : ∀ k, k < sc → V 2 k = 0 ∨ V 2 k = 1) : zMet l D cs y_BL_tellPlaces c_BL_tellPlaces 3 none ({ frames := 2, cells := 0, slots := 0, locals := 42 } : Room) [.ref o.1] (zH D A (zB o cs sc lc fa fb ad bd c gp mo V)) A (zqv fun H => zH D A (zB o cs sc lc fa fb ad bd c gp mo (zT c (zbr V) V sc lc)) H) := by
  refine zmk (by decide) (Nat.le_of_ble_eq_true rfl) ?_
  intro p e s m below meth cd ls E hK hP0 hl
  have hS : va_S A s.heap s.heap [] := va_S.rf
  obtain ⟨hP, hD⟩ := hP0
  have hsc := hI.1
  have hlc := hI.2.1
  obtain ⟨hx, hb, hr, hts, hown, hlocks, hml, hin⟩ := id E
  have hl : lv_has ls 3 [(0, .ref o.1)] := hl
  refine lv_aload_n hx hb d_BL_tellPlaces_0 rfl (lv_at hl 0 rfl) ?_
  refine va_get (D := D) (ci := 4) (v := .ref o.2.2.2) (C := "BranchLayout") (T := T_BL) (N := 5) hx hb hts in_BL hown hK.1 hP 0 (zb_x rfl) rfl 2 (by decide) (hts _ w_25) (fun _ h9 => h9) rfl d_BL_tellPlaces_1 ?_
  refine lv_iconst (v := 0) hx hb d_BL_tellPlaces_4 (by decide) ?_
  refine zcS [.ref o.2.2.2, .int 0] [] E (t_Ar_fill l D cs A o sc lc fa fb ad bd c gp mo V 0) d_BL_tellPlaces_5 w_44 w_45 w_3 w_46 ⟨by decide +kernel, by decide +kernel, (by decide +kernel : Option.map (fun d => d.parameters.length) (parseMethodDescriptor "([II)V") = some 2)⟩ ⟨(Nat.le_of_ble_eq_true rfl), (Nat.le_of_ble_eq_true rfl)⟩ ⟨(Nat.le_of_ble_eq_true rfl), (Nat.le_of_ble_eq_true rfl)⟩ rfl (Nat.le_of_ble_eq_true rfl) hl.1 hK ⟨hP, hD⟩ hS (fun _ h => h) (zkv fun H locs hq _ _ hS => ?_)
  rw [zT_0 (c := c) (br := zbr V)] at hq
  refine lv_iconst (v := 0) hx hb d_BL_tellPlaces_8 (by decide) ?_
  refine lv_istore_n (lv' := [(1, .int 0), (0, .ref o.1)]) hx hb d_BL_tellPlaces_9 rfl hl (by decide) rfl (fun ls hl => ?_)
  refine lv_iconst (v := 0) hx hb d_BL_tellPlaces_10 (by decide) ?_
  refine lv_istore_n (lv' := [(2, .int 0), (1, .int 0), (0, .ref o.1)]) hx hb d_BL_tellPlaces_11 rfl hl (by decide) rfl (fun ls hl => ?_)
  have loop : ∀ (n k a : Nat) (H : Heap) (locs : List Loc) (ls : Array Slot), k ≤ sc → a ≤ lc → sc + 1 ≤ k + n → (a = lc ∨ (a < lc ∧ k ≤ c 4 a)) → zH D A (zB o cs sc lc fa fb ad bd c gp mo (zT c (zbr V) V k a)) H → va_S A s.heap H locs → lv_has ls 3 [(2, .int (nI k)), (1, .int (nI a)), (0, .ref o.1)] → W p l e ({ frames := 2, cells := 0, slots := 0, locals := 42 } : Room) s m ([.ref o.1] : List Value).toArray below meth cd H locs 0 0 (zQ below s ([.ref o.1] : List Value).toArray A (zqv fun H => zH D A (zB o cs sc lc fa fb ad bd c gp mo (zT c (zbr V) V sc lc)) H) ({ frames := 2, cells := 0, slots := 0, locals := 42 } : Room)) (F0 m 12 ls []) := by
    intro n
    induction n with
    | zero => intro k a H locs ls h1 h2 h3; omega
    | succ n ih =>
      intro k a H locs ls hk ha hn hnx hw hS hl
      obtain ⟨hP, hD⟩ := id hw
      have hlab : ∀ b, a ≤ b → b ≤ lc → (∀ j, a ≤ j → j < b → c 4 j ≤ k) → zTl c (zT c (zbr V) V k a) a b = zT c (zbr V) V k b := fun b h1 h2 h3 => zT_l h1 (fun j g1 g2 => by
        have g3 := h3 j g1 g2
        rcases hnx with q | ⟨q1, q2⟩
        · omega
        · have g4 := hI.2.2.2.2 a j g1 (by omega)
          exact ⟨by omega, (hI.2.2.2.1 j (by omega)).1⟩)
      refine lv_iload_n hx hb d_BL_tellPlaces_12 rfl (lv_at hl 0 rfl) ?_
      refine lv_aload_n hx hb d_BL_tellPlaces_13 rfl (lv_at hl 2 rfl) ?_
      refine va_get (D := D) (ci := 4) (v := .int (nI sc)) (C := "BranchLayout") (T := T_BL) (N := 5) hx hb hts in_BL hown hK.1 hP 0 (zb_x rfl) rfl 3 (by decide) (hts _ w_26) (fun _ h9 => h9) rfl d_BL_tellPlaces_14 ?_
      refine lv_icmp_ge (tgt := 43) hx hb d_BL_tellPlaces_17 (by decide) (fun c_3 => ?_) (fun c_3 => ?_)
      · skip
        have hks : k = sc := Nat.le_antisymm hk ((nI_leI (by omega) (by omega)).mp c_3)
        refine lv_aload_n hx hb d_BL_tellPlaces_43 rfl (lv_at hl 2 rfl) ?_
        refine lv_aload_n hx hb d_BL_tellPlaces_44 rfl (lv_at hl 2 rfl) ?_
        refine va_get (D := D) (ci := 4) (v := .int (nI sc)) (C := "BranchLayout") (T := T_BL) (N := 5) hx hb hts in_BL hown hK.1 hP 0 (zb_x rfl) rfl 3 (by decide) (hts _ w_26) (fun _ h9 => h9) rfl d_BL_tellPlaces_45 ?_
        refine lv_iload_n hx hb d_BL_tellPlaces_48 rfl (lv_at hl 1 rfl) ?_
        refine zcV [.int (nI sc), .int (nI a)] [] E (t_BL_tellLabelsBefore l D cs A o sc lc fa fb ad bd c gp mo (zT c (zbr V) V k a) hI hfb sc a (Nat.le_refl sc) ha) d_BL_tellPlaces_49 w_203 w_205 ws_BL_tellLabelsBefore w_1 w_206 ⟨rfl, by decide +kernel, by decide +kernel, (by decide +kernel : Option.map (fun d => d.parameters.length) (parseMethodDescriptor "(II)I") = some 2)⟩ ⟨(Nat.le_of_ble_eq_true rfl), (Nat.le_of_ble_eq_true rfl)⟩ ⟨(Nat.le_of_ble_eq_true rfl), (Nat.le_of_ble_eq_true rfl)⟩ rfl (Nat.le_of_ble_eq_true rfl) hl.1 (zrec hK hP (ci := 4) (i := 0) rfl (zb_x rfl)) hK hw hS (fun _ h => h) (zki fun r H locs hq _ _ hS => ?_)
        obtain ⟨b, rfl, h1, h2, h3, h4, hw2⟩ := hq
        rw [hlab b h1 h2 (fun j g1 g2 => by have := h3 j g1 g2; omega), hks] at hw2
        have hbl : b = lc := by
          rcases h4 with q | ⟨q1, q2⟩
          · exact q
          · have := (hI.2.2.2.1 b q1).2; omega
        subst hbl
        refine lv_pop hx hb d_BL_tellPlaces_52 rfl ?_
        refine zrv E d_BL_tellPlaces_53 hS (Nat.le_of_ble_eq_true rfl) (Nat.le_of_ble_eq_true rfl) ?_
        exact ⟨rfl, hw2⟩
      · skip
        have hlt : k < sc := Nat.lt_of_not_le fun q => c_3 (nI_le q (by omega))
        refine lv_aload_n hx hb d_BL_tellPlaces_20 rfl (lv_at hl 2 rfl) ?_
        refine lv_iload_n hx hb d_BL_tellPlaces_21 rfl (lv_at hl 0 rfl) ?_
        refine lv_iload_n hx hb d_BL_tellPlaces_22 rfl (lv_at hl 1 rfl) ?_
        refine zcV [.int (nI k), .int (nI a)] [] E (t_BL_tellLabelsBefore l D cs A o sc lc fa fb ad bd c gp mo (zT c (zbr V) V k a) hI hfb k a hk ha) d_BL_tellPlaces_23 w_203 w_205 ws_BL_tellLabelsBefore w_1 w_206 ⟨rfl, by decide +kernel, by decide +kernel, (by decide +kernel : Option.map (fun d => d.parameters.length) (parseMethodDescriptor "(II)I") = some 2)⟩ ⟨(Nat.le_of_ble_eq_true rfl), (Nat.le_of_ble_eq_true rfl)⟩ ⟨(Nat.le_of_ble_eq_true rfl), (Nat.le_of_ble_eq_true rfl)⟩ rfl (Nat.le_of_ble_eq_true rfl) hl.1 (zrec hK hP (ci := 4) (i := 0) rfl (zb_x rfl)) hK hw hS (fun _ h => h) (zki fun r H locs hq _ _ hS => ?_)
        obtain ⟨b, rfl, h1, h2, h3, h4, hw2⟩ := hq
        rw [hlab b h1 h2 h3] at hw2
        obtain ⟨hP, hD⟩ := id hw2
        refine lv_istore_n (lv' := [(1, .int (nI b)), (2, .int (nI k)), (0, .ref o.1)]) hx hb d_BL_tellPlaces_26 rfl hl (by decide) rfl (fun ls hl => ?_)
        refine lv_aload_n hx hb d_BL_tellPlaces_27 rfl (lv_at hl 2 rfl) ?_
        refine lv_aload_n hx hb d_BL_tellPlaces_28 rfl (lv_at hl 2 rfl) ?_
        refine va_get (D := D) (ci := 4) (v := .ref o.2.1) (C := "BranchLayout") (T := T_BL) (N := 5) hx hb hts in_BL hown hK.1 hP 0 (zb_x rfl) rfl 0 (by decide) (hts _ w_23) (fun _ h9 => h9) rfl d_BL_tellPlaces_29 ?_
        refine lv_iload_n hx hb d_BL_tellPlaces_32 rfl (lv_at hl 1 rfl) ?_
        refine va_aldq hx hb hK.1 hP 1 2 (zb_x rfl) rfl (vp_in_nI (show k < 4096 by omega) (by decide)) d_BL_tellPlaces_33 ?_
        rw [nI_clamp (show k < 2 ^ 31 by omega), hfa k hlt]
        obtain ⟨hg1, hg2, hg3, hg4, hg5, hg6⟩ := hI.2.2.1 k hlt
        have hsz := zSZ_lt (br := zbr V) (i := c 1 k) hI hk
        refine zcV [.ref (ad k)] [] E (t_BL_tellStatement l D cs A o sc lc fa fb ad bd c gp mo (zT c (zbr V) V k b) hI k hlt (by rw [zT_2]; exact hv k hlt) (zSZ c (zbr V) k (c 1 k)) (by omega) (zT_5 hg2)) d_BL_tellPlaces_34 w_207 w_209 ws_BL_tellStatement w_1 w_210 ⟨rfl, by decide +kernel, by decide +kernel, (by decide +kernel : Option.map (fun d => d.parameters.length) (parseMethodDescriptor "(LBranchLayout$Statement;)V") = some 1)⟩ ⟨(Nat.le_of_ble_eq_true rfl), (Nat.le_of_ble_eq_true rfl)⟩ ⟨(Nat.le_of_ble_eq_true rfl), (Nat.le_of_ble_eq_true rfl)⟩ rfl (Nat.le_of_ble_eq_true rfl) hl.1 (zrec hK hP (ci := 4) (i := 0) rfl (zb_x rfl)) hK hw2 hS (fun _ h => h) (zkv fun H locs hq _ _ hS => ?_)
        rw [zT_br, zT_s hg2] at hq
        refine lv_iinc (v := nI (k + 1)) (lv' := [(2, .int (nI (k + 1))), (1, .int (nI b)), (0, .ref o.1)]) hx hb d_BL_tellPlaces_37 hl (k := 1) rfl (nI_1 k) (by decide) rfl (fun ls hl => ?_)
        refine lv_goto (tgt := 12) hx hb d_BL_tellPlaces_40 (by decide) ?_
        exact ih (k + 1) b _ _ ls hlt h2 (by omega) (h4.imp id fun q => ⟨q.1, q.2⟩) hq hS (lv_sub hl [0, 1, 2] rfl)
  have h00 : 0 = lc ∨ (0 < lc ∧ 0 ≤ c 4 0) := by
    rcases Nat.eq_zero_or_pos lc with q | q
    · exact Or.inl q.symm
    · exact Or.inr ⟨q, Nat.zero_le _⟩
  exact loop (sc + 1) 0 0 _ _ ls (Nat.zero_le _) (Nat.zero_le _) (by omega) h00 hq hS (by rw [nI_0]; exact lv_sub hl [0, 1, 2] rfl)
end
section
theorem zb_p2 {o : Nat × Nat × Nat × Nat} {cs : ClassId × ClassId × ClassId × ClassId} {sc lc : Nat} {fa fb : Nat → Option Nat} {ad bd : Nat → Nat} {c : Nat → Nat → Nat} {gp mo : Nat → Int32} {V : Nat → Nat → Int32} {k : Nat} {x : Int32} (hk : k < sc) (h2k : c 0 k = 2) : (zB o cs sc lc fa fb ad bd c gp mo V).set (4 + k) (ad k, .inr (1, [.int (V 1 k), .int (nI (c 1 k)), .int (V 0 k), .int (nI (c 2 k)), va_rf (zga ad bd (gp k)), .int (mo k), .int x, .int (V 3 k)])) = zB o cs sc lc fa fb ad bd c gp mo (zu V 2 k x) := by
  refine zb_sets hk ?_ (fun i _ h => zcell_u (by decide) h) (zu_ne (by decide)).symm (zu_ne (by decide)).symm
  simp only [zcell, h2k, if_true, zu_at, zu_ne (show (0 : Nat) ≠ 2 by decide), zu_ne (show (1 : Nat) ≠ 2 by decide), zu_ne (show (3 : Nat) ≠ 2 by decide)]
theorem zb_p3 {o : Nat × Nat × Nat × Nat} {cs : ClassId × ClassId × ClassId × ClassId} {sc lc : Nat} {fa fb : Nat → Option Nat} {ad bd : Nat → Nat} {c : Nat → Nat → Nat} {gp mo : Nat → Int32} {V : Nat → Nat → Int32} {k : Nat} {x : Int32} (hk : k < sc) (h2k : c 0 k = 2) : (zB o cs sc lc fa fb ad bd c gp mo V).set (4 + k) (ad k, .inr (1, [.int (V 1 k), .int (nI (c 1 k)), .int (V 0 k), .int (nI (c 2 k)), va_rf (zga ad bd (gp k)), .int (mo k), .int (V 2 k), .int x])) = zB o cs sc lc fa fb ad bd c gp mo (zu V 3 k x) := by
  refine zb_sets hk ?_ (fun i _ h => zcell_u (by decide) h) (zu_ne (by decide)).symm (zu_ne (by decide)).symm
  simp only [zcell, h2k, if_true, zu_at, zu_ne (show (0 : Nat) ≠ 3 by decide), zu_ne (show (1 : Nat) ≠ 3 by decide), zu_ne (show (2 : Nat) ≠ 3 by decide)]
theorem zga_valid {sc lc : Nat} {ad bd : Nat → Nat} {g : Int32} (hs : sc ≤ 4096) (hl : lc ≤ 1024) (V : Nat → Nat → Int32) (hv : zvalid sc lc g) (hn : ¬ g = -1) : ∃ a, zga ad bd g = some a ∧ ((∃ i, i < sc ∧ a = ad i ∧ zgat g V = V 0 i) ∨ ∃ j, j < lc ∧ a = bd j ∧ zgat g V = V 4 j) := by
  rcases hv with h | ⟨j, hj, rfl⟩ | ⟨i, hi, rfl⟩
  · exact absurd h hn
  · have h0 := nI_pos (n := j) (by omega)
    have h1 := nI_clamp (n := j) (by omega)
    exact ⟨bd j, by simp only [zga, hn, h0, if_false, h1], Or.inr ⟨j, hj, rfl, by simp only [zgat, h0, if_false, h1]⟩⟩
  · obtain ⟨e1, e2, e3⟩ := zm2 (i := i) (by omega)
    have h1 := nI_clamp (n := i) (by omega)
    exact ⟨ad i, by simp only [zga, hn, e2, if_false, if_true, e1, h1], Or.inl ⟨i, hi, rfl, by simp only [zgat, e2, if_true, e1, h1]⟩⟩
theorem zp_get_at {p : Program} {l : Launch} {e : Env} {R : Room} {s : State} {m : MethodId} {av : Array Value} {below : List Frame} {meth : Method} {cd : Code} {H : Heap} {locs : List Loc} {cells slots : Nat} {Q : State → Prop} {own nm : String} {cc : ByteArray} {nL : Nat} {r : Option FieldType} {pc : Nat} {ls : Array Slot} {rest : List Value} {D : va_G} {o : Nat × Nat × Nat × Nat} {cs : ClassId × ClassId × ClassId × ClassId} {sc lc g : Nat} {fa fb : Nat → Option Nat} {ad bd : Nat → Nat} {c : Nat → Nat → Nat} {gp mo : Nat → Int32} {V : Nat → Nat → Int32} {pl : Int32} (E : zE p s m meth cd av own nm cc nL r) (hK : zK D cs s) (hP : va_P D zcl (zB o cs sc lc fa fb ad bd c gp mo V) H) (hg3 : (∃ i, i < sc ∧ g = ad i ∧ zgat pl V = V 0 i) ∨ ∃ j, j < lc ∧ g = bd j ∧ zgat pl V = V 4 j) {idx : Nat} (hlink : Cond.fieldLink own idx "BranchLayout$Place" "at" "I" ∈ zt) (hdg : decode cc pc = .ok (.getfield idx, 3))
    (kk : W p l e R s m av below meth cd H locs cells slots Q (F0 m (pc + 3) ls (.int (zgat pl V) :: rest))) : W p l e R s m av below meth cd H locs cells slots Q (F0 m pc ls (.ref g :: rest)) := by
  rcases hg3 with ⟨i, hi, rfl, hu⟩ | ⟨j, hj, rfl, hu⟩
  · rw [hu] at kk
    exact zs_get_at E hK hP hi hlink (fun _ h9 => h9) hdg kk
  · rw [hu] at kk
    obtain ⟨hx, hb, hr, hts, hown, hlocks, hml, hin⟩ := E
    exact va_get (D := D) (ci := 3) (v := .int (V 4 j)) (C := "BranchLayout$Label") (T := T_La) (N := 3) hx hb hts in_La hown hK.1 hP (4 + sc + j) (zb_l hj) rfl 1 (by decide) (hts _ hlink) (fun _ h9 => h9) rfl hdg kk
set_option maxHeartbeats 4000000 in
set_option maxRecDepth 100000 in
theorem t_Br_lengthenIfTooFar (l : Launch) (D : va_G) (cs : ClassId × ClassId × ClassId × ClassId) (A : Nat → Prop) (o : Nat × Nat × Nat × Nat) (sc lc : Nat) (fa fb : Nat → Option Nat) (ad bd : Nat → Nat) (c : Nat → Nat → Nat) (gp mo : Nat → Int32) (V : Nat → Nat → Int32) (hI : zI sc lc c gp) (k : Nat) (hk : k < sc) (h2k : c 0 k = 2) (hv : V 2 k = 0 ∨ V 2 k = 1) (hg : V 2 k = 1 → ¬ gp k = -1) : zMet l D cs y_Br_lengthenIfTooFar c_Br_lengthenIfTooFar 3 (some FieldType.boolean) ({ frames := 0, cells := 0, slots := 0, locals := 0 } : Room) [.ref (ad k)] (zH D A (zB o cs sc lc fa fb ad bd c gp mo V)) A (zqi fun r H => r = (if V 2 k = 1 ∧ zok (zdi gp mo V k) = false then 1 else 0) ∧ zH D A (zB o cs sc lc fa fb ad bd c gp mo (zLk gp mo V k)) H) := by
  refine zmk (by decide) (Nat.le_of_ble_eq_true rfl) ?_
  intro p e s m below meth cd ls E hK hP0 hl
  have hS : va_S A s.heap s.heap [] := va_S.rf
  obtain ⟨hP, hD⟩ := id hP0
  obtain ⟨hx, hb, hr, hts, hown, hlocks, hml, hin⟩ := id E
  have hl : lv_has ls 3 [(0, .ref (ad k))] := hl
  refine lv_aload_n hx hb d_Br_lengthenIfTooFar_0 rfl (lv_at hl 0 rfl) ?_
  refine va_get (D := D) (ci := 1) (v := .int (V 2 k)) (C := "BranchLayout$Branch") (T := T_Br) (N := 8) hx hb hts in_Br hown hK.1 hP (4 + k) (zc_Br hk h2k) rfl 6 (by decide) (hts _ w_142) (fun _ h9 => h9) rfl d_Br_lengthenIfTooFar_1 ?_
  refine lv_if_eq (tgt := 14) hx hb d_Br_lengthenIfTooFar_4 (by decide) (fun c_4 => ?_) (fun c_4 => ?_)
  · skip
    refine lv_iconst (v := 0) hx hb d_Br_lengthenIfTooFar_14 (by decide) ?_
    refine zrz E d_Br_lengthenIfTooFar_15 (by decide) hS (Nat.le_of_ble_eq_true rfl) (Nat.le_of_ble_eq_true rfl) ?_
    exact ⟨_, rfl, by simp [c_4], by simpa [zLk, c_4] using hP0⟩
  · skip
    have h1 := hv.resolve_left c_4
    obtain ⟨g, hg1, hg3⟩ := zga_valid (ad := ad) (bd := bd) hI.1 hI.2.1 V (hI.2.2.1 k hk).2.2.2.2.1 (hg h1)
    refine lv_aload_n hx hb d_Br_lengthenIfTooFar_7 rfl (lv_at hl 0 rfl) ?_
    refine va_get (D := D) (ci := 1) (v := va_rf (zga ad bd (gp k))) (C := "BranchLayout$Branch") (T := T_Br) (N := 8) hx hb hts in_Br hown hK.1 hP (4 + k) (zc_Br hk h2k) rfl 4 (by decide) (hts _ w_138) (fun _ h9 => h9) rfl d_Br_lengthenIfTooFar_8 ?_
    rw [hg1]
    refine lv_ifnonnull (tgt := 16) hx hb d_Br_lengthenIfTooFar_11 (by decide) ?_
    refine lv_aload_n hx hb d_Br_lengthenIfTooFar_16 rfl (lv_at hl 0 rfl) ?_
    refine va_get (D := D) (ci := 1) (v := va_rf (zga ad bd (gp k))) (C := "BranchLayout$Branch") (T := T_Br) (N := 8) hx hb hts in_Br hown hK.1 hP (4 + k) (zc_Br hk h2k) rfl 4 (by decide) (hts _ w_138) (fun _ h9 => h9) rfl d_Br_lengthenIfTooFar_17 ?_
    rw [hg1]
    refine zp_get_at E hK hP hg3 w_82 d_Br_lengthenIfTooFar_20 ?_
    refine lv_i2l hx hb d_Br_lengthenIfTooFar_23 rfl ?_
    refine lv_aload_n hx hb d_Br_lengthenIfTooFar_24 rfl (lv_at hl 0 rfl) ?_
    refine va_get (D := D) (ci := 1) (v := .int (mo k)) (C := "BranchLayout$Branch") (T := T_Br) (N := 8) hx hb hts in_Br hown hK.1 hP (4 + k) (zc_Br hk h2k) rfl 5 (by decide) (hts _ w_140) (fun _ h9 => h9) rfl d_Br_lengthenIfTooFar_25 ?_
    refine lv_i2l hx hb d_Br_lengthenIfTooFar_28 rfl ?_
    refine lv_ladd hx hb d_Br_lengthenIfTooFar_29 ?_
    refine lv_aload_n hx hb d_Br_lengthenIfTooFar_30 rfl (lv_at hl 0 rfl) ?_
    refine va_get (D := D) (ci := 1) (v := .int (V 0 k)) (C := "BranchLayout$Branch") (T := T_Br) (N := 8) hx hb hts in_Br hown hK.1 hP (4 + k) (zc_Br hk h2k) rfl 2 (by decide) (hts _ w_83) (u_same (hts _ w_84)) rfl d_Br_lengthenIfTooFar_31 ?_
    refine lv_aload_n hx hb d_Br_lengthenIfTooFar_34 rfl (lv_at hl 0 rfl) ?_
    refine va_get (D := D) (ci := 1) (v := .int (V 1 k)) (C := "BranchLayout$Branch") (T := T_Br) (N := 8) hx hb hts in_Br hown hK.1 hP (4 + k) (zc_Br hk h2k) rfl 0 (by decide) (hts _ w_69) (u_same (hts _ w_70)) rfl d_Br_lengthenIfTooFar_35 ?_
    refine lv_iadd hx hb d_Br_lengthenIfTooFar_38 ?_
    refine lv_i2l hx hb d_Br_lengthenIfTooFar_39 rfl ?_
    refine lv_lsub hx hb d_Br_lengthenIfTooFar_40 ?_
    refine lv_topl (fun x_5 ex_5 => ?_)
    have edi : x_5 = zdi gp mo V k := ex_5
    refine lv_lstore_n (lv' := [(1, .long x_5), (0, .ref (ad k))]) hx hb d_Br_lengthenIfTooFar_41 rfl hl (by decide) rfl (fun ls hl => ?_)
    refine lv_aload_n hx hb d_Br_lengthenIfTooFar_42 rfl (lv_at hl 1 rfl) ?_
    refine lv_lload_n hx hb d_Br_lengthenIfTooFar_43 rfl (lv_at hl 0 rfl) ?_
    refine lv_ldc2 (v := (-128)) hx hb hown (hts _ w_231) d_Br_lengthenIfTooFar_44 ?_
    refine W.lcmp hx hb d_Br_lengthenIfTooFar_47 ?_
    refine lv_if_lt (tgt := 63) hx hb d_Br_lengthenIfTooFar_48 (by decide) (fun c_6 => ?_) (fun c_6 => ?_)
    · skip
      have ho : zok (zdi gp mo V k) = false := by
        rw [← edi]
        simp only [zok]; rw [decide_eq_false (Int64.not_le.mpr ((lg_cmp_lt _ _).mp c_6))]; rfl
      refine lv_iconst (v := 0) hx hb d_Br_lengthenIfTooFar_63 (by decide) ?_
      refine va_put (D := D) (ci := 1) (v := .int 0) (ty := .boolean) (C := "BranchLayout$Branch") (T := T_Br) (N := 8) hx hb hts in_Br ty_Br ok_Br nm_Br hown hK.1 hP hD hS (4 + k) (zc_Br hk h2k) rfl 6 (by decide) (hts _ w_142) (fun _ h9 => h9) rfl (by decide +kernel) rfl rfl (Nat.le_of_ble_eq_true rfl) d_Br_lengthenIfTooFar_64 (fun H locs hP hD hS => ?_)
      have hP : va_P D zcl (zB o cs sc lc fa fb ad bd c gp mo (zu V 2 k 0)) H := by rw [← zb_p2 hk h2k]; exact hP
      have hD : va_D A (zB o cs sc lc fa fb ad bd c gp mo (zu V 2 k 0)) := by rw [← zb_p2 hk h2k]; exact hD
      refine lv_aload_n hx hb d_Br_lengthenIfTooFar_67 rfl (lv_at hl 1 rfl) ?_
      refine lv_aload_n hx hb d_Br_lengthenIfTooFar_68 rfl (lv_at hl 1 rfl) ?_
      refine va_get (D := D) (ci := 1) (v := .int 0) (C := "BranchLayout$Branch") (T := T_Br) (N := 8) hx hb hts in_Br hown hK.1 hP (4 + k) (zc_Br hk h2k) rfl 6 (by decide) (hts _ w_142) (fun _ h9 => h9) (by simp [zu]) d_Br_lengthenIfTooFar_69 ?_
      refine lv_if_eq (tgt := 80) hx hb d_Br_lengthenIfTooFar_72 (by decide) (fun c_7 => ?_) (fun c_7 => ?_)
      · skip
        refine lv_iconst (v := 0) hx hb d_Br_lengthenIfTooFar_80 (by decide) ?_
        refine va_put (D := D) (ci := 1) (v := .int 0) (ty := .int) (C := "BranchLayout$Branch") (T := T_Br) (N := 8) hx hb hts in_Br ty_Br ok_Br nm_Br hown hK.1 hP hD hS (4 + k) (zc_Br hk h2k) rfl 7 (by decide) (hts _ w_144) (fun _ h9 => h9) rfl (by decide +kernel) rfl rfl (Nat.le_of_ble_eq_true rfl) d_Br_lengthenIfTooFar_81 (fun H locs hP hD hS => ?_)
        have hP : va_P D zcl (zB o cs sc lc fa fb ad bd c gp mo (zu (zu V 2 k 0) 3 k 0)) H := by rw [← zb_p3 hk h2k]; exact hP
        have hD : va_D A (zB o cs sc lc fa fb ad bd c gp mo (zu (zu V 2 k 0) 3 k 0)) := by rw [← zb_p3 hk h2k]; exact hD
        refine lv_aload_n hx hb d_Br_lengthenIfTooFar_84 rfl (lv_at hl 1 rfl) ?_
        refine va_get (D := D) (ci := 1) (v := .int 0) (C := "BranchLayout$Branch") (T := T_Br) (N := 8) hx hb hts in_Br hown hK.1 hP (4 + k) (zc_Br hk h2k) rfl 6 (by decide) (hts _ w_142) (fun _ h9 => h9) (by simp [zu]) d_Br_lengthenIfTooFar_85 ?_
        refine lv_if_ne (tgt := 95) hx hb d_Br_lengthenIfTooFar_88 (by decide) (fun c_8 => ?_) (fun c_8 => ?_)
        · skip
          exact absurd rfl c_8
        · skip
          refine lv_iconst (v := 1) hx hb d_Br_lengthenIfTooFar_91 (by decide) ?_
          refine lv_goto (tgt := 96) hx hb d_Br_lengthenIfTooFar_92 (by decide) ?_
          refine zrz E d_Br_lengthenIfTooFar_96 (by decide) hS (Nat.le_of_ble_eq_true rfl) (Nat.le_of_ble_eq_true rfl) ?_
          refine ⟨_, rfl, by simp [h1, ho], ?_⟩
          simp only [zLk, h1, ho, if_true, Bool.false_eq_true, if_false]
          exact ⟨hP, hD⟩
      · skip
        exact absurd rfl c_7
    · skip
      refine lv_lload_n hx hb d_Br_lengthenIfTooFar_51 rfl (lv_at hl 0 rfl) ?_
      refine lv_ldc2 (v := 127) hx hb hown (hts _ w_232) d_Br_lengthenIfTooFar_52 ?_
      refine W.lcmp hx hb d_Br_lengthenIfTooFar_55 ?_
      refine lv_if_gt (tgt := 63) hx hb d_Br_lengthenIfTooFar_56 (by decide) (fun c_9 => ?_) (fun c_9 => ?_)
      · skip
        have ho : zok (zdi gp mo V k) = false := by
          rw [← edi]
          simp only [zok]; rw [decide_eq_false (p := x_5 ≤ 127) (Int64.not_le.mpr ((lg_cmp_gt _ _).mp c_9))]; exact Bool.and_false _
        refine lv_iconst (v := 0) hx hb d_Br_lengthenIfTooFar_63 (by decide) ?_
        refine va_put (D := D) (ci := 1) (v := .int 0) (ty := .boolean) (C := "BranchLayout$Branch") (T := T_Br) (N := 8) hx hb hts in_Br ty_Br ok_Br nm_Br hown hK.1 hP hD hS (4 + k) (zc_Br hk h2k) rfl 6 (by decide) (hts _ w_142) (fun _ h9 => h9) rfl (by decide +kernel) rfl rfl (Nat.le_of_ble_eq_true rfl) d_Br_lengthenIfTooFar_64 (fun H locs hP hD hS => ?_)
        have hP : va_P D zcl (zB o cs sc lc fa fb ad bd c gp mo (zu V 2 k 0)) H := by rw [← zb_p2 hk h2k]; exact hP
        have hD : va_D A (zB o cs sc lc fa fb ad bd c gp mo (zu V 2 k 0)) := by rw [← zb_p2 hk h2k]; exact hD
        refine lv_aload_n hx hb d_Br_lengthenIfTooFar_67 rfl (lv_at hl 1 rfl) ?_
        refine lv_aload_n hx hb d_Br_lengthenIfTooFar_68 rfl (lv_at hl 1 rfl) ?_
        refine va_get (D := D) (ci := 1) (v := .int 0) (C := "BranchLayout$Branch") (T := T_Br) (N := 8) hx hb hts in_Br hown hK.1 hP (4 + k) (zc_Br hk h2k) rfl 6 (by decide) (hts _ w_142) (fun _ h9 => h9) (by simp [zu]) d_Br_lengthenIfTooFar_69 ?_
        refine lv_if_eq (tgt := 80) hx hb d_Br_lengthenIfTooFar_72 (by decide) (fun c_10 => ?_) (fun c_10 => ?_)
        · skip
          refine lv_iconst (v := 0) hx hb d_Br_lengthenIfTooFar_80 (by decide) ?_
          refine va_put (D := D) (ci := 1) (v := .int 0) (ty := .int) (C := "BranchLayout$Branch") (T := T_Br) (N := 8) hx hb hts in_Br ty_Br ok_Br nm_Br hown hK.1 hP hD hS (4 + k) (zc_Br hk h2k) rfl 7 (by decide) (hts _ w_144) (fun _ h9 => h9) rfl (by decide +kernel) rfl rfl (Nat.le_of_ble_eq_true rfl) d_Br_lengthenIfTooFar_81 (fun H locs hP hD hS => ?_)
          have hP : va_P D zcl (zB o cs sc lc fa fb ad bd c gp mo (zu (zu V 2 k 0) 3 k 0)) H := by rw [← zb_p3 hk h2k]; exact hP
          have hD : va_D A (zB o cs sc lc fa fb ad bd c gp mo (zu (zu V 2 k 0) 3 k 0)) := by rw [← zb_p3 hk h2k]; exact hD
          refine lv_aload_n hx hb d_Br_lengthenIfTooFar_84 rfl (lv_at hl 1 rfl) ?_
          refine va_get (D := D) (ci := 1) (v := .int 0) (C := "BranchLayout$Branch") (T := T_Br) (N := 8) hx hb hts in_Br hown hK.1 hP (4 + k) (zc_Br hk h2k) rfl 6 (by decide) (hts _ w_142) (fun _ h9 => h9) (by simp [zu]) d_Br_lengthenIfTooFar_85 ?_
          refine lv_if_ne (tgt := 95) hx hb d_Br_lengthenIfTooFar_88 (by decide) (fun c_11 => ?_) (fun c_11 => ?_)
          · skip
            exact absurd rfl c_11
          · skip
            refine lv_iconst (v := 1) hx hb d_Br_lengthenIfTooFar_91 (by decide) ?_
            refine lv_goto (tgt := 96) hx hb d_Br_lengthenIfTooFar_92 (by decide) ?_
            refine zrz E d_Br_lengthenIfTooFar_96 (by decide) hS (Nat.le_of_ble_eq_true rfl) (Nat.le_of_ble_eq_true rfl) ?_
            refine ⟨_, rfl, by simp [h1, ho], ?_⟩
            simp only [zLk, h1, ho, if_true, Bool.false_eq_true, if_false]
            exact ⟨hP, hD⟩
        · skip
          exact absurd rfl c_10
      · skip
        have ho : zok (zdi gp mo V k) = true := by
          rw [← edi]
          simp only [zok]
          rw [decide_eq_true (Int64.not_lt.mp fun q => c_6 ((lg_cmp_lt _ _).mpr q)), decide_eq_true (Int64.not_lt.mp fun q => c_9 ((lg_cmp_gt _ _).mpr q))]; rfl
        refine lv_iconst (v := 1) hx hb d_Br_lengthenIfTooFar_59 (by decide) ?_
        refine lv_goto (tgt := 64) hx hb d_Br_lengthenIfTooFar_60 (by decide) ?_
        refine va_put (D := D) (ci := 1) (v := .int 1) (ty := .boolean) (C := "BranchLayout$Branch") (T := T_Br) (N := 8) hx hb hts in_Br ty_Br ok_Br nm_Br hown hK.1 hP hD hS (4 + k) (zc_Br hk h2k) rfl 6 (by decide) (hts _ w_142) (fun _ h9 => h9) rfl (by decide +kernel) rfl rfl (Nat.le_of_ble_eq_true rfl) d_Br_lengthenIfTooFar_64 (fun H locs hP hD hS => ?_)
        have hP : va_P D zcl (zB o cs sc lc fa fb ad bd c gp mo (zu V 2 k 1)) H := by rw [← zb_p2 hk h2k]; exact hP
        have hD : va_D A (zB o cs sc lc fa fb ad bd c gp mo (zu V 2 k 1)) := by rw [← zb_p2 hk h2k]; exact hD
        refine lv_aload_n hx hb d_Br_lengthenIfTooFar_67 rfl (lv_at hl 1 rfl) ?_
        refine lv_aload_n hx hb d_Br_lengthenIfTooFar_68 rfl (lv_at hl 1 rfl) ?_
        refine va_get (D := D) (ci := 1) (v := .int 1) (C := "BranchLayout$Branch") (T := T_Br) (N := 8) hx hb hts in_Br hown hK.1 hP (4 + k) (zc_Br hk h2k) rfl 6 (by decide) (hts _ w_142) (fun _ h9 => h9) (by simp [zu]) d_Br_lengthenIfTooFar_69 ?_
        refine lv_if_eq (tgt := 80) hx hb d_Br_lengthenIfTooFar_72 (by decide) (fun c_12 => ?_) (fun c_12 => ?_)
        · skip
          exact absurd c_12 (by decide)
        · skip
          refine lv_lload_n hx hb d_Br_lengthenIfTooFar_75 rfl (lv_at hl 0 rfl) ?_
          refine lv_l2i hx hb d_Br_lengthenIfTooFar_76 rfl ?_
          refine lv_goto (tgt := 81) hx hb d_Br_lengthenIfTooFar_77 (by decide) ?_
          refine va_put (D := D) (ci := 1) (v := .int x_5.toInt32) (ty := .int) (C := "BranchLayout$Branch") (T := T_Br) (N := 8) hx hb hts in_Br ty_Br ok_Br nm_Br hown hK.1 hP hD hS (4 + k) (zc_Br hk h2k) rfl 7 (by decide) (hts _ w_144) (fun _ h9 => h9) rfl (by decide +kernel) rfl rfl (Nat.le_of_ble_eq_true rfl) d_Br_lengthenIfTooFar_81 (fun H locs hP hD hS => ?_)
          have hP : va_P D zcl (zB o cs sc lc fa fb ad bd c gp mo (zu (zu V 2 k 1) 3 k x_5.toInt32)) H := by rw [← zb_p3 hk h2k]; exact hP
          have hD : va_D A (zB o cs sc lc fa fb ad bd c gp mo (zu (zu V 2 k 1) 3 k x_5.toInt32)) := by rw [← zb_p3 hk h2k]; exact hD
          refine lv_aload_n hx hb d_Br_lengthenIfTooFar_84 rfl (lv_at hl 1 rfl) ?_
          refine va_get (D := D) (ci := 1) (v := .int 1) (C := "BranchLayout$Branch") (T := T_Br) (N := 8) hx hb hts in_Br hown hK.1 hP (4 + k) (zc_Br hk h2k) rfl 6 (by decide) (hts _ w_142) (fun _ h9 => h9) (by simp [zu]) d_Br_lengthenIfTooFar_85 ?_
          refine lv_if_ne (tgt := 95) hx hb d_Br_lengthenIfTooFar_88 (by decide) (fun c_13 => ?_) (fun c_13 => ?_)
          · skip
            refine lv_iconst (v := 0) hx hb d_Br_lengthenIfTooFar_95 (by decide) ?_
            refine zrz E d_Br_lengthenIfTooFar_96 (by decide) hS (Nat.le_of_ble_eq_true rfl) (Nat.le_of_ble_eq_true rfl) ?_
            refine ⟨_, rfl, by simp [ho], ?_⟩
            simp only [zLk, h1, ho, if_true]
            rw [← edi]
            exact ⟨hP, hD⟩
          · skip
            exact absurd c_13 (by decide)
end
section
section ZCG
variable {c : Nat → Nat → Nat} {gp mo : Nat → Int32} {sc lc : Nat} {b b2 : Nat → Bool} {V V2 : Nat → Nat → Int32}
theorem zln_congr {k e : Nat} (h : b k = b2 k) : zln c b k e = zln c b2 k e := by simp only [zln, h]
theorem zSZ_congr : ∀ (k i : Nat), (∀ j, j < k → b j = b2 j) → zSZ c b k i = zSZ c b2 k i
  | 0, _, _ => rfl
  | k + 1, i, h => by
    have h1 := zSZ_congr k i (fun j hj => h j (by omega))
    simp only [zSZ, h1, zln_congr (h k (by omega))]
theorem zL0_congr {k : Nat} (h : ∀ j, j < sc → b j = b2 j) (hk : k < sc) : zL c b sc 0 k = zL c b2 sc 0 k ∧ zL c b sc 1 k = zL c b2 sc 1 k := by
  have h1 := zSZ_congr (c := c) k (c 1 k) (fun j hj => h j (by omega))
  simp [zL, h1, zln_congr (h k hk)]
theorem zL4_congr {j : Nat} (h : ∀ j, j < sc → b j = b2 j) (hj : c 4 j ≤ sc) : zL c b sc 4 j = zL c b2 sc 4 j := by
  have h1 := zSZ_congr (c := c) (c 4 j) (c 3 j) (fun i hi => h i (by omega))
  simp [zL, h1]
theorem zL5_congr {i : Nat} (h : ∀ j, j < sc → b j = b2 j) : zL c b sc 5 i = zL c b2 sc 5 i := by
  have h1 := zSZ_congr (c := c) sc i h
  simp [zL, h1]
theorem zdi_congr (hs : sc ≤ 4096) (hl : lc ≤ 1024) {k : Nat} (hk : k < sc) (hv : zvalid sc lc (gp k)) (hn : ¬ gp k = -1) (h0 : ∀ i, i < sc → V 0 i = V2 0 i ∧ V 1 i = V2 1 i) (h4 : ∀ j, j < lc → V 4 j = V2 4 j) : zdi gp mo V k = zdi gp mo V2 k := by
  have h1 := h0 k hk
  have h2 : zgat (gp k) V = zgat (gp k) V2 := by
    rcases hv with h | ⟨j, hj, h⟩ | ⟨i, hi, h⟩
    · exact absurd h hn
    · have e0 := nI_pos (n := j) (by omega)
      have e1 := nI_clamp (n := j) (by omega)
      rw [h]
      simp only [zgat, e0, if_false, e1, h4 j hj]
    · obtain ⟨e1, e2, e3⟩ := zm2 (i := i) (by omega)
      have e4 := nI_clamp (n := i) (by omega)
      rw [h]
      simp only [zgat, e2, if_true, e1, e4, (h0 i hi).1]
  simp only [zdi, h2, h1.1, h1.2]
/-- only branches that go are short -/
def zgo1 (sc : Nat) (c : Nat → Nat → Nat) (gp : Nat → Int32) (b : Nat → Bool) : Prop := ∀ k, k < sc → b k = true → c 0 k = 2 ∧ ¬ gp k = -1
theorem zok_congr (hI : zI sc lc c gp) (hg : zgo1 sc c gp b) (h : ∀ j, j < sc → b j = b2 j) {k : Nat} (hk : k < sc) (hb : b k = true) : zok (zdi gp mo (zL c b sc) k) = zok (zdi gp mo (zL c b2 sc) k) := by
  rw [zdi_congr (V2 := zL c b2 sc) hI.1 hI.2.1 hk (hI.2.2.1 k hk).2.2.2.2.1 (hg k hk hb).2 (fun i hi => zL0_congr h hi) (fun j hj => zL4_congr h (hI.2.2.2.1 j hj).2)]
theorem zany_congr (hI : zI sc lc c gp) (hg : zgo1 sc c gp b) (h : ∀ j, j < sc → b j = b2 j) : zany c gp mo sc b ↔ zany c gp mo sc b2 := by
  constructor
  · rintro ⟨k, hk, h1, h2⟩
    exact ⟨k, hk, by rw [← h k hk]; exact h1, by rw [← zok_congr hI hg h hk h1]; exact h2⟩
  · rintro ⟨k, hk, h1, h2⟩
    have h3 : b k = true := by rw [h k hk]; exact h1
    exact ⟨k, hk, h3, by rw [zok_congr hI hg h hk h3]; exact h2⟩
theorem zstep_congr (hI : zI sc lc c gp) (hg : zgo1 sc c gp b) (h : ∀ j, j < sc → b j = b2 j) {k : Nat} (hk : k < sc) : zstep c gp mo sc b k = zstep c gp mo sc b2 k := by
  simp only [zstep]
  cases hb : b k with
  | false => rw [← h k hk, hb]; simp
  | true => rw [← h k hk, hb, zok_congr hI hg h hk hb]
theorem zgo1_step (hg : zgo1 sc c gp b) : zgo1 sc c gp (zstep c gp mo sc b) := fun k hk h => hg k hk (by simp only [zstep, Bool.and_eq_true] at h; exact h.1)
theorem zgo1_congr (hg : zgo1 sc c gp b) (h : ∀ j, j < sc → b j = b2 j) : zgo1 sc c gp b2 := fun k hk h1 => hg k hk (by rw [h k hk]; exact h1)
end ZCG
/-- b runs to e in n rounds -/
def zrun (c : Nat → Nat → Nat) (gp mo : Nat → Int32) (sc : Nat) : Nat → (Nat → Bool) → (Nat → Bool) → Prop
  | 0, b, e => ¬ zany c gp mo sc b ∧ ∀ k, k < sc → e k = b k
  | n + 1, b, e => zany c gp mo sc b ∧ zrun c gp mo sc n (zstep c gp mo sc b) e
def zR (c : Nat → Nat → Nat) (gp mo : Nat → Int32) (sc : Nat) (b e : Nat → Bool) : Prop := ∃ n, zrun c gp mo sc n b e
section ZRN
variable {c : Nat → Nat → Nat} {gp mo : Nat → Int32} {sc lc : Nat}
theorem zrun_congr (hI : zI sc lc c gp) : ∀ (n : Nat) {b b2 e : Nat → Bool}, zgo1 sc c gp b → (∀ j, j < sc → b j = b2 j) → zrun c gp mo sc n b e → zrun c gp mo sc n b2 e
  | 0, b, b2, e, hg, h, ⟨h1, h2⟩ => ⟨fun q => h1 ((zany_congr hI hg h).mpr q), fun k hk => by rw [h2 k hk, h k hk]⟩
  | n + 1, b, b2, e, hg, h, ⟨h1, h2⟩ => ⟨(zany_congr hI hg h).mp h1, zrun_congr hI n (zgo1_step hg) (fun j hj => zstep_congr hI hg h hj) h2⟩
theorem zR_congr (hI : zI sc lc c gp) {b b2 e : Nat → Bool} (hg : zgo1 sc c gp b) (h : ∀ j, j < sc → b j = b2 j) (hr : zR c gp mo sc b e) : zR c gp mo sc b2 e := by
  obtain ⟨n, hn⟩ := hr
  exact ⟨n, zrun_congr hI n hg h hn⟩
theorem zrun_det : ∀ (n n2 : Nat) {b e e2 : Nat → Bool}, zrun c gp mo sc n b e → zrun c gp mo sc n2 b e2 → ∀ k, k < sc → e k = e2 k
  | 0, 0, b, e, e2, h, h2 => fun k hk => by rw [h.2 k hk, h2.2 k hk]
  | 0, n2 + 1, b, e, e2, h, h2 => absurd h2.1 h.1
  | n + 1, 0, b, e, e2, h, h2 => absurd h.1 h2.1
  | n + 1, n2 + 1, b, e, e2, h, h2 => zrun_det n n2 h.2 h2.2
theorem zR_det {b e e2 : Nat → Bool} (h : zR c gp mo sc b e) (h2 : zR c gp mo sc b e2) : ∀ k, k < sc → e k = e2 k := by
  obtain ⟨n, hn⟩ := h
  obtain ⟨n2, hn2⟩ := h2
  exact zrun_det n n2 hn hn2
end ZRN
/-- V is laid out by b -/
def zLaid (c : Nat → Nat → Nat) (gp mo : Nat → Int32) (sc lc : Nat) (b : Nat → Bool) (V : Nat → Nat → Int32) : Prop := (∀ k, k < sc → V 0 k = zL c b sc 0 k ∧ V 1 k = zL c b sc 1 k ∧ V 2 k = (if b k then 1 else 0) ∧ V 3 k = (if b k then (zdi gp mo (zL c b sc) k).toInt32 else 0)) ∧ (∀ j, j < lc → V 4 j = zL c b sc 4 j) ∧ ∀ i, i < 4 → V 5 i = zL c b sc 5 i
def zcb (c : Nat → Nat → Nat) (b : Nat → Bool) : Nat → Nat
  | 0 => 0
  | k + 1 => zcb c b k + (if c 0 k = 2 ∧ b k = false then 1 else 0)
/-- what relax answers and leaves -/
def zRx (c : Nat → Nat → Nat) (gp mo : Nat → Int32) (sc lc : Nat) (V : Nat → Nat → Int32) (r : Int32) : Prop := ∃ b, zR c gp mo sc (zb0 c gp) b ∧ zgo1 sc c gp b ∧ zLaid c gp mo sc lc b V ∧ r = nI (zcb c b sc)
theorem zcb_congr {c : Nat → Nat → Nat} {b b2 : Nat → Bool} : ∀ (k : Nat), (∀ j, j < k → b j = b2 j) → zcb c b k = zcb c b2 k
  | 0, _ => rfl
  | k + 1, h => by
    have h1 := zcb_congr (c := c) k (fun j hj => h j (by omega))
    simp only [zcb, h1, h k (by omega)]
theorem zct_cb {c : Nat → Nat → Nat} {b : Nat → Bool} {V : Nat → Nat → Int32} : ∀ (k : Nat), (∀ j, j < k → V 2 j = if b j then 1 else 0) → zct c V k = zcb c b k
  | 0, _ => rfl
  | k + 1, h => by
    have h1 := zct_cb (c := c) k (fun j hj => h j (by omega))
    have h2 := h k (by omega)
    unfold zct zcb
    rw [h1]
    cases hb : b k with
    | true => rw [hb] at h2; simp [h2]
    | false => rw [hb] at h2; simp [h2]
theorem zRx_same {c : Nat → Nat → Nat} {gp mo : Nat → Int32} {sc lc : Nat} {V V2 : Nat → Nat → Int32} {r r2 : Int32} (hI : zI sc lc c gp) (h : zRx c gp mo sc lc V r) (h2 : zRx c gp mo sc lc V2 r2) : r = r2 ∧ (∀ k, k < sc → V 0 k = V2 0 k ∧ V 1 k = V2 1 k ∧ V 2 k = V2 2 k ∧ V 3 k = V2 3 k) ∧ (∀ j, j < lc → V 4 j = V2 4 j) ∧ ∀ i, i < 4 → V 5 i = V2 5 i := by
  obtain ⟨b, hR, hg, ⟨l1, l2, l3⟩, hr⟩ := h
  obtain ⟨b2, hR2, hg2, ⟨m1, m2, m3⟩, hr2⟩ := h2
  have hb := zR_det hR hR2
  refine ⟨by rw [hr, hr2, zcb_congr sc hb], fun k hk => ?_, fun j hj => ?_, fun i hi => ?_⟩
  · obtain ⟨a1, a2, a3, a4⟩ := l1 k hk
    obtain ⟨d1, d2, d3, d4⟩ := m1 k hk
    obtain ⟨e1, e2⟩ := zL0_congr (c := c) hb hk
    refine ⟨by rw [a1, d1, e1], by rw [a2, d2, e2], by rw [a3, d3, hb k hk], ?_⟩
    rw [a4, d4, ← hb k hk]
    cases hbk : b k with
    | false => simp
    | true =>
      rw [zdi_congr (V2 := zL c b2 sc) hI.1 hI.2.1 hk (hI.2.2.1 k hk).2.2.2.2.1 (hg k hk hbk).2 (fun i hi => zL0_congr hb hi) (fun j hj => zL4_congr hb (hI.2.2.2.1 j hj).2)]
  · rw [l2 j hj, m2 j hj, zL4_congr hb (hI.2.2.2.1 j hj).2]
  · rw [l3 i hi, m3 i hi, zL5_congr hb]
theorem zRx_J {c : Nat → Nat → Nat} {gp mo : Nat → Int32} {sc lc : Nat} {V : Nat → Nat → Int32} {r : Int32} (h : zRx c gp mo sc lc V r) : zJ sc c gp V := by
  obtain ⟨b, hR, hg, ⟨l1, -, -⟩, -⟩ := h
  intro k hk
  obtain ⟨-, -, a3, a4⟩ := l1 k hk
  have hgk := hg k hk
  cases hb : b k with
  | true =>
    rw [hb] at a3 a4
    refine ⟨Or.inr a3, fun q => ?_, fun q => absurd q (hgk hb).2⟩
    rw [a3] at q
    exact absurd q (by decide)
  | false =>
    rw [hb] at a3 a4
    exact ⟨Or.inl a3, fun _ => a4, fun _ => a3⟩
/-- short ones among the first k -/
def zcs (V : Nat → Nat → Int32) : Nat → Nat
  | 0 => 0
  | k + 1 => zcs V k + (if V 2 k = 1 then 1 else 0)
theorem zcs_le {V : Nat → Nat → Int32} : ∀ k, zcs V k ≤ k
  | 0 => Nat.le_refl _
  | k + 1 => by
    have := zcs_le (V := V) k
    unfold zcs
    split <;> omega
theorem zcs_mono {V V2 : Nat → Nat → Int32} : ∀ k, (∀ i, i < k → V2 2 i = 1 → V 2 i = 1) → zcs V2 k ≤ zcs V k
  | 0, _ => Nat.le_refl _
  | k + 1, h => by
    have h1 := zcs_mono k (fun i hi => h i (by omega))
    have h2 := h k (by omega)
    unfold zcs
    by_cases h3 : V2 2 k = 1
    · rw [if_pos h3, if_pos (h2 h3)]; omega
    · rw [if_neg h3]; split <;> omega
theorem zcs_lt {V V2 : Nat → Nat → Int32} : ∀ k, (∀ i, i < k → V2 2 i = 1 → V 2 i = 1) → (∃ i, i < k ∧ V 2 i = 1 ∧ ¬ V2 2 i = 1) → zcs V2 k < zcs V k
  | 0, _, ⟨i, hi, _⟩ => absurd hi (Nat.not_lt_zero i)
  | k + 1, h, ⟨i, hi, h1, h2⟩ => by
    have hm := zcs_mono k (fun i hi => h i (by omega))
    unfold zcs
    by_cases hik : i = k
    · subst hik
      rw [if_neg h2, if_pos h1]; omega
    · have := zcs_lt k (fun i hi => h i (by omega)) ⟨i, by omega, h1, h2⟩
      by_cases h3 : V2 2 k = 1
      · rw [if_pos h3, if_pos (h k (by omega) h3)]; omega
      · rw [if_neg h3]; split <;> omega
theorem zcs_cong {V V2 : Nat → Nat → Int32} : ∀ k, (∀ i, i < k → V2 2 i = V 2 i) → zcs V2 k = zcs V k
  | 0, _ => rfl
  | k + 1, h => by
    have h1 := zcs_cong k (fun i hi => h i (by omega))
    simp only [zcs, h1, h k (by omega)]
/-- a state between two rounds -/
def zMid (c : Nat → Nat → Nat) (gp mo : Nat → Int32) (sc : Nat) (V : Nat → Nat → Int32) : Prop := (∀ k, k < sc → (V 2 k = 0 ∨ V 2 k = 1) ∧ (V 2 k = 1 → c 0 k = 2 ∧ ¬ gp k = -1) ∧ (V 2 k = 0 → V 3 k = 0)) ∧ ∀ e, zR c gp mo sc (zbr V) e → zR c gp mo sc (zb0 c gp) e
section ZMD
variable {c : Nat → Nat → Nat} {gp mo : Nat → Int32} {sc lc : Nat} {V : Nat → Nat → Int32}
theorem zMid_go (h : zMid c gp mo sc V) : zgo1 sc c gp (zbr V) := fun k hk hb => (h.1 k hk).2.1 (of_decide_eq_true hb)
theorem zMid_0 (hI : zI sc lc c gp) (hJ : zJ sc c gp V) : zMid c gp mo sc (zSh c gp V sc) := by
  have key : ∀ k, k < sc → (c 0 k = 2 ∧ ¬ gp k = -1 ∧ zSh c gp V sc 2 k = 1) ∨ (gp k = -1 ∧ zSh c gp V sc 2 k = 0) := by
    intro k hk
    obtain ⟨g1, g2, g3, g4, g5, g6⟩ := hI.2.2.1 k hk
    by_cases h2 : c 0 k = 2
    · by_cases hg : gp k = -1
      · exact Or.inr ⟨hg, by simp [zSh, hk, h2, hg]⟩
      · exact Or.inl ⟨h2, hg, by simp [zSh, hk, h2, hg]⟩
    · exact Or.inr ⟨g6 h2, by simp only [zSh, h2, and_false, if_false]; exact (hJ k hk).2.2 (g6 h2)⟩
  have e3 : ∀ k, zSh c gp V sc 3 k = V 3 k := fun k => by simp [zSh]
  have hk1 : ∀ k, k < sc → (zSh c gp V sc 2 k = 0 ∨ zSh c gp V sc 2 k = 1) ∧ (zSh c gp V sc 2 k = 1 → c 0 k = 2 ∧ ¬ gp k = -1) ∧ (zSh c gp V sc 2 k = 0 → zSh c gp V sc 3 k = 0) := by
    intro k hk
    rcases key k hk with ⟨a1, a2, a3⟩ | ⟨a1, a2⟩
    · exact ⟨Or.inr a3, fun _ => ⟨a1, a2⟩, fun q => by rw [a3] at q; exact absurd q (by decide)⟩
    · refine ⟨Or.inl a2, fun q => by rw [a2] at q; exact absurd q (by decide), fun _ => ?_⟩
      rw [e3]
      exact (hJ k hk).2.1 ((hJ k hk).2.2 a1)
  refine ⟨hk1, fun e he => zR_congr hI (fun k hk hb => (hk1 k hk).2.1 (of_decide_eq_true hb)) (fun k hk => ?_) he⟩
  rcases key k hk with ⟨a1, a2, a3⟩ | ⟨a1, a2⟩
  · simp [zbr, a3, zb0, a1, a2]
  · simp [zbr, a2, zb0, a1]
theorem zT_L {b : Nat → Bool} : (∀ i, i < sc → zT c b V sc lc 0 i = zL c b sc 0 i ∧ zT c b V sc lc 1 i = zL c b sc 1 i) ∧ (∀ j, j < lc → zT c b V sc lc 4 j = zL c b sc 4 j) ∧ ∀ i, i < 4 → zT c b V sc lc 5 i = zL c b sc 5 i :=
  ⟨fun i hi => ⟨by simp [zT, zL, hi], by simp [zT, zL, hi]⟩, fun j hj => by simp [zT, zL, hj], fun i hi => by simp [zT, zL, hi]⟩
theorem zT_di (hI : zI sc lc c gp) (h : zMid c gp mo sc V) {k : Nat} (hk : k < sc) (hv : V 2 k = 1) : zdi gp mo (zT c (zbr V) V sc lc) k = zdi gp mo (zL c (zbr V) sc) k :=
  zdi_congr hI.1 hI.2.1 hk (hI.2.2.1 k hk).2.2.2.2.1 ((h.1 k hk).2.1 hv).2 (fun i hi => (zT_L (V := V) (lc := lc)).1 i hi) (fun j hj => (zT_L (V := V) (sc := sc)).2.1 j hj)
/-- a round that lengthens one -/
theorem zMid_s (hI : zI sc lc c gp) (h : zMid c gp mo sc V) (hb : ∃ i, i < sc ∧ V 2 i = 1 ∧ zok (zdi gp mo (zT c (zbr V) V sc lc) i) = false) : zMid c gp mo sc (zLn gp mo (zT c (zbr V) V sc lc) sc) ∧ zcs (zLn gp mo (zT c (zbr V) V sc lc) sc) sc < zcs V sc := by
  have e2 : ∀ k, k < sc → zLn gp mo (zT c (zbr V) V sc lc) sc 2 k = if V 2 k = 1 ∧ zok (zdi gp mo (zT c (zbr V) V sc lc) k) = false then 0 else V 2 k := fun k hk => by simp only [zLn, hk, true_and, and_self, if_true, zT_2]
  have e3 : ∀ k, k < sc → zLn gp mo (zT c (zbr V) V sc lc) sc 3 k = if V 2 k = 1 then (if zok (zdi gp mo (zT c (zbr V) V sc lc) k) then (zdi gp mo (zT c (zbr V) V sc lc) k).toInt32 else 0) else V 3 k := fun k hk => by simp [zLn, hk, zT_2, zT_3]
  have hst : ∀ k, k < sc → zbr (zLn gp mo (zT c (zbr V) V sc lc) sc) k = zstep c gp mo sc (zbr V) k := by
    intro k hk
    simp only [zbr, e2 k hk, zstep]
    by_cases h1 : V 2 k = 1
    · have hd := zT_di hI h hk h1
      rw [hd]
      cases ho : zok (zdi gp mo (zL c (zbr V) sc) k) with
      | true => unfold zbr at ho; simp [h1, ho]
      | false => unfold zbr at ho; simp [h1, ho]
    · simp [h1]
  refine ⟨⟨fun k hk => ?_, fun e he => ?_⟩, ?_⟩
  · obtain ⟨a1, a2, a3⟩ := h.1 k hk
    rw [e2 k hk, e3 k hk]
    by_cases h1 : V 2 k = 1
    · cases ho : zok (zdi gp mo (zT c (zbr V) V sc lc) k) with
      | true => simp [h1]; exact a2 h1
      | false => simp [h1]
    · have h0 := a1.resolve_right h1
      simp [h0, a3 h0]
  · obtain ⟨i, hi, hi1, hi2⟩ := hb
    obtain ⟨n, hn⟩ := zR_congr hI (fun k hk q => by rw [hst k hk] at q; exact zgo1_step (zMid_go h) k hk q) hst he
    refine h.2 e ⟨n + 1, ⟨i, hi, decide_eq_true hi1, ?_⟩, hn⟩
    rw [← zT_di hI h hi hi1]
    exact hi2
  · obtain ⟨i, hi, hi1, hi2⟩ := hb
    refine zcs_lt sc (fun k hk q => ?_) ⟨i, hi, hi1, ?_⟩
    · rw [e2 k hk] at q
      by_cases h1 : V 2 k = 1
      · exact h1
      · simp [h1] at q
    · rw [e2 i hi]
      simp [hi1, hi2]
/-- the last round -/
theorem zMid_e (hI : zI sc lc c gp) (h : zMid c gp mo sc V) (hb : ∀ i, i < sc → ¬ (V 2 i = 1 ∧ zok (zdi gp mo (zT c (zbr V) V sc lc) i) = false)) : zRx c gp mo sc lc (zLn gp mo (zT c (zbr V) V sc lc) sc) (nI (zct c (zLn gp mo (zT c (zbr V) V sc lc) sc) sc)) := by
  have e2 : ∀ k, k < sc → zLn gp mo (zT c (zbr V) V sc lc) sc 2 k = V 2 k := fun k hk => by
    have := hb k hk
    simp only [zLn, hk, true_and, and_self, if_true, zT_2, this, if_false]
  have e3 : ∀ k, k < sc → zLn gp mo (zT c (zbr V) V sc lc) sc 3 k = if V 2 k = 1 then (if zok (zdi gp mo (zT c (zbr V) V sc lc) k) then (zdi gp mo (zT c (zbr V) V sc lc) k).toInt32 else 0) else V 3 k := fun k hk => by simp [zLn, hk, zT_2, zT_3]
  have ho : ∀ f k, f ≠ 2 → f ≠ 3 → zLn gp mo (zT c (zbr V) V sc lc) sc f k = zT c (zbr V) V sc lc f k := fun f k h2 h3 => by simp [zLn, h2, h3]
  have hv2 : ∀ k, k < sc → zLn gp mo (zT c (zbr V) V sc lc) sc 2 k = if zbr V k then 1 else 0 := fun k hk => by
    rw [e2 k hk]
    rcases (h.1 k hk).1 with q | q <;> simp [zbr, q]
  refine ⟨zbr V, h.2 _ ⟨0, ?_, fun k hk => rfl⟩, zMid_go h, ⟨fun k hk => ⟨?_, ?_, hv2 k hk, ?_⟩, fun j hj => ?_, fun i hi => ?_⟩, by rw [zct_cb sc hv2]⟩
  · rintro ⟨k, hk, q1, q2⟩
    have h1 : V 2 k = 1 := of_decide_eq_true q1
    exact hb k hk ⟨h1, by rw [zT_di hI h hk h1]; exact q2⟩
  · rw [ho 0 k (by decide) (by decide)]; exact (zT_L.1 k hk).1
  · rw [ho 1 k (by decide) (by decide)]; exact (zT_L.1 k hk).2
  · rw [e3 k hk]
    rcases (h.1 k hk).1 with q | q
    · have hz : zbr V k = false := by simp [zbr, q]
      rw [hz]
      simp [q, (h.1 k hk).2.2 q]
    · have hz : zbr V k = true := by simp [zbr, q]
      have hn := hb k hk
      cases hoo : zok (zdi gp mo (zT c (zbr V) V sc lc) k) with
      | false => exact absurd ⟨q, hoo⟩ hn
      | true =>
        rw [zT_di hI h hk q, hz]
        simp [q]
  · rw [ho 4 j (by decide) (by decide)]; exact zT_L.2.1 j hj
  · rw [ho 5 i (by decide) (by decide)]; exact zT_L.2.2 i hi
end ZMD
end
section
theorem zs_inst_no {p : Program} {l : Launch} {e : Env} {R : Room} {s : State} {m : MethodId} {av : Array Value} {below : List Frame} {meth : Method} {cd : Code} {H : Heap} {locs : List Loc} {cells slots : Nat} {Q : State → Prop} {own nm : String} {cc : ByteArray} {nL : Nat} {r : Option FieldType} {pc : Nat} {ls : Array Slot} {rest : List Value} {D : va_G} {o : Nat × Nat × Nat × Nat} {cs : ClassId × ClassId × ClassId × ClassId} {sc lc k : Nat} {fa fb : Nat → Option Nat} {ad bd : Nat → Nat} {c : Nat → Nat → Nat} {gp mo : Nat → Int32} {V : Nat → Nat → Int32} (E : zE p s m meth cd av own nm cc nL r) (hK : zK D cs s) (hP : va_P D zcl (zB o cs sc lc fa fb ad bd c gp mo V) H) (hk : k < sc) (h2k : ¬ c 0 k = 2) {idx : Nat} (hlink : Cond.classLink own idx "BranchLayout$Branch" ∈ zt) (hdg : decode cc pc = .ok (.instanceof idx, 3))
    (kk : W p l e R s m av below meth cd H locs cells slots Q (F0 m (pc + 3) ls (.int 0 :: rest))) : W p l e R s m av below meth cd H locs cells slots Q (F0 m pc ls (.ref (ad k) :: rest)) := by
  obtain ⟨hx, hb, hr, hts, hown, hlocks, hml, hin⟩ := E
  by_cases h1k : c 0 k = 1
  · exact va_instNo hx hb hown (hts _ hlink) (C := "BranchLayout$Alignment") hK.2.2.2.2.2.2.2.2.2.2.2.1 (zrec hK hP rfl (zc_Al hk h1k)) hdg kk
  · exact va_instNo hx hb hown (hts _ hlink) (C := "BranchLayout$Bytes") hK.2.2.2.2.2.2.2.2.2.2.2.2 (zrec hK hP rfl (zc_By hk h2k h1k)) hdg kk
theorem zs_inst_yes {p : Program} {l : Launch} {e : Env} {R : Room} {s : State} {m : MethodId} {av : Array Value} {below : List Frame} {meth : Method} {cd : Code} {H : Heap} {locs : List Loc} {cells slots : Nat} {Q : State → Prop} {own nm : String} {cc : ByteArray} {nL : Nat} {r : Option FieldType} {pc : Nat} {ls : Array Slot} {rest : List Value} {D : va_G} {o : Nat × Nat × Nat × Nat} {cs : ClassId × ClassId × ClassId × ClassId} {sc lc k : Nat} {fa fb : Nat → Option Nat} {ad bd : Nat → Nat} {c : Nat → Nat → Nat} {gp mo : Nat → Int32} {V : Nat → Nat → Int32} (E : zE p s m meth cd av own nm cc nL r) (hK : zK D cs s) (hP : va_P D zcl (zB o cs sc lc fa fb ad bd c gp mo V) H) (hk : k < sc) (h2k : c 0 k = 2) {idx : Nat} (hlink : Cond.classLink own idx "BranchLayout$Branch" ∈ zt) (hdg : decode cc pc = .ok (.instanceof idx, 3))
    (kk : W p l e R s m av below meth cd H locs cells slots Q (F0 m (pc + 3) ls (.int 1 :: rest))) : W p l e R s m av below meth cd H locs cells slots Q (F0 m pc ls (.ref (ad k) :: rest)) := by
  obtain ⟨hx, hb, hr, hts, hown, hlocks, hml, hin⟩ := E
  exact va_instY hx hb hown (hts _ hlink) (C := "BranchLayout$Branch") hK.2.2.2.2.2.1 (zrec hK hP rfl (zc_Br hk h2k)) hdg kk
theorem zs_cast {p : Program} {l : Launch} {e : Env} {R : Room} {s : State} {m : MethodId} {av : Array Value} {below : List Frame} {meth : Method} {cd : Code} {H : Heap} {locs : List Loc} {cells slots : Nat} {Q : State → Prop} {own nm : String} {cc : ByteArray} {nL : Nat} {r : Option FieldType} {pc : Nat} {ls : Array Slot} {rest : List Value} {D : va_G} {o : Nat × Nat × Nat × Nat} {cs : ClassId × ClassId × ClassId × ClassId} {sc lc k : Nat} {fa fb : Nat → Option Nat} {ad bd : Nat → Nat} {c : Nat → Nat → Nat} {gp mo : Nat → Int32} {V : Nat → Nat → Int32} (E : zE p s m meth cd av own nm cc nL r) (hK : zK D cs s) (hP : va_P D zcl (zB o cs sc lc fa fb ad bd c gp mo V) H) (hk : k < sc) (h2k : c 0 k = 2) {idx : Nat} (hlink : Cond.classLink own idx "BranchLayout$Branch" ∈ zt) (hdg : decode cc pc = .ok (.checkcast idx, 3))
    (kk : W p l e R s m av below meth cd H locs cells slots Q (F0 m (pc + 3) ls (.ref (ad k) :: rest))) : W p l e R s m av below meth cd H locs cells slots Q (F0 m pc ls (.ref (ad k) :: rest)) := by
  obtain ⟨hx, hb, hr, hts, hown, hlocks, hml, hin⟩ := E
  exact va_castY hx hb hown (hts _ hlink) (C := "BranchLayout$Branch") hK.2.2.2.2.2.1 (zrec hK hP rfl (zc_Br hk h2k)) hdg kk
set_option maxHeartbeats 4000000 in
set_option maxRecDepth 100000 in
theorem t_BL_shortenAllThatGo (l : Launch) (D : va_G) (cs : ClassId × ClassId × ClassId × ClassId) (A : Nat → Prop) (o : Nat × Nat × Nat × Nat) (sc lc : Nat) (fa fb : Nat → Option Nat) (ad bd : Nat → Nat) (c : Nat → Nat → Nat) (gp mo : Nat → Int32) (V : Nat → Nat → Int32) (hI : zI sc lc c gp) (hfa : ∀ k, k < sc → fa k = some (ad k)) : zMet l D cs y_BL_shortenAllThatGo c_BL_shortenAllThatGo 4 none ({ frames := 0, cells := 0, slots := 0, locals := 0 } : Room) [.ref o.1] (zH D A (zB o cs sc lc fa fb ad bd c gp mo V)) A (zqv fun H => zH D A (zB o cs sc lc fa fb ad bd c gp mo (zSh c gp V sc)) H) := by
  refine zmk (by decide) (Nat.le_of_ble_eq_true rfl) ?_
  intro p e s m below meth cd ls E hK hP0 hl
  have hS : va_S A s.heap s.heap [] := va_S.rf
  have hsc := hI.1
  obtain ⟨hx, hb, hr, hts, hown, hlocks, hml, hin⟩ := id E
  have hl : lv_has ls 4 [(0, .ref o.1)] := hl
  refine lv_iconst (v := 0) hx hb d_BL_shortenAllThatGo_0 (by decide) ?_
  refine lv_istore_n (lv' := [(1, .int 0), (0, .ref o.1)]) hx hb d_BL_shortenAllThatGo_1 rfl hl (by decide) rfl (fun ls hl => ?_)
  have loop : ∀ (n k : Nat) (H : Heap) (locs : List Loc) (ls : Array Slot), k ≤ sc → sc + 1 ≤ k + n → zH D A (zB o cs sc lc fa fb ad bd c gp mo (zSh c gp V k)) H → va_S A s.heap H locs → lv_has ls 4 [(1, .int (nI k)), (0, .ref o.1)] → W p l e ({ frames := 0, cells := 0, slots := 0, locals := 0 } : Room) s m ([.ref o.1] : List Value).toArray below meth cd H locs 0 0 (zQ below s ([.ref o.1] : List Value).toArray A (zqv fun H => zH D A (zB o cs sc lc fa fb ad bd c gp mo (zSh c gp V sc)) H) ({ frames := 0, cells := 0, slots := 0, locals := 0 } : Room)) (F0 m 2 ls []) := by
    intro n
    induction n with
    | zero => intro k H locs ls h1 h2; omega
    | succ n ih =>
      intro k H locs ls hk hn hw hS hl
      obtain ⟨hP, hD⟩ := id hw
      refine lv_iload_n hx hb d_BL_shortenAllThatGo_2 rfl (lv_at hl 0 rfl) ?_
      refine lv_aload_n hx hb d_BL_shortenAllThatGo_3 rfl (lv_at hl 1 rfl) ?_
      refine va_get (D := D) (ci := 4) (v := .int (nI sc)) (C := "BranchLayout") (T := T_BL) (N := 5) hx hb hts in_BL hown hK.1 hP 0 (zb_x rfl) rfl 3 (by decide) (hts _ w_26) (fun _ h9 => h9) rfl d_BL_shortenAllThatGo_4 ?_
      refine lv_icmp_ge (tgt := 51) hx hb d_BL_shortenAllThatGo_7 (by decide) (fun c_14 => ?_) (fun c_14 => ?_)
      · skip
        have hks : k = sc := Nat.le_antisymm hk ((nI_leI (by omega) (by omega)).mp c_14)
        rw [hks] at hw
        refine zrv E d_BL_shortenAllThatGo_51 hS (Nat.le_of_ble_eq_true rfl) (Nat.le_of_ble_eq_true rfl) ?_
        exact ⟨rfl, hw⟩
      · skip
        have hlt : k < sc := Nat.lt_of_not_le fun q => c_14 (nI_le q (by omega))
        refine lv_aload_n hx hb d_BL_shortenAllThatGo_10 rfl (lv_at hl 1 rfl) ?_
        refine va_get (D := D) (ci := 4) (v := .ref o.2.1) (C := "BranchLayout") (T := T_BL) (N := 5) hx hb hts in_BL hown hK.1 hP 0 (zb_x rfl) rfl 0 (by decide) (hts _ w_23) (fun _ h9 => h9) rfl d_BL_shortenAllThatGo_11 ?_
        refine lv_iload_n hx hb d_BL_shortenAllThatGo_14 rfl (lv_at hl 0 rfl) ?_
        refine va_aldq hx hb hK.1 hP 1 2 (zb_x rfl) rfl (vp_in_nI (show k < 4096 by omega) (by decide)) d_BL_shortenAllThatGo_15 ?_
        rw [nI_clamp (show k < 2 ^ 31 by omega), hfa k hlt]
        refine lv_astore_n (lv' := [(3, .ref (ad k)), (1, .int (nI k)), (0, .ref o.1)]) hx hb d_BL_shortenAllThatGo_16 rfl hl (by decide) rfl (fun ls hl => ?_)
        refine lv_aload_n hx hb d_BL_shortenAllThatGo_17 rfl (lv_at hl 0 rfl) ?_
        by_cases h2k : c 0 k = 2
        · skip
          refine zs_inst_yes E hK hP hlt h2k w_131 d_BL_shortenAllThatGo_18 ?_
          refine lv_if_eq (tgt := 45) hx hb d_BL_shortenAllThatGo_21 (by decide) (fun c_15 => ?_) (fun c_15 => ?_)
          · skip
            exact absurd c_15 (by decide)
          · skip
            refine lv_aload_n hx hb d_BL_shortenAllThatGo_24 rfl (lv_at hl 0 rfl) ?_
            refine zs_cast E hK hP hlt h2k w_131 d_BL_shortenAllThatGo_25 ?_
            refine lv_astore_n (lv' := [(2, .ref (ad k)), (3, .ref (ad k)), (1, .int (nI k)), (0, .ref o.1)]) hx hb d_BL_shortenAllThatGo_28 rfl hl (by decide) rfl (fun ls hl => ?_)
            refine lv_aload_n hx hb d_BL_shortenAllThatGo_29 rfl (lv_at hl 0 rfl) ?_
            refine lv_aload_n hx hb d_BL_shortenAllThatGo_30 rfl (lv_at hl 0 rfl) ?_
            refine va_getN (D := D) (ci := 1) (v := va_rf (zga ad bd (gp k))) (C := "BranchLayout$Branch") (T := T_Br) (N := 8) (host := "BranchLayout") hx hb hts in_Br hown hK.1 hP (4 + k) (zc_Br hlt h2k) rfl 4 (by decide) (va_Nw.use rfl hK.2.1) (fun _ h9 => h9) rfl d_BL_shortenAllThatGo_31 ?_
            by_cases hg : gp k = -1
            · skip
              have hga : zga ad bd (gp k) = none := by simp [zga, hg]
              rw [hga]
              refine lv_ifnullN (tgt := 41) hx hb d_BL_shortenAllThatGo_34 (by decide) ?_
              refine lv_iconst (v := 0) hx hb d_BL_shortenAllThatGo_41 (by decide) ?_
              refine va_putN (D := D) (ci := 1) (v := .int 0) (ty := .boolean) (C := "BranchLayout$Branch") (T := T_Br) (N := 8) (host := "BranchLayout") hx hb hts in_Br ty_Br ok_Br nm_Br hown hK.1 hP hD hS (4 + k) (zc_Br hlt h2k) rfl 6 (by decide) (va_Nw.use rfl hK.2.2.2.1) (fun _ h9 => h9) rfl (by decide +kernel) rfl rfl (Nat.le_of_ble_eq_true rfl) d_BL_shortenAllThatGo_42 (fun H locs hP hD hS => ?_)
              have hP : va_P D zcl (zB o cs sc lc fa fb ad bd c gp mo (zu (zSh c gp V k) 2 k 0)) H := by rw [← zb_p2 hlt h2k]; exact hP
              have hD : va_D A (zB o cs sc lc fa fb ad bd c gp mo (zu (zSh c gp V k) 2 k 0)) := by rw [← zb_p2 hlt h2k]; exact hD
              have ez := zSh_b (c := c) (gp := gp) (V := V) (k := k) h2k
              rw [if_pos hg] at ez
              rw [ez] at hP hD
              refine lv_iinc (v := nI (k + 1)) (lv' := [(1, .int (nI (k + 1))), (2, .ref (ad k)), (3, .ref (ad k)), (0, .ref o.1)]) hx hb d_BL_shortenAllThatGo_45 hl (k := 2) rfl (nI_1 k) (by decide) rfl (fun ls hl => ?_)
              refine lv_goto (tgt := 2) hx hb d_BL_shortenAllThatGo_48 (by decide) ?_
              exact ih (k + 1) _ _ ls hlt (by omega) ⟨hP, hD⟩ hS (lv_sub hl [0, 3] rfl)
            · skip
              obtain ⟨g, hga, -⟩ := zga_valid (ad := ad) (bd := bd) hI.1 hI.2.1 V (hI.2.2.1 k hlt).2.2.2.2.1 hg
              rw [hga]
              refine lv_ifnull hx hb d_BL_shortenAllThatGo_34 ?_
              refine lv_iconst (v := 1) hx hb d_BL_shortenAllThatGo_37 (by decide) ?_
              refine lv_goto (tgt := 42) hx hb d_BL_shortenAllThatGo_38 (by decide) ?_
              refine va_putN (D := D) (ci := 1) (v := .int 1) (ty := .boolean) (C := "BranchLayout$Branch") (T := T_Br) (N := 8) (host := "BranchLayout") hx hb hts in_Br ty_Br ok_Br nm_Br hown hK.1 hP hD hS (4 + k) (zc_Br hlt h2k) rfl 6 (by decide) (va_Nw.use rfl hK.2.2.2.1) (fun _ h9 => h9) rfl (by decide +kernel) rfl rfl (Nat.le_of_ble_eq_true rfl) d_BL_shortenAllThatGo_42 (fun H locs hP hD hS => ?_)
              have hP : va_P D zcl (zB o cs sc lc fa fb ad bd c gp mo (zu (zSh c gp V k) 2 k 1)) H := by rw [← zb_p2 hlt h2k]; exact hP
              have hD : va_D A (zB o cs sc lc fa fb ad bd c gp mo (zu (zSh c gp V k) 2 k 1)) := by rw [← zb_p2 hlt h2k]; exact hD
              have ez := zSh_b (c := c) (gp := gp) (V := V) (k := k) h2k
              rw [if_neg hg] at ez
              rw [ez] at hP hD
              refine lv_iinc (v := nI (k + 1)) (lv' := [(1, .int (nI (k + 1))), (2, .ref (ad k)), (3, .ref (ad k)), (0, .ref o.1)]) hx hb d_BL_shortenAllThatGo_45 hl (k := 2) rfl (nI_1 k) (by decide) rfl (fun ls hl => ?_)
              refine lv_goto (tgt := 2) hx hb d_BL_shortenAllThatGo_48 (by decide) ?_
              exact ih (k + 1) _ _ ls hlt (by omega) ⟨hP, hD⟩ hS (lv_sub hl [0, 3] rfl)
        · skip
          refine zs_inst_no E hK hP hlt h2k w_131 d_BL_shortenAllThatGo_18 ?_
          refine lv_if_eq (tgt := 45) hx hb d_BL_shortenAllThatGo_21 (by decide) (fun c_16 => ?_) (fun c_16 => ?_)
          · skip
            refine lv_iinc (v := nI (k + 1)) (lv' := [(1, .int (nI (k + 1))), (3, .ref (ad k)), (0, .ref o.1)]) hx hb d_BL_shortenAllThatGo_45 hl (k := 1) rfl (nI_1 k) (by decide) rfl (fun ls hl => ?_)
            refine lv_goto (tgt := 2) hx hb d_BL_shortenAllThatGo_48 (by decide) ?_
            exact ih (k + 1) _ _ ls hlt (by omega) (by rw [← zSh_n h2k]; exact hw) hS (lv_sub hl [0, 2] rfl)
          · skip
            exact absurd rfl c_16
  exact loop (sc + 1) 0 _ _ ls (Nat.zero_le _) (by omega) (by rw [← zSh_0]; exact hP0) hS (by rw [nI_0]; exact lv_sub hl [0, 1] rfl)
set_option maxHeartbeats 4000000 in
set_option maxRecDepth 100000 in
theorem t_BL_lengthenAllTooFar (l : Launch) (D : va_G) (cs : ClassId × ClassId × ClassId × ClassId) (A : Nat → Prop) (o : Nat × Nat × Nat × Nat) (sc lc : Nat) (fa fb : Nat → Option Nat) (ad bd : Nat → Nat) (c : Nat → Nat → Nat) (gp mo : Nat → Int32) (V : Nat → Nat → Int32) (hI : zI sc lc c gp) (hfa : ∀ k, k < sc → fa k = some (ad k)) (hv : ∀ k, k < sc → (V 2 k = 0 ∨ V 2 k = 1) ∧ (V 2 k = 1 → c 0 k = 2 ∧ ¬ gp k = -1)) : zMet l D cs y_BL_lengthenAllTooFar c_BL_lengthenAllTooFar 5 (some FieldType.boolean) ({ frames := 1, cells := 0, slots := 0, locals := 22 } : Room) [.ref o.1] (zH D A (zB o cs sc lc fa fb ad bd c gp mo V)) A (zqi fun r H => ((r = 0 ∧ ∀ i, i < sc → ¬ (V 2 i = 1 ∧ zok (zdi gp mo V i) = false)) ∨ (r = 1 ∧ ∃ i, i < sc ∧ V 2 i = 1 ∧ zok (zdi gp mo V i) = false)) ∧ zH D A (zB o cs sc lc fa fb ad bd c gp mo (zLn gp mo V sc)) H) := by
  refine zmk (by decide) (Nat.le_of_ble_eq_true rfl) ?_
  intro p e s m below meth cd ls E hK hP0 hl
  have hS : va_S A s.heap s.heap [] := va_S.rf
  have hsc := hI.1
  obtain ⟨hx, hb, hr, hts, hown, hlocks, hml, hin⟩ := id E
  have hl : lv_has ls 5 [(0, .ref o.1)] := hl
  refine lv_iconst (v := 0) hx hb d_BL_lengthenAllTooFar_0 (by decide) ?_
  refine lv_istore_n (lv' := [(1, .int 0), (0, .ref o.1)]) hx hb d_BL_lengthenAllTooFar_1 rfl hl (by decide) rfl (fun ls hl => ?_)
  refine lv_iconst (v := 0) hx hb d_BL_lengthenAllTooFar_2 (by decide) ?_
  refine lv_istore_n (lv' := [(2, .int 0), (1, .int 0), (0, .ref o.1)]) hx hb d_BL_lengthenAllTooFar_3 rfl hl (by decide) rfl (fun ls hl => ?_)
  have loop : ∀ (n k : Nat) (x : Int32) (H : Heap) (locs : List Loc) (ls : Array Slot), k ≤ sc → sc + 1 ≤ k + n → ((x = 0 ∧ ∀ i, i < k → ¬ (V 2 i = 1 ∧ zok (zdi gp mo V i) = false)) ∨ (x = 1 ∧ ∃ i, i < k ∧ V 2 i = 1 ∧ zok (zdi gp mo V i) = false)) → zH D A (zB o cs sc lc fa fb ad bd c gp mo (zLn gp mo V k)) H → va_S A s.heap H locs → lv_has ls 5 [(2, .int (nI k)), (1, .int x), (0, .ref o.1)] → W p l e ({ frames := 1, cells := 0, slots := 0, locals := 22 } : Room) s m ([.ref o.1] : List Value).toArray below meth cd H locs 0 0 (zQ below s ([.ref o.1] : List Value).toArray A (zqi fun r H => ((r = 0 ∧ ∀ i, i < sc → ¬ (V 2 i = 1 ∧ zok (zdi gp mo V i) = false)) ∨ (r = 1 ∧ ∃ i, i < sc ∧ V 2 i = 1 ∧ zok (zdi gp mo V i) = false)) ∧ zH D A (zB o cs sc lc fa fb ad bd c gp mo (zLn gp mo V sc)) H) ({ frames := 1, cells := 0, slots := 0, locals := 22 } : Room)) (F0 m 4 ls []) := by
    intro n
    induction n with
    | zero => intro k x H locs ls h1 h2; omega
    | succ n ih =>
      intro k x H locs ls hk hn hxx hw hS hl
      obtain ⟨hP, hD⟩ := id hw
      refine lv_iload_n hx hb d_BL_lengthenAllTooFar_4 rfl (lv_at hl 0 rfl) ?_
      refine lv_aload_n hx hb d_BL_lengthenAllTooFar_5 rfl (lv_at hl 2 rfl) ?_
      refine va_get (D := D) (ci := 4) (v := .int (nI sc)) (C := "BranchLayout") (T := T_BL) (N := 5) hx hb hts in_BL hown hK.1 hP 0 (zb_x rfl) rfl 3 (by decide) (hts _ w_26) (fun _ h9 => h9) rfl d_BL_lengthenAllTooFar_6 ?_
      refine lv_icmp_ge (tgt := 49) hx hb d_BL_lengthenAllTooFar_9 (by decide) (fun c_17 => ?_) (fun c_17 => ?_)
      · skip
        have hks : k = sc := Nat.le_antisymm hk ((nI_leI (by omega) (by omega)).mp c_17)
        rw [hks] at hw hxx
        refine lv_iload_n hx hb d_BL_lengthenAllTooFar_49 rfl (lv_at hl 1 rfl) ?_
        refine zrz E d_BL_lengthenAllTooFar_50 (hxx.imp And.left And.left) hS (Nat.le_of_ble_eq_true rfl) (Nat.le_of_ble_eq_true rfl) ?_
        exact ⟨_, rfl, hxx, hw⟩
      · skip
        have hlt : k < sc := Nat.lt_of_not_le fun q => c_17 (nI_le q (by omega))
        have e2 : zLn gp mo V k 2 k = V 2 k := by simp [zLn]
        have ed : zdi gp mo (zLn gp mo V k) k = zdi gp mo V k := zLn_di
        obtain ⟨hv1, hv2⟩ := hv k hlt
        have hno : ¬ (V 2 k = 1 ∧ zok (zdi gp mo V k) = false) → ∀ x : Int32, ((x = 0 ∧ ∀ i, i < k → ¬ (V 2 i = 1 ∧ zok (zdi gp mo V i) = false)) ∨ (x = 1 ∧ ∃ i, i < k ∧ V 2 i = 1 ∧ zok (zdi gp mo V i) = false)) → ((x = 0 ∧ ∀ i, i < (k + 1) → ¬ (V 2 i = 1 ∧ zok (zdi gp mo V i) = false)) ∨ (x = 1 ∧ ∃ i, i < (k + 1) ∧ V 2 i = 1 ∧ zok (zdi gp mo V i) = false)) := fun hb x hx1 => by
          rcases hx1 with ⟨h1, h2⟩ | ⟨h1, i, hi, h2⟩
          · refine Or.inl ⟨h1, fun i hi => ?_⟩
            rcases Nat.lt_or_ge i k with q | q
            · exact h2 i q
            · have e9 : i = k := by omega
              rw [e9]; exact hb
          · exact Or.inr ⟨h1, i, by omega, h2⟩
        refine lv_aload_n hx hb d_BL_lengthenAllTooFar_12 rfl (lv_at hl 2 rfl) ?_
        refine va_get (D := D) (ci := 4) (v := .ref o.2.1) (C := "BranchLayout") (T := T_BL) (N := 5) hx hb hts in_BL hown hK.1 hP 0 (zb_x rfl) rfl 0 (by decide) (hts _ w_23) (fun _ h9 => h9) rfl d_BL_lengthenAllTooFar_13 ?_
        refine lv_iload_n hx hb d_BL_lengthenAllTooFar_16 rfl (lv_at hl 0 rfl) ?_
        refine va_aldq hx hb hK.1 hP 1 2 (zb_x rfl) rfl (vp_in_nI (show k < 4096 by omega) (by decide)) d_BL_lengthenAllTooFar_17 ?_
        rw [nI_clamp (show k < 2 ^ 31 by omega), hfa k hlt]
        refine lv_astore (lv' := [(4, .ref (ad k)), (2, .int (nI k)), (1, .int x), (0, .ref o.1)]) hx hb d_BL_lengthenAllTooFar_18 hl (by decide) rfl (fun ls hl => ?_)
        refine lv_aload hx hb d_BL_lengthenAllTooFar_20 (lv_at hl 0 rfl) ?_
        by_cases h2k : c 0 k = 2
        · skip
          refine zs_inst_yes E hK hP hlt h2k w_131 d_BL_lengthenAllTooFar_22 ?_
          refine lv_if_eq (tgt := 43) hx hb d_BL_lengthenAllTooFar_25 (by decide) (fun c_18 => ?_) (fun c_18 => ?_)
          · skip
            exact absurd c_18 (by decide)
          · skip
            refine lv_aload hx hb d_BL_lengthenAllTooFar_28 (lv_at hl 0 rfl) ?_
            refine zs_cast E hK hP hlt h2k w_131 d_BL_lengthenAllTooFar_30 ?_
            refine lv_astore_n (lv' := [(3, .ref (ad k)), (4, .ref (ad k)), (2, .int (nI k)), (1, .int x), (0, .ref o.1)]) hx hb d_BL_lengthenAllTooFar_33 rfl hl (by decide) rfl (fun ls hl => ?_)
            refine lv_aload_n hx hb d_BL_lengthenAllTooFar_34 rfl (lv_at hl 0 rfl) ?_
            refine zcV [] [] E (t_Br_lengthenIfTooFar l D cs A o sc lc fa fb ad bd c gp mo (zLn gp mo V k) hI k hlt h2k (by rw [e2]; exact hv1) (by rw [e2]; exact fun q => (hv2 q).2)) d_BL_lengthenAllTooFar_35 w_227 w_228 w_229 w_9 w_230 ⟨rfl, by decide +kernel, by decide +kernel, (by decide +kernel : Option.map (fun d => d.parameters.length) (parseMethodDescriptor "()Z") = some 0)⟩ ⟨(Nat.le_of_ble_eq_true rfl), (Nat.le_of_ble_eq_true rfl)⟩ ⟨(Nat.le_of_ble_eq_true rfl), (Nat.le_of_ble_eq_true rfl)⟩ rfl (Nat.le_of_ble_eq_true rfl) hl.1 (zrec hK hP rfl (zc_Br hlt h2k)) hK hw hS (fun _ h => h) (zki fun r H locs hq _ _ hS => ?_)
            obtain ⟨hr1, hw2⟩ := hq
            rw [e2, ed] at hr1
            rw [zLn_s] at hw2
            refine lv_if_eq (tgt := 43) hx hb d_BL_lengthenAllTooFar_38 (by decide) (fun c_19 => ?_) (fun c_19 => ?_)
            · skip
              have hbad : ¬ (V 2 k = 1 ∧ zok (zdi gp mo V k) = false) := fun q => by rw [if_pos q] at hr1; rw [hr1] at c_19; exact absurd c_19 (by decide)
              refine lv_iinc (v := nI (k + 1)) (lv' := [(2, .int (nI (k + 1))), (3, .ref (ad k)), (4, .ref (ad k)), (1, .int x), (0, .ref o.1)]) hx hb d_BL_lengthenAllTooFar_43 hl (k := 2) rfl (nI_1 k) (by decide) rfl (fun ls hl => ?_)
              refine lv_goto (tgt := 4) hx hb d_BL_lengthenAllTooFar_46 (by decide) ?_
              exact ih (k + 1) x _ _ ls hlt (by omega) (hno hbad x hxx) hw2 hS (lv_sub hl [0, 3, 4] rfl)
            · skip
              have hbad : V 2 k = 1 ∧ zok (zdi gp mo V k) = false := by
                by_cases q : V 2 k = 1 ∧ zok (zdi gp mo V k) = false
                · exact q
                · rw [if_neg q] at hr1; exact absurd hr1 c_19
              refine lv_iconst (v := 1) hx hb d_BL_lengthenAllTooFar_41 (by decide) ?_
              refine lv_istore_n (lv' := [(1, .int 1), (3, .ref (ad k)), (4, .ref (ad k)), (2, .int (nI k)), (0, .ref o.1)]) hx hb d_BL_lengthenAllTooFar_42 rfl hl (by decide) rfl (fun ls hl => ?_)
              refine lv_iinc (v := nI (k + 1)) (lv' := [(2, .int (nI (k + 1))), (1, .int 1), (3, .ref (ad k)), (4, .ref (ad k)), (0, .ref o.1)]) hx hb d_BL_lengthenAllTooFar_43 hl (k := 3) rfl (nI_1 k) (by decide) rfl (fun ls hl => ?_)
              refine lv_goto (tgt := 4) hx hb d_BL_lengthenAllTooFar_46 (by decide) ?_
              exact ih (k + 1) 1 _ _ ls hlt (by omega) (Or.inr ⟨rfl, k, by omega, hbad⟩) hw2 hS (lv_sub hl [0, 1, 4] rfl)
        · skip
          refine zs_inst_no E hK hP hlt h2k w_131 d_BL_lengthenAllTooFar_22 ?_
          refine lv_if_eq (tgt := 43) hx hb d_BL_lengthenAllTooFar_25 (by decide) (fun c_20 => ?_) (fun c_20 => ?_)
          · skip
            have hbad : ¬ (V 2 k = 1 ∧ zok (zdi gp mo V k) = false) := fun q => h2k (hv2 q.1).1
            have h0 : ¬ V 2 k = 1 := fun q => h2k (hv2 q).1
            have ez := zLn_s (gp := gp) (mo := mo) (V := V) (k := k)
            unfold zLk at ez
            rw [e2, if_neg h0] at ez
            refine lv_iinc (v := nI (k + 1)) (lv' := [(2, .int (nI (k + 1))), (4, .ref (ad k)), (1, .int x), (0, .ref o.1)]) hx hb d_BL_lengthenAllTooFar_43 hl (k := 1) rfl (nI_1 k) (by decide) rfl (fun ls hl => ?_)
            refine lv_goto (tgt := 4) hx hb d_BL_lengthenAllTooFar_46 (by decide) ?_
            exact ih (k + 1) x _ _ ls hlt (by omega) (hno hbad x hxx) (by rw [← ez]; exact hw) hS (lv_sub hl [0, 2, 3] rfl)
          · skip
            exact absurd rfl c_20
  exact loop (sc + 1) 0 0 _ _ ls (Nat.zero_le _) (by omega) (Or.inl ⟨rfl, fun i hi => absurd hi (Nat.not_lt_zero i)⟩) (by rw [← zLn_0]; exact hP0) hS (by rw [nI_0]; exact lv_sub hl [0, 1, 2] rfl)
set_option maxHeartbeats 4000000 in
set_option maxRecDepth 100000 in
theorem t_BL_countLong (l : Launch) (D : va_G) (cs : ClassId × ClassId × ClassId × ClassId) (A : Nat → Prop) (o : Nat × Nat × Nat × Nat) (sc lc : Nat) (fa fb : Nat → Option Nat) (ad bd : Nat → Nat) (c : Nat → Nat → Nat) (gp mo : Nat → Int32) (V : Nat → Nat → Int32) (hsc : sc ≤ 4096) (hfa : ∀ k, k < sc → fa k = some (ad k)) (hv : ∀ k, k < sc → (V 2 k = 0 ∨ V 2 k = 1)) (H1 : Heap) (hw : zH D A (zB o cs sc lc fa fb ad bd c gp mo V) H1) : zMet l D cs y_BL_countLong c_BL_countLong 5 (some FieldType.int) ({ frames := 0, cells := 0, slots := 0, locals := 0 } : Room) [.ref o.1] (fun H => H = H1) (fun _ => False) (zqi fun r H => H = H1 ∧ r = nI (zct c V sc)) := by
  refine zmk (by decide) (Nat.le_of_ble_eq_true rfl) ?_
  intro p e s m below meth cd ls E hK hP0 hl
  have hS : va_S (fun _ => False) s.heap s.heap [] := va_S.rf
  subst hP0
  have hP := hw.1
  obtain ⟨hx, hb, hr, hts, hown, hlocks, hml, hin⟩ := id E
  have hl : lv_has ls 5 [(0, .ref o.1)] := hl
  refine lv_iconst (v := 0) hx hb d_BL_countLong_0 (by decide) ?_
  refine lv_istore_n (lv' := [(1, .int 0), (0, .ref o.1)]) hx hb d_BL_countLong_1 rfl hl (by decide) rfl (fun ls hl => ?_)
  refine lv_iconst (v := 0) hx hb d_BL_countLong_2 (by decide) ?_
  refine lv_istore_n (lv' := [(2, .int 0), (1, .int 0), (0, .ref o.1)]) hx hb d_BL_countLong_3 rfl hl (by decide) rfl (fun ls hl => ?_)
  have loop : ∀ (n k : Nat) (ls : Array Slot), k ≤ sc → sc + 1 ≤ k + n → lv_has ls 5 [(2, .int (nI k)), (1, .int (nI (zct c V k))), (0, .ref o.1)] → W p l e ({ frames := 0, cells := 0, slots := 0, locals := 0 } : Room) s m ([.ref o.1] : List Value).toArray below meth cd s.heap [] 0 0 (zQ below s ([.ref o.1] : List Value).toArray (fun _ => False) (zqi fun r H => H = s.heap ∧ r = nI (zct c V sc)) ({ frames := 0, cells := 0, slots := 0, locals := 0 } : Room)) (F0 m 4 ls []) := by
    intro n
    induction n with
    | zero => intro k ls h1 h2; omega
    | succ n ih =>
      intro k ls hk hn hl
      refine lv_iload_n hx hb d_BL_countLong_4 rfl (lv_at hl 0 rfl) ?_
      refine lv_aload_n hx hb d_BL_countLong_5 rfl (lv_at hl 2 rfl) ?_
      refine va_get (D := D) (ci := 4) (v := .int (nI sc)) (C := "BranchLayout") (T := T_BL) (N := 5) hx hb hts in_BL hown hK.1 hP 0 (zb_x rfl) rfl 3 (by decide) (hts _ w_26) (fun _ h9 => h9) rfl d_BL_countLong_6 ?_
      refine lv_icmp_ge (tgt := 50) hx hb d_BL_countLong_9 (by decide) (fun c_21 => ?_) (fun c_21 => ?_)
      · skip
        have hks : k = sc := Nat.le_antisymm hk ((nI_leI (by omega) (by omega)).mp c_21)
        refine lv_iload_n hx hb d_BL_countLong_50 rfl (lv_at hl 1 rfl) ?_
        refine zri E d_BL_countLong_51 hS (Nat.le_of_ble_eq_true rfl) (Nat.le_of_ble_eq_true rfl) ?_
        exact ⟨_, rfl, rfl, by rw [hks]⟩
      · skip
        have hlt : k < sc := Nat.lt_of_not_le fun q => c_21 (nI_le q (by omega))
        refine lv_aload_n hx hb d_BL_countLong_12 rfl (lv_at hl 2 rfl) ?_
        refine va_get (D := D) (ci := 4) (v := .ref o.2.1) (C := "BranchLayout") (T := T_BL) (N := 5) hx hb hts in_BL hown hK.1 hP 0 (zb_x rfl) rfl 0 (by decide) (hts _ w_23) (fun _ h9 => h9) rfl d_BL_countLong_13 ?_
        refine lv_iload_n hx hb d_BL_countLong_16 rfl (lv_at hl 0 rfl) ?_
        refine va_aldq hx hb hK.1 hP 1 2 (zb_x rfl) rfl (vp_in_nI (show k < 4096 by omega) (by decide)) d_BL_countLong_17 ?_
        rw [nI_clamp (show k < 2 ^ 31 by omega), hfa k hlt]
        refine lv_astore (lv' := [(4, .ref (ad k)), (2, .int (nI k)), (1, .int (nI (zct c V k))), (0, .ref o.1)]) hx hb d_BL_countLong_18 hl (by decide) rfl (fun ls hl => ?_)
        refine lv_aload hx hb d_BL_countLong_20 (lv_at hl 0 rfl) ?_
        by_cases h2k : c 0 k = 2
        · skip
          refine zs_inst_yes E hK hP hlt h2k w_131 d_BL_countLong_22 ?_
          refine lv_if_eq (tgt := 44) hx hb d_BL_countLong_25 (by decide) (fun c_22 => ?_) (fun c_22 => ?_)
          · skip
            exact absurd c_22 (by decide)
          · skip
            refine lv_aload hx hb d_BL_countLong_28 (lv_at hl 0 rfl) ?_
            refine zs_cast E hK hP hlt h2k w_131 d_BL_countLong_30 ?_
            refine lv_astore_n (lv' := [(3, .ref (ad k)), (4, .ref (ad k)), (2, .int (nI k)), (1, .int (nI (zct c V k))), (0, .ref o.1)]) hx hb d_BL_countLong_33 rfl hl (by decide) rfl (fun ls hl => ?_)
            refine lv_aload_n hx hb d_BL_countLong_34 rfl (lv_at hl 0 rfl) ?_
            refine va_getN (D := D) (ci := 1) (v := .int (V 2 k)) (C := "BranchLayout$Branch") (T := T_Br) (N := 8) (host := "BranchLayout") hx hb hts in_Br hown hK.1 hP (4 + k) (zc_Br hlt h2k) rfl 6 (by decide) (va_Nw.use rfl hK.2.2.2.1) (fun _ h9 => h9) rfl d_BL_countLong_35 ?_
            refine lv_if_ne (tgt := 44) hx hb d_BL_countLong_38 (by decide) (fun c_23 => ?_) (fun c_23 => ?_)
            · skip
              have ez : zct c V (k + 1) = zct c V k := by simp [zct, c_23]
              refine lv_iinc (v := nI (k + 1)) (lv' := [(2, .int (nI (k + 1))), (3, .ref (ad k)), (4, .ref (ad k)), (1, .int (nI (zct c V k))), (0, .ref o.1)]) hx hb d_BL_countLong_44 hl (k := 2) rfl (nI_1 k) (by decide) rfl (fun ls hl => ?_)
              refine lv_goto (tgt := 4) hx hb d_BL_countLong_47 (by decide) ?_
              exact ih (k + 1) ls hlt (by omega) (by rw [ez]; exact lv_sub hl [0, 3, 4] rfl)
            · skip
              have ez : zct c V (k + 1) = zct c V k + 1 := by simp [zct, h2k, c_23]
              refine lv_iinc (v := nI (zct c V k + 1)) (lv' := [(1, .int (nI (zct c V k + 1))), (3, .ref (ad k)), (4, .ref (ad k)), (2, .int (nI k)), (0, .ref o.1)]) hx hb d_BL_countLong_41 hl (k := 3) rfl (nI_1 (zct c V k)) (by decide) rfl (fun ls hl => ?_)
              refine lv_iinc (v := nI (k + 1)) (lv' := [(2, .int (nI (k + 1))), (1, .int (nI (zct c V k + 1))), (3, .ref (ad k)), (4, .ref (ad k)), (0, .ref o.1)]) hx hb d_BL_countLong_44 hl (k := 3) rfl (nI_1 k) (by decide) rfl (fun ls hl => ?_)
              refine lv_goto (tgt := 4) hx hb d_BL_countLong_47 (by decide) ?_
              exact ih (k + 1) ls hlt (by omega) (by rw [ez]; exact lv_sub hl [0, 1, 4] rfl)
        · skip
          refine zs_inst_no E hK hP hlt h2k w_131 d_BL_countLong_22 ?_
          refine lv_if_eq (tgt := 44) hx hb d_BL_countLong_25 (by decide) (fun c_24 => ?_) (fun c_24 => ?_)
          · skip
            have ez : zct c V (k + 1) = zct c V k := by simp [zct, h2k]
            refine lv_iinc (v := nI (k + 1)) (lv' := [(2, .int (nI (k + 1))), (4, .ref (ad k)), (1, .int (nI (zct c V k))), (0, .ref o.1)]) hx hb d_BL_countLong_44 hl (k := 1) rfl (nI_1 k) (by decide) rfl (fun ls hl => ?_)
            refine lv_goto (tgt := 4) hx hb d_BL_countLong_47 (by decide) ?_
            exact ih (k + 1) ls hlt (by omega) (by rw [ez]; exact lv_sub hl [0, 2, 3] rfl)
          · skip
            exact absurd rfl c_24
  exact loop (sc + 1) 0 ls (Nat.zero_le _) (by omega) (by show lv_has ls 5 [(2, .int (nI 0)), (1, .int (nI 0)), (0, .ref o.1)]; rw [nI_0]; exact lv_sub hl [0, 1, 2] rfl)
set_option maxHeartbeats 4000000 in
set_option maxRecDepth 100000 in
theorem t_BL_relax (l : Launch) (D : va_G) (cs : ClassId × ClassId × ClassId × ClassId) (A : Nat → Prop) (o : Nat × Nat × Nat × Nat) (sc lc : Nat) (c : Nat → Nat → Nat) (gp mo : Nat → Int32) (V : Nat → Nat → Int32) (hI : zI sc lc c gp) (hJ : zJ sc c gp V) : zMet l D cs y_BL_relax c_BL_relax 2 (some FieldType.int) ({ frames := 3, cells := 0, slots := 0, locals := 64 } : Room) [.ref o.1] (zCW D A o cs sc lc c gp mo V) A (zqi fun r H => ∃ V2, zRx c gp mo sc lc V2 r ∧ zCW D A o cs sc lc c gp mo V2 H) := by
  refine zmk (by decide) (Nat.le_of_ble_eq_true rfl) ?_
  intro p e s m below meth cd ls E hK hP0 hl
  have hS : va_S A s.heap s.heap [] := va_S.rf
  have hsc := hI.1
  obtain ⟨fa, fb, ad, bd, hfa, hfb, hw⟩ := id hP0
  obtain ⟨hP, hD⟩ := id hw
  obtain ⟨hx, hb, hr, hts, hown, hlocks, hml, hin⟩ := id E
  have hl : lv_has ls 2 [(0, .ref o.1)] := hl
  refine lv_aload_n hx hb d_BL_relax_0 rfl (lv_at hl 0 rfl) ?_
  refine zcV [] [] E (t_BL_shortenAllThatGo l D cs A o sc lc fa fb ad bd c gp mo V hI hfa) d_BL_relax_1 w_195 w_197 ws_BL_shortenAllThatGo w_1 w_198 ⟨rfl, by decide +kernel, by decide +kernel, (by decide +kernel : Option.map (fun d => d.parameters.length) (parseMethodDescriptor "()V") = some 0)⟩ ⟨(Nat.le_of_ble_eq_true rfl), (Nat.le_of_ble_eq_true rfl)⟩ ⟨(Nat.le_of_ble_eq_true rfl), (Nat.le_of_ble_eq_true rfl)⟩ rfl (Nat.le_of_ble_eq_true rfl) hl.1 (zrec hK hP (ci := 4) (i := 0) rfl (zb_x rfl)) hK hw hS (fun _ h => h) (zkv fun H locs hw _ _ hS => ?_)
  refine lv_iconst (v := 0) hx hb d_BL_relax_4 (by decide) ?_
  refine lv_istore_n (lv' := [(1, .int 0), (0, .ref o.1)]) hx hb d_BL_relax_5 rfl hl (by decide) rfl (fun ls hl => ?_)
  have loop : ∀ (n k : Nat) (V : Nat → Nat → Int32) (H : Heap) (locs : List Loc) (ls : Array Slot), zcs V sc + k ≤ sc → sc + 1 ≤ k + n → zMid c gp mo sc V → zH D A (zB o cs sc lc fa fb ad bd c gp mo V) H → va_S A s.heap H locs → lv_has ls 2 [(1, .int (nI k)), (0, .ref o.1)] → W p l e ({ frames := 3, cells := 0, slots := 0, locals := 64 } : Room) s m ([.ref o.1] : List Value).toArray below meth cd H locs 0 0 (zQ below s ([.ref o.1] : List Value).toArray A (zqi fun r H => ∃ V2, zRx c gp mo sc lc V2 r ∧ zCW D A o cs sc lc c gp mo V2 H) ({ frames := 3, cells := 0, slots := 0, locals := 64 } : Room)) (F0 m 6 ls []) := by
    intro n
    induction n with
    | zero => intro k V H locs ls h1 h2; omega
    | succ n ih =>
      intro k V H locs ls hk hn hM hw hS hl
      obtain ⟨hP, hD⟩ := id hw
      refine lv_iload_n hx hb d_BL_relax_6 rfl (lv_at hl 0 rfl) ?_
      refine lv_aload_n hx hb d_BL_relax_7 rfl (lv_at hl 1 rfl) ?_
      refine va_get (D := D) (ci := 4) (v := .int (nI sc)) (C := "BranchLayout") (T := T_BL) (N := 5) hx hb hts in_BL hown hK.1 hP 0 (zb_x rfl) rfl 3 (by decide) (hts _ w_26) (fun _ h9 => h9) rfl d_BL_relax_8 ?_
      refine lv_icmp_gt (tgt := 34) hx hb d_BL_relax_11 (by decide) (fun c_33 => ?_) (fun c_33 => ?_)
      · skip
        exact absurd c_33 (nI_nlt (by omega) (by omega))
      · skip
        refine lv_aload_n hx hb d_BL_relax_14 rfl (lv_at hl 1 rfl) ?_
        refine zcV [] [] E (t_BL_tellPlaces l D cs A o sc lc fa fb ad bd c gp mo V hI hfa hfb (fun k hk => (hM.1 k hk).1)) d_BL_relax_15 w_199 w_201 ws_BL_tellPlaces w_1 w_202 ⟨rfl, by decide +kernel, by decide +kernel, (by decide +kernel : Option.map (fun d => d.parameters.length) (parseMethodDescriptor "()V") = some 0)⟩ ⟨(Nat.le_of_ble_eq_true rfl), (Nat.le_of_ble_eq_true rfl)⟩ ⟨(Nat.le_of_ble_eq_true rfl), (Nat.le_of_ble_eq_true rfl)⟩ rfl (Nat.le_of_ble_eq_true rfl) hl.1 (zrec hK hP (ci := 4) (i := 0) rfl (zb_x rfl)) hK hw hS (fun _ h => h) (zkv fun H locs hw _ _ hS => ?_)
        obtain ⟨hP, hD⟩ := id hw
        refine lv_aload_n hx hb d_BL_relax_18 rfl (lv_at hl 1 rfl) ?_
        refine zcV [] [] E (t_BL_lengthenAllTooFar l D cs A o sc lc fa fb ad bd c gp mo (zT c (zbr V) V sc lc) hI hfa (fun k hk => by rw [zT_2]; exact ⟨(hM.1 k hk).1, (hM.1 k hk).2.1⟩)) d_BL_relax_19 w_223 w_225 ws_BL_lengthenAllTooFar w_1 w_226 ⟨rfl, by decide +kernel, by decide +kernel, (by decide +kernel : Option.map (fun d => d.parameters.length) (parseMethodDescriptor "()Z") = some 0)⟩ ⟨(Nat.le_of_ble_eq_true rfl), (Nat.le_of_ble_eq_true rfl)⟩ ⟨(Nat.le_of_ble_eq_true rfl), (Nat.le_of_ble_eq_true rfl)⟩ rfl (Nat.le_of_ble_eq_true rfl) hl.1 (zrec hK hP (ci := 4) (i := 0) rfl (zb_x rfl)) hK hw hS (fun _ h => h) (zki fun r H locs hq _ _ hS => ?_)
        obtain ⟨hr1, hw⟩ := hq
        simp only [zT_2] at hr1
        obtain ⟨hP, hD⟩ := id hw
        refine lv_if_ne (tgt := 28) hx hb d_BL_relax_22 (by decide) (fun c_34 => ?_) (fun c_34 => ?_)
        · skip
          have hbad := (hr1.resolve_left fun q => c_34 q.1).2
          obtain ⟨hM2, hc2⟩ := zMid_s hI hM hbad
          refine lv_iinc (v := nI (k + 1)) (lv' := [(1, .int (nI (k + 1))), (0, .ref o.1)]) hx hb d_BL_relax_28 hl (k := 0) rfl (nI_1 k) (by decide) rfl (fun ls hl => ?_)
          refine lv_goto (tgt := 6) hx hb d_BL_relax_31 (by decide) ?_
          exact ih (k + 1) _ _ _ ls (by omega) (by omega) hM2 hw hS (lv_sub hl [0, 1] rfl)
        · skip
          have hbad := (hr1.resolve_right fun q => by rw [c_34] at q; exact absurd q.1 (by decide)).2
          have hRx := zMid_e hI hM hbad
          refine lv_goto (tgt := 34) hx hb d_BL_relax_25 (by decide) ?_
          refine lv_aload_n hx hb d_BL_relax_34 rfl (lv_at hl 1 rfl) ?_
          refine zcV [] [] E (t_BL_countLong l D cs A o sc lc fa fb ad bd c gp mo (zLn gp mo (zT c (zbr V) V sc lc) sc) hsc hfa (fun k hk => (zRx_J hRx k hk).1) _ hw) d_BL_relax_35 w_233 w_235 ws_BL_countLong w_1 w_236 ⟨rfl, by decide +kernel, by decide +kernel, (by decide +kernel : Option.map (fun d => d.parameters.length) (parseMethodDescriptor "()I") = some 0)⟩ ⟨(Nat.le_of_ble_eq_true rfl), (Nat.le_of_ble_eq_true rfl)⟩ ⟨(Nat.le_of_ble_eq_true rfl), (Nat.le_of_ble_eq_true rfl)⟩ rfl (Nat.le_of_ble_eq_true rfl) hl.1 (zrec hK hP (ci := 4) (i := 0) rfl (zb_x rfl)) hK rfl hS (fun _ h => h.elim) (zki fun r2 H2 locs2 hq _ _ hS2 => ?_)
          obtain ⟨e8, rfl⟩ := hq
          subst e8
          have hS := hS2
          refine zri E d_BL_relax_38 hS (Nat.le_of_ble_eq_true rfl) (Nat.le_of_ble_eq_true rfl) ?_
          exact ⟨_, rfl, _, hRx, fa, fb, ad, bd, hfa, hfb, hw⟩
  have hcs := zcs_le (V := zSh c gp V sc) sc
  exact loop (sc + 1) 0 _ _ _ ls (by omega) (by omega) (zMid_0 hI hJ) hw hS (by rw [nI_0]; exact lv_sub hl [0, 1] rfl)
end
section
/-- the reference: thrown, counts, arrays by their numbers 3 .. 16 -/
def zM (q : Nat → Nat) (cs : ClassId × ClassId × ClassId × ClassId) (th : Int32) (sc lc : Nat) (R : Nat → Nat → Int32) : va_W :=
  [(q 0, .inr (5, [.int th, .int (nI sc), .int (nI lc), .ref (q 3), .ref (q 4), .ref (q 5), .ref (q 6), .ref (q 7), .ref (q 8), .ref (q 9), .ref (q 10), .ref (q 11), .ref (q 12), .ref (q 13), .ref (q 14), .ref (q 15), .ref (q 16)])),
   (q 3, .inl (cs.1, 4096, .inl (R 3))),
   (q 4, .inl (cs.1, 4096, .inl (R 4))),
   (q 5, .inl (cs.1, 4096, .inl (R 5))),
   (q 6, .inl (cs.1, 4096, .inl (R 6))),
   (q 7, .inl (cs.1, 4096, .inl (R 7))),
   (q 8, .inl (cs.1, 1024, .inl (R 8))),
   (q 9, .inl (cs.1, 1024, .inl (R 9))),
   (q 10, .inl (cs.2.1, 4096, .inl (R 10))),
   (q 11, .inl (cs.1, 4096, .inl (R 11))),
   (q 12, .inl (cs.1, 4096, .inl (R 12))),
   (q 13, .inl (cs.1, 4096, .inl (R 13))),
   (q 14, .inl (cs.1, 1024, .inl (R 14))),
   (q 15, .inl (cs.1, 4, .inl (R 15))),
   (q 16, .inl (cs.2.1, 4096, .inl (R 16)))]
theorem zuf (V : Nat → Nat → Int32) (f i : Nat) (x : Int32) : (zu V f i x) f = upd (V f) i x := by
  funext j
  simp [zu, upd]
theorem zm_set_3 {q : Nat → Nat} {cs : ClassId × ClassId × ClassId × ClassId} {th : Int32} {sc lc i : Nat} {R : Nat → Nat → Int32} {x : Int32} : (zM q cs th sc lc R).set 1 (q 3, .inl (cs.1, 4096, .inl (upd (R 3) i x))) = zM q cs th sc lc (zu R 3 i x) := by
  simp only [zM, List.set_cons_succ, List.set_cons_zero, zuf, zu_ne (show (4 : Nat) ≠ 3 by decide), zu_ne (show (5 : Nat) ≠ 3 by decide), zu_ne (show (6 : Nat) ≠ 3 by decide), zu_ne (show (7 : Nat) ≠ 3 by decide), zu_ne (show (8 : Nat) ≠ 3 by decide), zu_ne (show (9 : Nat) ≠ 3 by decide), zu_ne (show (10 : Nat) ≠ 3 by decide), zu_ne (show (11 : Nat) ≠ 3 by decide), zu_ne (show (12 : Nat) ≠ 3 by decide), zu_ne (show (13 : Nat) ≠ 3 by decide), zu_ne (show (14 : Nat) ≠ 3 by decide), zu_ne (show (15 : Nat) ≠ 3 by decide), zu_ne (show (16 : Nat) ≠ 3 by decide)]
theorem zm_set_4 {q : Nat → Nat} {cs : ClassId × ClassId × ClassId × ClassId} {th : Int32} {sc lc i : Nat} {R : Nat → Nat → Int32} {x : Int32} : (zM q cs th sc lc R).set 2 (q 4, .inl (cs.1, 4096, .inl (upd (R 4) i x))) = zM q cs th sc lc (zu R 4 i x) := by
  simp only [zM, List.set_cons_succ, List.set_cons_zero, zuf, zu_ne (show (3 : Nat) ≠ 4 by decide), zu_ne (show (5 : Nat) ≠ 4 by decide), zu_ne (show (6 : Nat) ≠ 4 by decide), zu_ne (show (7 : Nat) ≠ 4 by decide), zu_ne (show (8 : Nat) ≠ 4 by decide), zu_ne (show (9 : Nat) ≠ 4 by decide), zu_ne (show (10 : Nat) ≠ 4 by decide), zu_ne (show (11 : Nat) ≠ 4 by decide), zu_ne (show (12 : Nat) ≠ 4 by decide), zu_ne (show (13 : Nat) ≠ 4 by decide), zu_ne (show (14 : Nat) ≠ 4 by decide), zu_ne (show (15 : Nat) ≠ 4 by decide), zu_ne (show (16 : Nat) ≠ 4 by decide)]
theorem zm_set_5 {q : Nat → Nat} {cs : ClassId × ClassId × ClassId × ClassId} {th : Int32} {sc lc i : Nat} {R : Nat → Nat → Int32} {x : Int32} : (zM q cs th sc lc R).set 3 (q 5, .inl (cs.1, 4096, .inl (upd (R 5) i x))) = zM q cs th sc lc (zu R 5 i x) := by
  simp only [zM, List.set_cons_succ, List.set_cons_zero, zuf, zu_ne (show (3 : Nat) ≠ 5 by decide), zu_ne (show (4 : Nat) ≠ 5 by decide), zu_ne (show (6 : Nat) ≠ 5 by decide), zu_ne (show (7 : Nat) ≠ 5 by decide), zu_ne (show (8 : Nat) ≠ 5 by decide), zu_ne (show (9 : Nat) ≠ 5 by decide), zu_ne (show (10 : Nat) ≠ 5 by decide), zu_ne (show (11 : Nat) ≠ 5 by decide), zu_ne (show (12 : Nat) ≠ 5 by decide), zu_ne (show (13 : Nat) ≠ 5 by decide), zu_ne (show (14 : Nat) ≠ 5 by decide), zu_ne (show (15 : Nat) ≠ 5 by decide), zu_ne (show (16 : Nat) ≠ 5 by decide)]
theorem zm_set_6 {q : Nat → Nat} {cs : ClassId × ClassId × ClassId × ClassId} {th : Int32} {sc lc i : Nat} {R : Nat → Nat → Int32} {x : Int32} : (zM q cs th sc lc R).set 4 (q 6, .inl (cs.1, 4096, .inl (upd (R 6) i x))) = zM q cs th sc lc (zu R 6 i x) := by
  simp only [zM, List.set_cons_succ, List.set_cons_zero, zuf, zu_ne (show (3 : Nat) ≠ 6 by decide), zu_ne (show (4 : Nat) ≠ 6 by decide), zu_ne (show (5 : Nat) ≠ 6 by decide), zu_ne (show (7 : Nat) ≠ 6 by decide), zu_ne (show (8 : Nat) ≠ 6 by decide), zu_ne (show (9 : Nat) ≠ 6 by decide), zu_ne (show (10 : Nat) ≠ 6 by decide), zu_ne (show (11 : Nat) ≠ 6 by decide), zu_ne (show (12 : Nat) ≠ 6 by decide), zu_ne (show (13 : Nat) ≠ 6 by decide), zu_ne (show (14 : Nat) ≠ 6 by decide), zu_ne (show (15 : Nat) ≠ 6 by decide), zu_ne (show (16 : Nat) ≠ 6 by decide)]
theorem zm_set_7 {q : Nat → Nat} {cs : ClassId × ClassId × ClassId × ClassId} {th : Int32} {sc lc i : Nat} {R : Nat → Nat → Int32} {x : Int32} : (zM q cs th sc lc R).set 5 (q 7, .inl (cs.1, 4096, .inl (upd (R 7) i x))) = zM q cs th sc lc (zu R 7 i x) := by
  simp only [zM, List.set_cons_succ, List.set_cons_zero, zuf, zu_ne (show (3 : Nat) ≠ 7 by decide), zu_ne (show (4 : Nat) ≠ 7 by decide), zu_ne (show (5 : Nat) ≠ 7 by decide), zu_ne (show (6 : Nat) ≠ 7 by decide), zu_ne (show (8 : Nat) ≠ 7 by decide), zu_ne (show (9 : Nat) ≠ 7 by decide), zu_ne (show (10 : Nat) ≠ 7 by decide), zu_ne (show (11 : Nat) ≠ 7 by decide), zu_ne (show (12 : Nat) ≠ 7 by decide), zu_ne (show (13 : Nat) ≠ 7 by decide), zu_ne (show (14 : Nat) ≠ 7 by decide), zu_ne (show (15 : Nat) ≠ 7 by decide), zu_ne (show (16 : Nat) ≠ 7 by decide)]
theorem zm_set_8 {q : Nat → Nat} {cs : ClassId × ClassId × ClassId × ClassId} {th : Int32} {sc lc i : Nat} {R : Nat → Nat → Int32} {x : Int32} : (zM q cs th sc lc R).set 6 (q 8, .inl (cs.1, 1024, .inl (upd (R 8) i x))) = zM q cs th sc lc (zu R 8 i x) := by
  simp only [zM, List.set_cons_succ, List.set_cons_zero, zuf, zu_ne (show (3 : Nat) ≠ 8 by decide), zu_ne (show (4 : Nat) ≠ 8 by decide), zu_ne (show (5 : Nat) ≠ 8 by decide), zu_ne (show (6 : Nat) ≠ 8 by decide), zu_ne (show (7 : Nat) ≠ 8 by decide), zu_ne (show (9 : Nat) ≠ 8 by decide), zu_ne (show (10 : Nat) ≠ 8 by decide), zu_ne (show (11 : Nat) ≠ 8 by decide), zu_ne (show (12 : Nat) ≠ 8 by decide), zu_ne (show (13 : Nat) ≠ 8 by decide), zu_ne (show (14 : Nat) ≠ 8 by decide), zu_ne (show (15 : Nat) ≠ 8 by decide), zu_ne (show (16 : Nat) ≠ 8 by decide)]
theorem zm_set_9 {q : Nat → Nat} {cs : ClassId × ClassId × ClassId × ClassId} {th : Int32} {sc lc i : Nat} {R : Nat → Nat → Int32} {x : Int32} : (zM q cs th sc lc R).set 7 (q 9, .inl (cs.1, 1024, .inl (upd (R 9) i x))) = zM q cs th sc lc (zu R 9 i x) := by
  simp only [zM, List.set_cons_succ, List.set_cons_zero, zuf, zu_ne (show (3 : Nat) ≠ 9 by decide), zu_ne (show (4 : Nat) ≠ 9 by decide), zu_ne (show (5 : Nat) ≠ 9 by decide), zu_ne (show (6 : Nat) ≠ 9 by decide), zu_ne (show (7 : Nat) ≠ 9 by decide), zu_ne (show (8 : Nat) ≠ 9 by decide), zu_ne (show (10 : Nat) ≠ 9 by decide), zu_ne (show (11 : Nat) ≠ 9 by decide), zu_ne (show (12 : Nat) ≠ 9 by decide), zu_ne (show (13 : Nat) ≠ 9 by decide), zu_ne (show (14 : Nat) ≠ 9 by decide), zu_ne (show (15 : Nat) ≠ 9 by decide), zu_ne (show (16 : Nat) ≠ 9 by decide)]
theorem zm_set_10 {q : Nat → Nat} {cs : ClassId × ClassId × ClassId × ClassId} {th : Int32} {sc lc i : Nat} {R : Nat → Nat → Int32} {x : Int32} : (zM q cs th sc lc R).set 8 (q 10, .inl (cs.2.1, 4096, .inl (upd (R 10) i x))) = zM q cs th sc lc (zu R 10 i x) := by
  simp only [zM, List.set_cons_succ, List.set_cons_zero, zuf, zu_ne (show (3 : Nat) ≠ 10 by decide), zu_ne (show (4 : Nat) ≠ 10 by decide), zu_ne (show (5 : Nat) ≠ 10 by decide), zu_ne (show (6 : Nat) ≠ 10 by decide), zu_ne (show (7 : Nat) ≠ 10 by decide), zu_ne (show (8 : Nat) ≠ 10 by decide), zu_ne (show (9 : Nat) ≠ 10 by decide), zu_ne (show (11 : Nat) ≠ 10 by decide), zu_ne (show (12 : Nat) ≠ 10 by decide), zu_ne (show (13 : Nat) ≠ 10 by decide), zu_ne (show (14 : Nat) ≠ 10 by decide), zu_ne (show (15 : Nat) ≠ 10 by decide), zu_ne (show (16 : Nat) ≠ 10 by decide)]
theorem zm_set_11 {q : Nat → Nat} {cs : ClassId × ClassId × ClassId × ClassId} {th : Int32} {sc lc i : Nat} {R : Nat → Nat → Int32} {x : Int32} : (zM q cs th sc lc R).set 9 (q 11, .inl (cs.1, 4096, .inl (upd (R 11) i x))) = zM q cs th sc lc (zu R 11 i x) := by
  simp only [zM, List.set_cons_succ, List.set_cons_zero, zuf, zu_ne (show (3 : Nat) ≠ 11 by decide), zu_ne (show (4 : Nat) ≠ 11 by decide), zu_ne (show (5 : Nat) ≠ 11 by decide), zu_ne (show (6 : Nat) ≠ 11 by decide), zu_ne (show (7 : Nat) ≠ 11 by decide), zu_ne (show (8 : Nat) ≠ 11 by decide), zu_ne (show (9 : Nat) ≠ 11 by decide), zu_ne (show (10 : Nat) ≠ 11 by decide), zu_ne (show (12 : Nat) ≠ 11 by decide), zu_ne (show (13 : Nat) ≠ 11 by decide), zu_ne (show (14 : Nat) ≠ 11 by decide), zu_ne (show (15 : Nat) ≠ 11 by decide), zu_ne (show (16 : Nat) ≠ 11 by decide)]
theorem zm_set_12 {q : Nat → Nat} {cs : ClassId × ClassId × ClassId × ClassId} {th : Int32} {sc lc i : Nat} {R : Nat → Nat → Int32} {x : Int32} : (zM q cs th sc lc R).set 10 (q 12, .inl (cs.1, 4096, .inl (upd (R 12) i x))) = zM q cs th sc lc (zu R 12 i x) := by
  simp only [zM, List.set_cons_succ, List.set_cons_zero, zuf, zu_ne (show (3 : Nat) ≠ 12 by decide), zu_ne (show (4 : Nat) ≠ 12 by decide), zu_ne (show (5 : Nat) ≠ 12 by decide), zu_ne (show (6 : Nat) ≠ 12 by decide), zu_ne (show (7 : Nat) ≠ 12 by decide), zu_ne (show (8 : Nat) ≠ 12 by decide), zu_ne (show (9 : Nat) ≠ 12 by decide), zu_ne (show (10 : Nat) ≠ 12 by decide), zu_ne (show (11 : Nat) ≠ 12 by decide), zu_ne (show (13 : Nat) ≠ 12 by decide), zu_ne (show (14 : Nat) ≠ 12 by decide), zu_ne (show (15 : Nat) ≠ 12 by decide), zu_ne (show (16 : Nat) ≠ 12 by decide)]
theorem zm_set_13 {q : Nat → Nat} {cs : ClassId × ClassId × ClassId × ClassId} {th : Int32} {sc lc i : Nat} {R : Nat → Nat → Int32} {x : Int32} : (zM q cs th sc lc R).set 11 (q 13, .inl (cs.1, 4096, .inl (upd (R 13) i x))) = zM q cs th sc lc (zu R 13 i x) := by
  simp only [zM, List.set_cons_succ, List.set_cons_zero, zuf, zu_ne (show (3 : Nat) ≠ 13 by decide), zu_ne (show (4 : Nat) ≠ 13 by decide), zu_ne (show (5 : Nat) ≠ 13 by decide), zu_ne (show (6 : Nat) ≠ 13 by decide), zu_ne (show (7 : Nat) ≠ 13 by decide), zu_ne (show (8 : Nat) ≠ 13 by decide), zu_ne (show (9 : Nat) ≠ 13 by decide), zu_ne (show (10 : Nat) ≠ 13 by decide), zu_ne (show (11 : Nat) ≠ 13 by decide), zu_ne (show (12 : Nat) ≠ 13 by decide), zu_ne (show (14 : Nat) ≠ 13 by decide), zu_ne (show (15 : Nat) ≠ 13 by decide), zu_ne (show (16 : Nat) ≠ 13 by decide)]
theorem zm_set_14 {q : Nat → Nat} {cs : ClassId × ClassId × ClassId × ClassId} {th : Int32} {sc lc i : Nat} {R : Nat → Nat → Int32} {x : Int32} : (zM q cs th sc lc R).set 12 (q 14, .inl (cs.1, 1024, .inl (upd (R 14) i x))) = zM q cs th sc lc (zu R 14 i x) := by
  simp only [zM, List.set_cons_succ, List.set_cons_zero, zuf, zu_ne (show (3 : Nat) ≠ 14 by decide), zu_ne (show (4 : Nat) ≠ 14 by decide), zu_ne (show (5 : Nat) ≠ 14 by decide), zu_ne (show (6 : Nat) ≠ 14 by decide), zu_ne (show (7 : Nat) ≠ 14 by decide), zu_ne (show (8 : Nat) ≠ 14 by decide), zu_ne (show (9 : Nat) ≠ 14 by decide), zu_ne (show (10 : Nat) ≠ 14 by decide), zu_ne (show (11 : Nat) ≠ 14 by decide), zu_ne (show (12 : Nat) ≠ 14 by decide), zu_ne (show (13 : Nat) ≠ 14 by decide), zu_ne (show (15 : Nat) ≠ 14 by decide), zu_ne (show (16 : Nat) ≠ 14 by decide)]
theorem zm_set_15 {q : Nat → Nat} {cs : ClassId × ClassId × ClassId × ClassId} {th : Int32} {sc lc i : Nat} {R : Nat → Nat → Int32} {x : Int32} : (zM q cs th sc lc R).set 13 (q 15, .inl (cs.1, 4, .inl (upd (R 15) i x))) = zM q cs th sc lc (zu R 15 i x) := by
  simp only [zM, List.set_cons_succ, List.set_cons_zero, zuf, zu_ne (show (3 : Nat) ≠ 15 by decide), zu_ne (show (4 : Nat) ≠ 15 by decide), zu_ne (show (5 : Nat) ≠ 15 by decide), zu_ne (show (6 : Nat) ≠ 15 by decide), zu_ne (show (7 : Nat) ≠ 15 by decide), zu_ne (show (8 : Nat) ≠ 15 by decide), zu_ne (show (9 : Nat) ≠ 15 by decide), zu_ne (show (10 : Nat) ≠ 15 by decide), zu_ne (show (11 : Nat) ≠ 15 by decide), zu_ne (show (12 : Nat) ≠ 15 by decide), zu_ne (show (13 : Nat) ≠ 15 by decide), zu_ne (show (14 : Nat) ≠ 15 by decide), zu_ne (show (16 : Nat) ≠ 15 by decide)]
theorem zm_set_16 {q : Nat → Nat} {cs : ClassId × ClassId × ClassId × ClassId} {th : Int32} {sc lc i : Nat} {R : Nat → Nat → Int32} {x : Int32} : (zM q cs th sc lc R).set 14 (q 16, .inl (cs.2.1, 4096, .inl (upd (R 16) i x))) = zM q cs th sc lc (zu R 16 i x) := by
  simp only [zM, List.set_cons_succ, List.set_cons_zero, zuf, zu_ne (show (3 : Nat) ≠ 16 by decide), zu_ne (show (4 : Nat) ≠ 16 by decide), zu_ne (show (5 : Nat) ≠ 16 by decide), zu_ne (show (6 : Nat) ≠ 16 by decide), zu_ne (show (7 : Nat) ≠ 16 by decide), zu_ne (show (8 : Nat) ≠ 16 by decide), zu_ne (show (9 : Nat) ≠ 16 by decide), zu_ne (show (10 : Nat) ≠ 16 by decide), zu_ne (show (11 : Nat) ≠ 16 by decide), zu_ne (show (12 : Nat) ≠ 16 by decide), zu_ne (show (13 : Nat) ≠ 16 by decide), zu_ne (show (14 : Nat) ≠ 16 by decide), zu_ne (show (15 : Nat) ≠ 16 by decide)]
theorem zm_b0 : vp_nar .boolean 0 = 0 := rfl
theorem zm_b1 : vp_nar .boolean 1 = 1 := rfl
/-- the reference's arrays hold the state -/
def zAg (sc lc : Nat) (c : Nat → Nat → Nat) (gp mo : Nat → Int32) (V R : Nat → Nat → Int32) : Prop := (∀ k, k < sc → R 3 k = nI (c 0 k) ∧ R 4 k = nI (c 1 k) ∧ R 5 k = nI (c 2 k) ∧ R 6 k = gp k ∧ R 7 k = mo k ∧ R 11 k = V 0 k ∧ R 12 k = V 1 k ∧ R 13 k = V 3 k ∧ R 16 k = V 2 k) ∧ (∀ j, j < lc → R 8 j = nI (c 3 j) ∧ R 9 j = nI (c 4 j) ∧ R 14 j = V 4 j) ∧ ∀ i, i < 4 → R 15 i = V 5 i
/-- the reference's object, by its pure state -/
def zRW (D : va_G) (A : Nat → Prop) (q : Nat → Nat) (cs : ClassId × ClassId × ClassId × ClassId) (sc lc : Nat) (c : Nat → Nat → Nat) (gp mo : Nat → Int32) (V : Nat → Nat → Int32) (H : Heap) : Prop := ∃ (th : Int32) (R : Nat → Nat → Int32), zAg sc lc c gp mo V R ∧ zH D A (zM q cs th sc lc R) H
theorem z34 {x : Int32} : ¬ 3 < x ↔ x < 4 := by
  have e3 : (3 : Int32).toInt = 3 := by decide
  have e4 : (4 : Int32).toInt = 4 := by decide
  rw [Int32.lt_iff_toInt_lt, Int32.lt_iff_toInt_lt, e3, e4]
  omega
theorem zsec_f1 {x : Int32} (h : x < 0) : zsec x = false := by simp [zsec, h]
theorem zsec_f2 {x : Int32} (h : 3 < x) : zsec x = false := by
  have : ¬ x < 4 := fun q => (z34.mpr q) h
  simp [zsec, this]
theorem zsec_t {x : Int32} (h : ¬ x < 0) (h2 : ¬ 3 < x) : zsec x = true := by simp [zsec, h, z34.mp h2]
/-- the reference's arrays behind a new statement -/
abbrev zaR (R : Nat → Nat → Int32) (sc : Nat) (x n kd : Int32) : Nat → Nat → Int32 := zu (zu (zu (zu (zu (zu (zu (zu (zu (zu R 3 sc kd) 4 sc x) 5 sc n) 6 sc (-1)) 7 sc 0) 10 sc 0) 11 sc 0) 12 sc 0) 13 sc 0) 16 sc 0
theorem zAg_add {sc lc kd : Nat} {c : Nat → Nat → Nat} {gp mo : Nat → Int32} {V R : Nat → Nat → Int32} {x n : Int32} (hx0 : ¬ x < 0) (hn0 : ¬ n < 0) (h : zAg sc lc c gp mo V R) : zAg (sc + 1) lc (zac c sc kd x n) (upd gp sc (-1)) (upd mo sc 0) (zaV V sc) (zaR R sc x n (nI kd)) := by
  refine ⟨fun k hk => ?_, fun j hj => ?_, fun i hi => ?_⟩
  · by_cases hs : k = sc
    · subst hs
      simp [zaR, zu, zac, zaV, upd, zclamp hx0, zclamp hn0]
    · have := h.1 k (by omega)
      simpa [zaR, zu, zac, zaV, upd, hs] using this
  · have := h.2.1 j hj
    simpa [zaR, zu, zac, zaV] using this
  · have := h.2.2 i hi
    simpa [zaR, zu, zaV] using this
theorem zAg_lab {sc lc : Nat} {c : Nat → Nat → Nat} {gp mo : Nat → Int32} {V R : Nat → Nat → Int32} {x : Int32} (hx0 : ¬ x < 0) (h : zAg sc lc c gp mo V R) : zAg sc (lc + 1) (zlc c lc sc x) gp mo (zu V 4 lc 0) (zu (zu (zu R 8 lc x) 9 lc (nI sc)) 14 lc 0) := by
  refine ⟨fun k hk => ?_, fun j hj => ?_, fun i hi => ?_⟩
  · have := h.1 k hk
    simpa [zu, zlc] using this
  · by_cases hs : j = lc
    · subst hs
      simp [zu, zlc, zclamp hx0]
    · have := h.2.1 j (by omega)
      simpa [zu, zlc, hs] using this
  · have := h.2.2 i hi
    simpa [zu] using this
theorem zAg_go {sc lc k : Nat} {c : Nat → Nat → Nat} {gp mo : Nat → Int32} {V R : Nat → Nat → Int32} {pl mr : Int32} (h : zAg sc lc c gp mo V R) : zAg sc lc c (upd gp k pl) (upd mo k mr) V (zu (zu R 6 k pl) 7 k mr) := by
  refine ⟨fun i hi => ?_, fun j hj => ?_, fun i hi => ?_⟩
  · have := h.1 i hi
    by_cases hs : i = k
    · subst hs
      simpa [zu, upd] using ⟨this.1, this.2.1, this.2.2.1, this.2.2.2.2.2⟩
    · simpa [zu, upd, hs] using this
  · have := h.2.1 j hj
    simpa [zu] using this
  · have := h.2.2 i hi
    simpa [zu] using this
theorem zAg_V {sc lc : Nat} {c : Nat → Nat → Nat} {gp mo : Nat → Int32} {V V2 R : Nat → Nat → Int32} (h : zAg sc lc c gp mo V R) (h1 : ∀ k, k < sc → V 0 k = V2 0 k ∧ V 1 k = V2 1 k ∧ V 2 k = V2 2 k ∧ V 3 k = V2 3 k) (h2 : ∀ j, j < lc → V 4 j = V2 4 j) (h3 : ∀ i, i < 4 → V 5 i = V2 5 i) : zAg sc lc c gp mo V2 R := by
  refine ⟨fun k hk => ?_, fun j hj => ?_, fun i hi => ?_⟩
  · obtain ⟨a1, a2, a3, a4, a5, a6, a7, a8, a9⟩ := h.1 k hk
    obtain ⟨e0, e1, e2, e3⟩ := h1 k hk
    exact ⟨a1, a2, a3, a4, a5, by rw [a6, e0], by rw [a7, e1], by rw [a8, e3], by rw [a9, e2]⟩
  · obtain ⟨a1, a2, a3⟩ := h.2.1 j hj
    exact ⟨a1, a2, by rw [a3, h2 j hj]⟩
  · rw [h.2.2 i hi, h3 i hi]
theorem zAg_clear {c : Nat → Nat → Nat} {gp mo : Nat → Int32} {V R : Nat → Nat → Int32} : zAg 0 0 c gp mo (zfl V 0) (zu (zu (zu (zu R 15 0 0) 15 1 0) 15 2 0) 15 3 0) := by
  refine ⟨fun k hk => absurd hk (Nat.not_lt_zero k), fun k hk => absurd hk (Nat.not_lt_zero k), fun i hi => ?_⟩
  have : i = 0 ∨ i = 1 ∨ i = 2 ∨ i = 3 := by omega
  rcases this with rfl | rfl | rfl | rfl <;> simp [zfl, zu]
set_option maxRecDepth 100000 in
theorem zpow2 : ∀ j : Fin 4097, 0 < j.val → ((zbc (nI j.val) = 1 ↔ nI j.val &&& (nI j.val - 1) = 0) ∧ (zbc (nI j.val) = 1 → ((List.range 13).any fun p => 2 ^ p == j.val) = true)) := by decide +kernel
theorem zal_test {n : Int32} : zisal n = true ↔ (¬ n ≤ 0 ∧ ¬ 4096 < n ∧ n &&& (n - 1) = 0) := by
  have e1 : n < 1 ↔ n ≤ 0 := by
    have h1 : (1 : Int32).toInt = 1 := by decide
    have h0 : (0 : Int32).toInt = 0 := by decide
    rw [Int32.lt_iff_toInt_lt, Int32.le_iff_toInt_le, h1, h0]
    omega
  simp only [zisal, decide_eq_true_eq, e1]
  constructor
  · rintro ⟨h1, h2, h3⟩
    obtain ⟨j, hj, rfl⟩ := nI_of2 (M := 4096) (n := 4096) (by decide) (fun q => h1 (Int32.le_of_lt q)) (Int32.not_lt.mp h2)
    have hp : 0 < j := Nat.pos_of_ne_zero fun q => h1 (by rw [q, nI_0]; exact Int32.le_refl _)
    exact ⟨h1, h2, ((zpow2 ⟨j, by omega⟩ hp).1).mp h3⟩
  · rintro ⟨h1, h2, h3⟩
    obtain ⟨j, hj, rfl⟩ := nI_of2 (M := 4096) (n := 4096) (by decide) (fun q => h1 (Int32.le_of_lt q)) (Int32.not_lt.mp h2)
    have hp : 0 < j := Nat.pos_of_ne_zero fun q => h1 (by rw [q, nI_0]; exact Int32.le_refl _)
    exact ⟨h1, h2, ((zpow2 ⟨j, by omega⟩ hp).1).mpr h3⟩
theorem zal_pow {n : Int32} (h : zisal n = true) : ¬ n < 0 ∧ n.toNatClampNeg ≤ 4096 ∧ ∃ p, p ≤ 12 ∧ n.toNatClampNeg = 2 ^ p := by
  obtain ⟨h1, h2, h3⟩ := of_decide_eq_true h
  have h0 : ¬ n < 0 := fun q => h1 (Int32.lt_trans q (by decide))
  obtain ⟨j, hj, rfl⟩ := nI_of2 (M := 4096) (n := 4096) (by decide) h0 (Int32.not_lt.mp h2)
  have hp : 0 < j := Nat.pos_of_ne_zero fun q => h1 (by rw [q, nI_0]; decide)
  have ha := (zpow2 ⟨j, by omega⟩ hp).2 h3
  rw [nI_clamp (by omega)]
  obtain ⟨p, hp1, hp2⟩ := List.any_eq_true.mp ha
  have := List.mem_range.mp hp1
  exact ⟨h0, hj, p, by omega, (beq_iff_eq.mp hp2).symm⟩
theorem zgd_ok {kd : Nat} {x n : Int32} (h : zgd kd x n) : kd ≤ 2 ∧ ¬ x < 0 ∧ x.toNatClampNeg < 4 ∧ ¬ n < 0 ∧ n.toNatClampNeg ≤ 65536 ∧ (kd = 1 → ∃ p, p ≤ 12 ∧ n.toNatClampNeg = 2 ^ p) := by
  obtain ⟨hs, h⟩ := h
  have hs1 := of_decide_eq_true hs
  obtain ⟨j, hj, e1⟩ := nI_of2 (M := 3) (n := 3) (by decide) hs1.1 (Int32.not_lt.mp (z34.mpr hs1.2))
  have hx4 : x.toNatClampNeg < 4 := by rw [e1, nI_clamp (by omega)]; omega
  rcases h with ⟨rfl, h1, h2⟩ | ⟨rfl, h1⟩ | ⟨rfl, h1⟩
  · obtain ⟨i, hi, e2⟩ := nI_of2 (M := 65536) (n := 65536) (by decide) h1 (Int32.not_lt.mp h2)
    exact ⟨by decide, hs1.1, hx4, h1, by rw [e2, nI_clamp (by omega)]; exact hi, fun q => absurd q (by decide)⟩
  · obtain ⟨g1, g2, g3⟩ := zal_pow h1
    exact ⟨by decide, hs1.1, hx4, g1, by omega, fun _ => g3⟩
  · refine ⟨by decide, hs1.1, hx4, ?_, ?_, fun q => absurd q (by decide)⟩
    · rcases h1 with rfl | rfl <;> decide
    · rcases h1 with rfl | rfl <;> decide
end
section
set_option maxHeartbeats 4000000 in
set_option maxRecDepth 100000 in
theorem t_Mo_add (l : Launch) (D : va_G) (cs : ClassId × ClassId × ClassId × ClassId) (A : Nat → Prop) (q : Nat → Nat) (th : Int32) (sc lc : Nat) (R : Nat → Nat → Int32) (hsc : sc ≤ 4096) (x n kd g : Int32) (hg : g = 0 ∨ g = 1) : zMet l D cs y_Mo_add c_Mo_add 6 (some FieldType.int) ({ frames := 0, cells := 0, slots := 0, locals := 0 } : Room) [.ref (q 0), .int x, .int n, .int kd, .int g] (zH D A (zM q cs th sc lc R)) A (zqi fun r H => ((zsec x = true ∧ g = 1) ∧ sc < 4096 ∧ r = nI sc ∧ zH D A (zM q cs 0 (sc + 1) lc (zaR R sc x n kd)) H) ∨ (¬ ((zsec x = true ∧ g = 1) ∧ sc < 4096) ∧ r = -1 ∧ zH D A (zM q cs 0 sc lc R) H)) := by
  refine zmk (by decide) (Nat.le_of_ble_eq_true rfl) ?_
  intro p e s m below meth cd ls E hK hP0 hl
  have hS : va_S A s.heap s.heap [] := va_S.rf
  obtain ⟨hP, hD⟩ := hP0
  obtain ⟨hx, hb, hr, hts, hown, hlocks, hml, hin⟩ := id E
  have hl : lv_has ls 6 [(0, .ref (q 0)), (1, .int x), (2, .int n), (3, .int kd), (4, .int g)] := hl
  refine lv_aload_n hx hb d_Mo_add_0 rfl (lv_at hl 0 rfl) ?_
  refine lv_iconst (v := 0) hx hb d_Mo_add_1 (by decide) ?_
  refine va_put (D := D) (ci := 5) (v := .int 0) (ty := .int) (C := "BranchLayoutModel") (T := T_Mo) (N := 17) hx hb hts in_Mo ty_Mo ok_Mo nm_Mo hown hK.1 hP hD hS 0 rfl rfl 0 (by decide) (hts _ w_265) (fun _ h9 => h9) rfl (by decide +kernel) rfl rfl (Nat.le_of_ble_eq_true rfl) d_Mo_add_2 (fun H locs hP hD hS => ?_)
  have hP : va_P D zcl (zM q cs 0 sc lc R) H := hP
  have hD : va_D A (zM q cs 0 sc lc R) := hD
  refine lv_iload_n hx hb d_Mo_add_5 rfl (lv_at hl 1 rfl) ?_
  refine lv_if_lt (tgt := 29) hx hb d_Mo_add_6 (by decide) (fun c_1 => ?_) (fun c_1 => ?_)
  · skip
    refine lv_iconst (v := (-1)) hx hb d_Mo_add_29 (by decide) ?_
    refine zri E d_Mo_add_30 hS (Nat.le_of_ble_eq_true rfl) (Nat.le_of_ble_eq_true rfl) ?_
    exact ⟨_, rfl, Or.inr ⟨fun q => by have q1 := q.1.1; rw [zsec_f1 c_1] at q1; exact Bool.noConfusion q1, rfl, hP, hD⟩⟩
  · skip
    refine lv_iload_n hx hb d_Mo_add_9 rfl (lv_at hl 1 rfl) ?_
    refine lv_iconst (v := 3) hx hb d_Mo_add_10 (by decide) ?_
    refine lv_icmp_gt (tgt := 29) hx hb d_Mo_add_11 (by decide) (fun c_2 => ?_) (fun c_2 => ?_)
    · skip
      refine lv_iconst (v := (-1)) hx hb d_Mo_add_29 (by decide) ?_
      refine zri E d_Mo_add_30 hS (Nat.le_of_ble_eq_true rfl) (Nat.le_of_ble_eq_true rfl) ?_
      exact ⟨_, rfl, Or.inr ⟨fun q => by have q1 := q.1.1; rw [zsec_f2 c_2] at q1; exact Bool.noConfusion q1, rfl, hP, hD⟩⟩
    · skip
      refine lv_iload hx hb d_Mo_add_14 (lv_at hl 4 rfl) ?_
      refine lv_if_eq (tgt := 29) hx hb d_Mo_add_16 (by decide) (fun c_3 => ?_) (fun c_3 => ?_)
      · skip
        refine lv_iconst (v := (-1)) hx hb d_Mo_add_29 (by decide) ?_
        refine zri E d_Mo_add_30 hS (Nat.le_of_ble_eq_true rfl) (Nat.le_of_ble_eq_true rfl) ?_
        exact ⟨_, rfl, Or.inr ⟨fun q => by rw [c_3] at q; exact absurd q.1.2 (by decide), rfl, hP, hD⟩⟩
      · skip
        refine lv_aload_n hx hb d_Mo_add_19 rfl (lv_at hl 0 rfl) ?_
        refine va_get (D := D) (ci := 5) (v := .int (nI sc)) (C := "BranchLayoutModel") (T := T_Mo) (N := 17) hx hb hts in_Mo hown hK.1 hP 0 rfl rfl 1 (by decide) (hts _ w_266) (fun _ h9 => h9) rfl d_Mo_add_20 ?_
        refine lv_sipush (v := 4096) hx hb d_Mo_add_23 (by decide) ?_
        have e4096 : (4096 : Int32) = nI 4096 := by decide
        rw [e4096]
        refine lv_icmp_ne (tgt := 31) hx hb d_Mo_add_26 (by decide) (fun c_4 => ?_) (fun c_4 => ?_)
        · skip
          have hlt : sc < 4096 := Nat.lt_of_le_of_ne hsc fun q => c_4 (by rw [q])
          refine lv_aload_n hx hb d_Mo_add_31 rfl (lv_at hl 0 rfl) ?_
          refine va_get (D := D) (ci := 5) (v := .int (nI sc)) (C := "BranchLayoutModel") (T := T_Mo) (N := 17) hx hb hts in_Mo hown hK.1 hP 0 rfl rfl 1 (by decide) (hts _ w_266) (fun _ h9 => h9) rfl d_Mo_add_32 ?_
          refine lv_istore (lv' := [(5, .int (nI sc)), (0, .ref (q 0)), (1, .int x), (2, .int n), (3, .int kd), (4, .int g)]) hx hb d_Mo_add_35 hl (by decide) rfl (fun ls hl => ?_)
          refine lv_aload_n hx hb d_Mo_add_37 rfl (lv_at hl 1 rfl) ?_
          refine va_get (D := D) (ci := 5) (v := .ref (q 3)) (C := "BranchLayoutModel") (T := T_Mo) (N := 17) hx hb hts in_Mo hown hK.1 hP 0 rfl rfl 3 (by decide) (hts _ w_268) (fun _ h9 => h9) rfl d_Mo_add_38 ?_
          refine lv_iload hx hb d_Mo_add_41 (lv_at hl 0 rfl) ?_
          refine lv_iload_n hx hb d_Mo_add_43 rfl (lv_at hl 4 rfl) ?_
          refine va_iast hx hb hK.1 hP hD hS 1 0 rfl rfl (vp_in_nI (show sc < 4096 by omega) (by decide)) d_Mo_add_44 (fun H locs hP hD hS => ?_)
          rw [nI_clamp (show sc < 2 ^ 31 by omega), zm_set_3] at hP hD
          refine lv_aload_n hx hb d_Mo_add_45 rfl (lv_at hl 1 rfl) ?_
          refine va_get (D := D) (ci := 5) (v := .ref (q 4)) (C := "BranchLayoutModel") (T := T_Mo) (N := 17) hx hb hts in_Mo hown hK.1 hP 0 rfl rfl 4 (by decide) (hts _ w_269) (fun _ h9 => h9) rfl d_Mo_add_46 ?_
          refine lv_iload hx hb d_Mo_add_49 (lv_at hl 0 rfl) ?_
          refine lv_iload_n hx hb d_Mo_add_51 rfl (lv_at hl 2 rfl) ?_
          refine va_iast hx hb hK.1 hP hD hS 2 0 rfl rfl (vp_in_nI (show sc < 4096 by omega) (by decide)) d_Mo_add_52 (fun H locs hP hD hS => ?_)
          rw [nI_clamp (show sc < 2 ^ 31 by omega), zm_set_4] at hP hD
          refine lv_aload_n hx hb d_Mo_add_53 rfl (lv_at hl 1 rfl) ?_
          refine va_get (D := D) (ci := 5) (v := .ref (q 5)) (C := "BranchLayoutModel") (T := T_Mo) (N := 17) hx hb hts in_Mo hown hK.1 hP 0 rfl rfl 5 (by decide) (hts _ w_270) (fun _ h9 => h9) rfl d_Mo_add_54 ?_
          refine lv_iload hx hb d_Mo_add_57 (lv_at hl 0 rfl) ?_
          refine lv_iload_n hx hb d_Mo_add_59 rfl (lv_at hl 3 rfl) ?_
          refine va_iast hx hb hK.1 hP hD hS 3 0 rfl rfl (vp_in_nI (show sc < 4096 by omega) (by decide)) d_Mo_add_60 (fun H locs hP hD hS => ?_)
          rw [nI_clamp (show sc < 2 ^ 31 by omega), zm_set_5] at hP hD
          refine lv_aload_n hx hb d_Mo_add_61 rfl (lv_at hl 1 rfl) ?_
          refine va_get (D := D) (ci := 5) (v := .ref (q 6)) (C := "BranchLayoutModel") (T := T_Mo) (N := 17) hx hb hts in_Mo hown hK.1 hP 0 rfl rfl 6 (by decide) (hts _ w_271) (fun _ h9 => h9) rfl d_Mo_add_62 ?_
          refine lv_iload hx hb d_Mo_add_65 (lv_at hl 0 rfl) ?_
          refine lv_iconst (v := (-1)) hx hb d_Mo_add_67 (by decide) ?_
          refine va_iast hx hb hK.1 hP hD hS 4 0 rfl rfl (vp_in_nI (show sc < 4096 by omega) (by decide)) d_Mo_add_68 (fun H locs hP hD hS => ?_)
          rw [nI_clamp (show sc < 2 ^ 31 by omega), zm_set_6] at hP hD
          refine lv_aload_n hx hb d_Mo_add_69 rfl (lv_at hl 1 rfl) ?_
          refine va_get (D := D) (ci := 5) (v := .ref (q 7)) (C := "BranchLayoutModel") (T := T_Mo) (N := 17) hx hb hts in_Mo hown hK.1 hP 0 rfl rfl 7 (by decide) (hts _ w_272) (fun _ h9 => h9) rfl d_Mo_add_70 ?_
          refine lv_iload hx hb d_Mo_add_73 (lv_at hl 0 rfl) ?_
          refine lv_iconst (v := 0) hx hb d_Mo_add_75 (by decide) ?_
          refine va_iast hx hb hK.1 hP hD hS 5 0 rfl rfl (vp_in_nI (show sc < 4096 by omega) (by decide)) d_Mo_add_76 (fun H locs hP hD hS => ?_)
          rw [nI_clamp (show sc < 2 ^ 31 by omega), zm_set_7] at hP hD
          refine lv_aload_n hx hb d_Mo_add_77 rfl (lv_at hl 1 rfl) ?_
          refine va_get (D := D) (ci := 5) (v := .ref (q 10)) (C := "BranchLayoutModel") (T := T_Mo) (N := 17) hx hb hts in_Mo hown hK.1 hP 0 rfl rfl 10 (by decide) (hts _ w_275) (fun _ h9 => h9) rfl d_Mo_add_78 ?_
          refine lv_iload hx hb d_Mo_add_81 (lv_at hl 0 rfl) ?_
          refine lv_iconst (v := 0) hx hb d_Mo_add_83 (by decide) ?_
          refine va_zast hx hb hK.1 hP hD hS 8 1 rfl rfl (vp_in_nI (show sc < 4096 by omega) (by decide)) d_Mo_add_84 (fun H locs hP hD hS => ?_)
          rw [nI_clamp (show sc < 2 ^ 31 by omega), zm_b0, zm_set_10] at hP hD
          refine lv_aload_n hx hb d_Mo_add_85 rfl (lv_at hl 1 rfl) ?_
          refine va_get (D := D) (ci := 5) (v := .ref (q 11)) (C := "BranchLayoutModel") (T := T_Mo) (N := 17) hx hb hts in_Mo hown hK.1 hP 0 rfl rfl 11 (by decide) (hts _ w_276) (fun _ h9 => h9) rfl d_Mo_add_86 ?_
          refine lv_iload hx hb d_Mo_add_89 (lv_at hl 0 rfl) ?_
          refine lv_iconst (v := 0) hx hb d_Mo_add_91 (by decide) ?_
          refine va_iast hx hb hK.1 hP hD hS 9 0 rfl rfl (vp_in_nI (show sc < 4096 by omega) (by decide)) d_Mo_add_92 (fun H locs hP hD hS => ?_)
          rw [nI_clamp (show sc < 2 ^ 31 by omega), zm_set_11] at hP hD
          refine lv_aload_n hx hb d_Mo_add_93 rfl (lv_at hl 1 rfl) ?_
          refine va_get (D := D) (ci := 5) (v := .ref (q 12)) (C := "BranchLayoutModel") (T := T_Mo) (N := 17) hx hb hts in_Mo hown hK.1 hP 0 rfl rfl 12 (by decide) (hts _ w_277) (fun _ h9 => h9) rfl d_Mo_add_94 ?_
          refine lv_iload hx hb d_Mo_add_97 (lv_at hl 0 rfl) ?_
          refine lv_iconst (v := 0) hx hb d_Mo_add_99 (by decide) ?_
          refine va_iast hx hb hK.1 hP hD hS 10 0 rfl rfl (vp_in_nI (show sc < 4096 by omega) (by decide)) d_Mo_add_100 (fun H locs hP hD hS => ?_)
          rw [nI_clamp (show sc < 2 ^ 31 by omega), zm_set_12] at hP hD
          refine lv_aload_n hx hb d_Mo_add_101 rfl (lv_at hl 1 rfl) ?_
          refine va_get (D := D) (ci := 5) (v := .ref (q 13)) (C := "BranchLayoutModel") (T := T_Mo) (N := 17) hx hb hts in_Mo hown hK.1 hP 0 rfl rfl 13 (by decide) (hts _ w_278) (fun _ h9 => h9) rfl d_Mo_add_102 ?_
          refine lv_iload hx hb d_Mo_add_105 (lv_at hl 0 rfl) ?_
          refine lv_iconst (v := 0) hx hb d_Mo_add_107 (by decide) ?_
          refine va_iast hx hb hK.1 hP hD hS 11 0 rfl rfl (vp_in_nI (show sc < 4096 by omega) (by decide)) d_Mo_add_108 (fun H locs hP hD hS => ?_)
          rw [nI_clamp (show sc < 2 ^ 31 by omega), zm_set_13] at hP hD
          refine lv_aload_n hx hb d_Mo_add_109 rfl (lv_at hl 1 rfl) ?_
          refine va_get (D := D) (ci := 5) (v := .ref (q 16)) (C := "BranchLayoutModel") (T := T_Mo) (N := 17) hx hb hts in_Mo hown hK.1 hP 0 rfl rfl 16 (by decide) (hts _ w_281) (fun _ h9 => h9) rfl d_Mo_add_110 ?_
          refine lv_iload hx hb d_Mo_add_113 (lv_at hl 0 rfl) ?_
          refine lv_iconst (v := 0) hx hb d_Mo_add_115 (by decide) ?_
          refine va_zast hx hb hK.1 hP hD hS 14 1 rfl rfl (vp_in_nI (show sc < 4096 by omega) (by decide)) d_Mo_add_116 (fun H locs hP hD hS => ?_)
          rw [nI_clamp (show sc < 2 ^ 31 by omega), zm_b0, zm_set_16] at hP hD
          refine lv_aload_n hx hb d_Mo_add_117 rfl (lv_at hl 1 rfl) ?_
          refine lv_dup hx hb d_Mo_add_118 rfl ?_
          refine va_get (D := D) (ci := 5) (v := .int (nI sc)) (C := "BranchLayoutModel") (T := T_Mo) (N := 17) hx hb hts in_Mo hown hK.1 hP 0 rfl rfl 1 (by decide) (hts _ w_266) (fun _ h9 => h9) rfl d_Mo_add_119 ?_
          refine lv_iconst (v := 1) hx hb d_Mo_add_122 (by decide) ?_
          refine lv_iadd hx hb d_Mo_add_123 ?_
          refine va_put (D := D) (ci := 5) (v := .int ((nI sc) + 1)) (ty := .int) (C := "BranchLayoutModel") (T := T_Mo) (N := 17) hx hb hts in_Mo ty_Mo ok_Mo nm_Mo hown hK.1 hP hD hS 0 rfl rfl 1 (by decide) (hts _ w_266) (fun _ h9 => h9) rfl (by decide +kernel) rfl rfl (Nat.le_of_ble_eq_true rfl) d_Mo_add_124 (fun H locs hP hD hS => ?_)
          rw [nI_1] at hP hD
          have hP : va_P D zcl (zM q cs 0 (sc + 1) lc (zu (zu (zu (zu (zu (zu (zu (zu (zu (zu R 3 sc kd) 4 sc x) 5 sc n) 6 sc (-1)) 7 sc 0) 10 sc 0) 11 sc 0) 12 sc 0) 13 sc 0) 16 sc 0)) H := hP
          have hD : va_D A (zM q cs 0 (sc + 1) lc (zu (zu (zu (zu (zu (zu (zu (zu (zu (zu R 3 sc kd) 4 sc x) 5 sc n) 6 sc (-1)) 7 sc 0) 10 sc 0) 11 sc 0) 12 sc 0) 13 sc 0) 16 sc 0)) := hD
          refine lv_iload hx hb d_Mo_add_127 (lv_at hl 0 rfl) ?_
          refine zri E d_Mo_add_129 hS (Nat.le_of_ble_eq_true rfl) (Nat.le_of_ble_eq_true rfl) ?_
          exact ⟨_, rfl, Or.inl ⟨⟨zsec_t c_1 c_2, hg.resolve_left c_3⟩, hlt, rfl, hP, hD⟩⟩
        · skip
          refine lv_iconst (v := (-1)) hx hb d_Mo_add_29 (by decide) ?_
          refine zri E d_Mo_add_30 hS (Nat.le_of_ble_eq_true rfl) (Nat.le_of_ble_eq_true rfl) ?_
          exact ⟨_, rfl, Or.inr ⟨fun q => absurd ((nI_eq (by omega) (by decide)).mp c_4) (by have := q.2; omega), rfl, hP, hD⟩⟩
set_option maxHeartbeats 4000000 in
set_option maxRecDepth 100000 in
theorem t_Mo_bytes (l : Launch) (D : va_G) (cs : ClassId × ClassId × ClassId × ClassId) (A : Nat → Prop) (q : Nat → Nat) (sc lc : Nat) (c : Nat → Nat → Nat) (gp mo : Nat → Int32) (V : Nat → Nat → Int32) (hI : zI sc lc c gp) (x n : Int32) : zMet l D cs y_Mo_bytes c_Mo_bytes 3 (some FieldType.int) ({ frames := 1, cells := 0, slots := 0, locals := 25 } : Room) [.ref (q 0), .int x, .int n] (zRW D A q cs sc lc c gp mo V) A (zqi (zadd 0 sc x n (zRW D A q cs sc lc c gp mo V) (zRW D A q cs (sc + 1) lc (zac c sc 0 x n) (upd gp sc (-1)) (upd mo sc 0) (zaV V sc)))) := by
  refine zmk (by decide) (Nat.le_of_ble_eq_true rfl) ?_
  intro p e s m below meth cd ls E hK hP0 hl
  have hS : va_S A s.heap s.heap [] := va_S.rf
  obtain ⟨th, R, hG, hP, hD⟩ := hP0
  obtain ⟨hx, hb, hr, hts, hown, hlocks, hml, hin⟩ := id E
  have hl : lv_has ls 3 [(0, .ref (q 0)), (1, .int x), (2, .int n)] := hl
  refine lv_aload_n hx hb d_Mo_bytes_0 rfl (lv_at hl 0 rfl) ?_
  refine lv_iload_n hx hb d_Mo_bytes_1 rfl (lv_at hl 1 rfl) ?_
  refine lv_iload_n hx hb d_Mo_bytes_2 rfl (lv_at hl 2 rfl) ?_
  refine lv_iconst (v := 0) hx hb d_Mo_bytes_3 (by decide) ?_
  refine lv_iload_n hx hb d_Mo_bytes_4 rfl (lv_at hl 2 rfl) ?_
  refine lv_if_lt (tgt := 18) hx hb d_Mo_bytes_5 (by decide) (fun c_5 => ?_) (fun c_5 => ?_)
  · skip
    refine lv_iconst (v := 0) hx hb d_Mo_bytes_18 (by decide) ?_
    refine zcV [.int x, .int n, .int 0, .int 0] [] E (t_Mo_add l D cs A q th sc lc R hI.1 x n 0 0 (Or.inl rfl)) d_Mo_bytes_19 w_327 w_329 ws_Mo_add w_2 w_330 ⟨rfl, by decide +kernel, by decide +kernel, (by decide +kernel : Option.map (fun d => d.parameters.length) (parseMethodDescriptor "(IIIZ)I") = some 4)⟩ ⟨(Nat.le_of_ble_eq_true rfl), (Nat.le_of_ble_eq_true rfl)⟩ ⟨(Nat.le_of_ble_eq_true rfl), (Nat.le_of_ble_eq_true rfl)⟩ rfl (Nat.le_of_ble_eq_true rfl) hl.1 (zrec hK hP (ci := 5) (i := 0) rfl rfl) hK ⟨hP, hD⟩ hS (fun _ h => h) (zki fun r H locs hq _ _ hS => ?_)
    refine zri E d_Mo_bytes_22 hS (Nat.le_of_ble_eq_true rfl) (Nat.le_of_ble_eq_true rfl) ?_
    refine ⟨_, rfl, ?_⟩
    rcases hq with ⟨h1, h2, h3, h4⟩ | ⟨h1, h3, h4⟩
    · exact absurd h1.2 (by decide)
    · refine Or.inr ⟨fun q => ?_, h3, 0, R, hG, h4⟩
      have z := q.1.2
      rcases z with ⟨-, q1, q2⟩ | ⟨q1, -⟩ | ⟨q1, -⟩
      · exact q1 c_5
      · exact absurd q1 (by decide)
      · exact absurd q1 (by decide)
  · skip
    refine lv_iload_n hx hb d_Mo_bytes_8 rfl (lv_at hl 2 rfl) ?_
    refine lv_ldc (v := 65536) hx hb hown (hts _ w_326) d_Mo_bytes_9 ?_
    refine lv_icmp_gt (tgt := 18) hx hb d_Mo_bytes_11 (by decide) (fun c_6 => ?_) (fun c_6 => ?_)
    · skip
      refine lv_iconst (v := 0) hx hb d_Mo_bytes_18 (by decide) ?_
      refine zcV [.int x, .int n, .int 0, .int 0] [] E (t_Mo_add l D cs A q th sc lc R hI.1 x n 0 0 (Or.inl rfl)) d_Mo_bytes_19 w_327 w_329 ws_Mo_add w_2 w_330 ⟨rfl, by decide +kernel, by decide +kernel, (by decide +kernel : Option.map (fun d => d.parameters.length) (parseMethodDescriptor "(IIIZ)I") = some 4)⟩ ⟨(Nat.le_of_ble_eq_true rfl), (Nat.le_of_ble_eq_true rfl)⟩ ⟨(Nat.le_of_ble_eq_true rfl), (Nat.le_of_ble_eq_true rfl)⟩ rfl (Nat.le_of_ble_eq_true rfl) hl.1 (zrec hK hP (ci := 5) (i := 0) rfl rfl) hK ⟨hP, hD⟩ hS (fun _ h => h) (zki fun r H locs hq _ _ hS => ?_)
      refine zri E d_Mo_bytes_22 hS (Nat.le_of_ble_eq_true rfl) (Nat.le_of_ble_eq_true rfl) ?_
      refine ⟨_, rfl, ?_⟩
      rcases hq with ⟨h1, h2, h3, h4⟩ | ⟨h1, h3, h4⟩
      · exact absurd h1.2 (by decide)
      · refine Or.inr ⟨fun q => ?_, h3, 0, R, hG, h4⟩
        have z := q.1.2
        rcases z with ⟨-, q1, q2⟩ | ⟨q1, -⟩ | ⟨q1, -⟩
        · exact q2 c_6
        · exact absurd q1 (by decide)
        · exact absurd q1 (by decide)
    · skip
      refine lv_iconst (v := 1) hx hb d_Mo_bytes_14 (by decide) ?_
      refine lv_goto (tgt := 19) hx hb d_Mo_bytes_15 (by decide) ?_
      refine zcV [.int x, .int n, .int 0, .int 1] [] E (t_Mo_add l D cs A q th sc lc R hI.1 x n 0 1 (Or.inr rfl)) d_Mo_bytes_19 w_327 w_329 ws_Mo_add w_2 w_330 ⟨rfl, by decide +kernel, by decide +kernel, (by decide +kernel : Option.map (fun d => d.parameters.length) (parseMethodDescriptor "(IIIZ)I") = some 4)⟩ ⟨(Nat.le_of_ble_eq_true rfl), (Nat.le_of_ble_eq_true rfl)⟩ ⟨(Nat.le_of_ble_eq_true rfl), (Nat.le_of_ble_eq_true rfl)⟩ rfl (Nat.le_of_ble_eq_true rfl) hl.1 (zrec hK hP (ci := 5) (i := 0) rfl rfl) hK ⟨hP, hD⟩ hS (fun _ h => h) (zki fun r H locs hq _ _ hS => ?_)
      refine zri E d_Mo_bytes_22 hS (Nat.le_of_ble_eq_true rfl) (Nat.le_of_ble_eq_true rfl) ?_
      refine ⟨_, rfl, ?_⟩
      rcases hq with ⟨h1, h2, h3, h4⟩ | ⟨h1, h3, h4⟩
      · have hgd : zgd 0 x n := ⟨h1.1, Or.inl ⟨rfl, c_5, c_6⟩⟩
        obtain ⟨-, hx0, -, hn0, -, -⟩ := zgd_ok hgd
        exact Or.inl ⟨hgd, h2, h3, 0, _, zAg_add (kd := 0) hx0 hn0 hG, h4⟩
      · exact Or.inr ⟨fun q => h1 ⟨⟨q.1.1, rfl⟩, q.2⟩, h3, 0, R, hG, h4⟩
set_option maxHeartbeats 4000000 in
set_option maxRecDepth 100000 in
theorem t_Mo_align (l : Launch) (D : va_G) (cs : ClassId × ClassId × ClassId × ClassId) (A : Nat → Prop) (q : Nat → Nat) (sc lc : Nat) (c : Nat → Nat → Nat) (gp mo : Nat → Int32) (V : Nat → Nat → Int32) (hI : zI sc lc c gp) (x n : Int32) : zMet l D cs y_Mo_align c_Mo_align 3 (some FieldType.int) ({ frames := 1, cells := 0, slots := 0, locals := 25 } : Room) [.ref (q 0), .int x, .int n] (zRW D A q cs sc lc c gp mo V) A (zqi (zadd 1 sc x n (zRW D A q cs sc lc c gp mo V) (zRW D A q cs (sc + 1) lc (zac c sc 1 x n) (upd gp sc (-1)) (upd mo sc 0) (zaV V sc)))) := by
  refine zmk (by decide) (Nat.le_of_ble_eq_true rfl) ?_
  intro p e s m below meth cd ls E hK hP0 hl
  have hS : va_S A s.heap s.heap [] := va_S.rf
  obtain ⟨th, R, hG, hP, hD⟩ := hP0
  obtain ⟨hx, hb, hr, hts, hown, hlocks, hml, hin⟩ := id E
  have hl : lv_has ls 3 [(0, .ref (q 0)), (1, .int x), (2, .int n)] := hl
  refine lv_aload_n hx hb d_Mo_align_0 rfl (lv_at hl 0 rfl) ?_
  refine lv_iload_n hx hb d_Mo_align_1 rfl (lv_at hl 1 rfl) ?_
  refine lv_iload_n hx hb d_Mo_align_2 rfl (lv_at hl 2 rfl) ?_
  refine lv_iconst (v := 1) hx hb d_Mo_align_3 (by decide) ?_
  refine lv_iload_n hx hb d_Mo_align_4 rfl (lv_at hl 2 rfl) ?_
  refine lv_if_le (tgt := 27) hx hb d_Mo_align_5 (by decide) (fun c_7 => ?_) (fun c_7 => ?_)
  · skip
    refine lv_iconst (v := 0) hx hb d_Mo_align_27 (by decide) ?_
    refine zcV [.int x, .int n, .int 1, .int 0] [] E (t_Mo_add l D cs A q th sc lc R hI.1 x n 1 0 (Or.inl rfl)) d_Mo_align_28 w_327 w_329 ws_Mo_add w_2 w_330 ⟨rfl, by decide +kernel, by decide +kernel, (by decide +kernel : Option.map (fun d => d.parameters.length) (parseMethodDescriptor "(IIIZ)I") = some 4)⟩ ⟨(Nat.le_of_ble_eq_true rfl), (Nat.le_of_ble_eq_true rfl)⟩ ⟨(Nat.le_of_ble_eq_true rfl), (Nat.le_of_ble_eq_true rfl)⟩ rfl (Nat.le_of_ble_eq_true rfl) hl.1 (zrec hK hP (ci := 5) (i := 0) rfl rfl) hK ⟨hP, hD⟩ hS (fun _ h => h) (zki fun r H locs hq _ _ hS => ?_)
    refine zri E d_Mo_align_31 hS (Nat.le_of_ble_eq_true rfl) (Nat.le_of_ble_eq_true rfl) ?_
    refine ⟨_, rfl, ?_⟩
    rcases hq with ⟨h1, h2, h3, h4⟩ | ⟨h1, h3, h4⟩
    · exact absurd h1.2 (by decide)
    · refine Or.inr ⟨fun q => ?_, h3, 0, R, hG, h4⟩
      have z := q.1.2
      rcases z with ⟨q1, -⟩ | ⟨-, q1⟩ | ⟨q1, -⟩
      · exact absurd q1 (by decide)
      · exact (zal_test.mp q1).1 c_7
      · exact absurd q1 (by decide)
  · skip
    refine lv_iload_n hx hb d_Mo_align_8 rfl (lv_at hl 2 rfl) ?_
    refine lv_sipush (v := 4096) hx hb d_Mo_align_9 (by decide) ?_
    refine lv_icmp_gt (tgt := 27) hx hb d_Mo_align_12 (by decide) (fun c_8 => ?_) (fun c_8 => ?_)
    · skip
      refine lv_iconst (v := 0) hx hb d_Mo_align_27 (by decide) ?_
      refine zcV [.int x, .int n, .int 1, .int 0] [] E (t_Mo_add l D cs A q th sc lc R hI.1 x n 1 0 (Or.inl rfl)) d_Mo_align_28 w_327 w_329 ws_Mo_add w_2 w_330 ⟨rfl, by decide +kernel, by decide +kernel, (by decide +kernel : Option.map (fun d => d.parameters.length) (parseMethodDescriptor "(IIIZ)I") = some 4)⟩ ⟨(Nat.le_of_ble_eq_true rfl), (Nat.le_of_ble_eq_true rfl)⟩ ⟨(Nat.le_of_ble_eq_true rfl), (Nat.le_of_ble_eq_true rfl)⟩ rfl (Nat.le_of_ble_eq_true rfl) hl.1 (zrec hK hP (ci := 5) (i := 0) rfl rfl) hK ⟨hP, hD⟩ hS (fun _ h => h) (zki fun r H locs hq _ _ hS => ?_)
      refine zri E d_Mo_align_31 hS (Nat.le_of_ble_eq_true rfl) (Nat.le_of_ble_eq_true rfl) ?_
      refine ⟨_, rfl, ?_⟩
      rcases hq with ⟨h1, h2, h3, h4⟩ | ⟨h1, h3, h4⟩
      · exact absurd h1.2 (by decide)
      · refine Or.inr ⟨fun q => ?_, h3, 0, R, hG, h4⟩
        have z := q.1.2
        rcases z with ⟨q1, -⟩ | ⟨-, q1⟩ | ⟨q1, -⟩
        · exact absurd q1 (by decide)
        · exact (zal_test.mp q1).2.1 c_8
        · exact absurd q1 (by decide)
    · skip
      refine lv_iload_n hx hb d_Mo_align_15 rfl (lv_at hl 2 rfl) ?_
      refine lv_iload_n hx hb d_Mo_align_16 rfl (lv_at hl 2 rfl) ?_
      refine lv_iconst (v := 1) hx hb d_Mo_align_17 (by decide) ?_
      refine lv_isub hx hb d_Mo_align_18 ?_
      refine lv_iand hx hb d_Mo_align_19 ?_
      refine lv_if_ne (tgt := 27) hx hb d_Mo_align_20 (by decide) (fun c_9 => ?_) (fun c_9 => ?_)
      · skip
        refine lv_iconst (v := 0) hx hb d_Mo_align_27 (by decide) ?_
        refine zcV [.int x, .int n, .int 1, .int 0] [] E (t_Mo_add l D cs A q th sc lc R hI.1 x n 1 0 (Or.inl rfl)) d_Mo_align_28 w_327 w_329 ws_Mo_add w_2 w_330 ⟨rfl, by decide +kernel, by decide +kernel, (by decide +kernel : Option.map (fun d => d.parameters.length) (parseMethodDescriptor "(IIIZ)I") = some 4)⟩ ⟨(Nat.le_of_ble_eq_true rfl), (Nat.le_of_ble_eq_true rfl)⟩ ⟨(Nat.le_of_ble_eq_true rfl), (Nat.le_of_ble_eq_true rfl)⟩ rfl (Nat.le_of_ble_eq_true rfl) hl.1 (zrec hK hP (ci := 5) (i := 0) rfl rfl) hK ⟨hP, hD⟩ hS (fun _ h => h) (zki fun r H locs hq _ _ hS => ?_)
        refine zri E d_Mo_align_31 hS (Nat.le_of_ble_eq_true rfl) (Nat.le_of_ble_eq_true rfl) ?_
        refine ⟨_, rfl, ?_⟩
        rcases hq with ⟨h1, h2, h3, h4⟩ | ⟨h1, h3, h4⟩
        · exact absurd h1.2 (by decide)
        · refine Or.inr ⟨fun q => ?_, h3, 0, R, hG, h4⟩
          have z := q.1.2
          rcases z with ⟨q1, -⟩ | ⟨-, q1⟩ | ⟨q1, -⟩
          · exact absurd q1 (by decide)
          · exact c_9 (zal_test.mp q1).2.2
          · exact absurd q1 (by decide)
      · skip
        refine lv_iconst (v := 1) hx hb d_Mo_align_23 (by decide) ?_
        refine lv_goto (tgt := 28) hx hb d_Mo_align_24 (by decide) ?_
        refine zcV [.int x, .int n, .int 1, .int 1] [] E (t_Mo_add l D cs A q th sc lc R hI.1 x n 1 1 (Or.inr rfl)) d_Mo_align_28 w_327 w_329 ws_Mo_add w_2 w_330 ⟨rfl, by decide +kernel, by decide +kernel, (by decide +kernel : Option.map (fun d => d.parameters.length) (parseMethodDescriptor "(IIIZ)I") = some 4)⟩ ⟨(Nat.le_of_ble_eq_true rfl), (Nat.le_of_ble_eq_true rfl)⟩ ⟨(Nat.le_of_ble_eq_true rfl), (Nat.le_of_ble_eq_true rfl)⟩ rfl (Nat.le_of_ble_eq_true rfl) hl.1 (zrec hK hP (ci := 5) (i := 0) rfl rfl) hK ⟨hP, hD⟩ hS (fun _ h => h) (zki fun r H locs hq _ _ hS => ?_)
        refine zri E d_Mo_align_31 hS (Nat.le_of_ble_eq_true rfl) (Nat.le_of_ble_eq_true rfl) ?_
        refine ⟨_, rfl, ?_⟩
        rcases hq with ⟨h1, h2, h3, h4⟩ | ⟨h1, h3, h4⟩
        · have hgd : zgd 1 x n := ⟨h1.1, Or.inr (Or.inl ⟨rfl, zal_test.mpr ⟨c_7, c_8, c_9⟩⟩)⟩
          obtain ⟨-, hx0, -, hn0, -, -⟩ := zgd_ok hgd
          exact Or.inl ⟨hgd, h2, h3, 0, _, zAg_add (kd := 1) hx0 hn0 hG, h4⟩
        · exact Or.inr ⟨fun q => h1 ⟨⟨q.1.1, rfl⟩, q.2⟩, h3, 0, R, hG, h4⟩
set_option maxHeartbeats 4000000 in
set_option maxRecDepth 100000 in
theorem t_Mo_branch (l : Launch) (D : va_G) (cs : ClassId × ClassId × ClassId × ClassId) (A : Nat → Prop) (q : Nat → Nat) (sc lc : Nat) (c : Nat → Nat → Nat) (gp mo : Nat → Int32) (V : Nat → Nat → Int32) (hI : zI sc lc c gp) (x n : Int32) : zMet l D cs y_Mo_branch c_Mo_branch 3 (some FieldType.int) ({ frames := 1, cells := 0, slots := 0, locals := 25 } : Room) [.ref (q 0), .int x, .int n] (zRW D A q cs sc lc c gp mo V) A (zqi (zadd 2 sc x n (zRW D A q cs sc lc c gp mo V) (zRW D A q cs (sc + 1) lc (zac c sc 2 x n) (upd gp sc (-1)) (upd mo sc 0) (zaV V sc)))) := by
  refine zmk (by decide) (Nat.le_of_ble_eq_true rfl) ?_
  intro p e s m below meth cd ls E hK hP0 hl
  have hS : va_S A s.heap s.heap [] := va_S.rf
  obtain ⟨th, R, hG, hP, hD⟩ := hP0
  obtain ⟨hx, hb, hr, hts, hown, hlocks, hml, hin⟩ := id E
  have hl : lv_has ls 3 [(0, .ref (q 0)), (1, .int x), (2, .int n)] := hl
  refine lv_aload_n hx hb d_Mo_branch_0 rfl (lv_at hl 0 rfl) ?_
  refine lv_iload_n hx hb d_Mo_branch_1 rfl (lv_at hl 1 rfl) ?_
  refine lv_iload_n hx hb d_Mo_branch_2 rfl (lv_at hl 2 rfl) ?_
  refine lv_iconst (v := 2) hx hb d_Mo_branch_3 (by decide) ?_
  refine lv_iload_n hx hb d_Mo_branch_4 rfl (lv_at hl 2 rfl) ?_
  refine lv_iconst (v := 5) hx hb d_Mo_branch_5 (by decide) ?_
  refine lv_icmp_eq (tgt := 15) hx hb d_Mo_branch_6 (by decide) (fun c_10 => ?_) (fun c_10 => ?_)
  · skip
    refine lv_iconst (v := 1) hx hb d_Mo_branch_15 (by decide) ?_
    refine lv_goto (tgt := 20) hx hb d_Mo_branch_16 (by decide) ?_
    refine zcV [.int x, .int n, .int 2, .int 1] [] E (t_Mo_add l D cs A q th sc lc R hI.1 x n 2 1 (Or.inr rfl)) d_Mo_branch_20 w_327 w_329 ws_Mo_add w_2 w_330 ⟨rfl, by decide +kernel, by decide +kernel, (by decide +kernel : Option.map (fun d => d.parameters.length) (parseMethodDescriptor "(IIIZ)I") = some 4)⟩ ⟨(Nat.le_of_ble_eq_true rfl), (Nat.le_of_ble_eq_true rfl)⟩ ⟨(Nat.le_of_ble_eq_true rfl), (Nat.le_of_ble_eq_true rfl)⟩ rfl (Nat.le_of_ble_eq_true rfl) hl.1 (zrec hK hP (ci := 5) (i := 0) rfl rfl) hK ⟨hP, hD⟩ hS (fun _ h => h) (zki fun r H locs hq _ _ hS => ?_)
    refine zri E d_Mo_branch_23 hS (Nat.le_of_ble_eq_true rfl) (Nat.le_of_ble_eq_true rfl) ?_
    refine ⟨_, rfl, ?_⟩
    rcases hq with ⟨h1, h2, h3, h4⟩ | ⟨h1, h3, h4⟩
    · have hgd : zgd 2 x n := ⟨h1.1, Or.inr (Or.inr ⟨rfl, Or.inl c_10⟩)⟩
      obtain ⟨-, hx0, -, hn0, -, -⟩ := zgd_ok hgd
      exact Or.inl ⟨hgd, h2, h3, 0, _, zAg_add (kd := 2) hx0 hn0 hG, h4⟩
    · exact Or.inr ⟨fun q => h1 ⟨⟨q.1.1, rfl⟩, q.2⟩, h3, 0, R, hG, h4⟩
  · skip
    refine lv_iload_n hx hb d_Mo_branch_9 rfl (lv_at hl 2 rfl) ?_
    refine lv_bipush (v := 6) hx hb d_Mo_branch_10 (by decide) ?_
    refine lv_icmp_ne (tgt := 19) hx hb d_Mo_branch_12 (by decide) (fun c_11 => ?_) (fun c_11 => ?_)
    · skip
      refine lv_iconst (v := 0) hx hb d_Mo_branch_19 (by decide) ?_
      refine zcV [.int x, .int n, .int 2, .int 0] [] E (t_Mo_add l D cs A q th sc lc R hI.1 x n 2 0 (Or.inl rfl)) d_Mo_branch_20 w_327 w_329 ws_Mo_add w_2 w_330 ⟨rfl, by decide +kernel, by decide +kernel, (by decide +kernel : Option.map (fun d => d.parameters.length) (parseMethodDescriptor "(IIIZ)I") = some 4)⟩ ⟨(Nat.le_of_ble_eq_true rfl), (Nat.le_of_ble_eq_true rfl)⟩ ⟨(Nat.le_of_ble_eq_true rfl), (Nat.le_of_ble_eq_true rfl)⟩ rfl (Nat.le_of_ble_eq_true rfl) hl.1 (zrec hK hP (ci := 5) (i := 0) rfl rfl) hK ⟨hP, hD⟩ hS (fun _ h => h) (zki fun r H locs hq _ _ hS => ?_)
      refine zri E d_Mo_branch_23 hS (Nat.le_of_ble_eq_true rfl) (Nat.le_of_ble_eq_true rfl) ?_
      refine ⟨_, rfl, ?_⟩
      rcases hq with ⟨h1, h2, h3, h4⟩ | ⟨h1, h3, h4⟩
      · exact absurd h1.2 (by decide)
      · refine Or.inr ⟨fun q => ?_, h3, 0, R, hG, h4⟩
        have z := q.1.2
        rcases z with ⟨q1, -⟩ | ⟨q1, -⟩ | ⟨-, q1 | q1⟩
        · exact absurd q1 (by decide)
        · exact absurd q1 (by decide)
        · exact c_10 q1
        · exact c_11 q1
    · skip
      refine lv_iconst (v := 1) hx hb d_Mo_branch_15 (by decide) ?_
      refine lv_goto (tgt := 20) hx hb d_Mo_branch_16 (by decide) ?_
      refine zcV [.int x, .int n, .int 2, .int 1] [] E (t_Mo_add l D cs A q th sc lc R hI.1 x n 2 1 (Or.inr rfl)) d_Mo_branch_20 w_327 w_329 ws_Mo_add w_2 w_330 ⟨rfl, by decide +kernel, by decide +kernel, (by decide +kernel : Option.map (fun d => d.parameters.length) (parseMethodDescriptor "(IIIZ)I") = some 4)⟩ ⟨(Nat.le_of_ble_eq_true rfl), (Nat.le_of_ble_eq_true rfl)⟩ ⟨(Nat.le_of_ble_eq_true rfl), (Nat.le_of_ble_eq_true rfl)⟩ rfl (Nat.le_of_ble_eq_true rfl) hl.1 (zrec hK hP (ci := 5) (i := 0) rfl rfl) hK ⟨hP, hD⟩ hS (fun _ h => h) (zki fun r H locs hq _ _ hS => ?_)
      refine zri E d_Mo_branch_23 hS (Nat.le_of_ble_eq_true rfl) (Nat.le_of_ble_eq_true rfl) ?_
      refine ⟨_, rfl, ?_⟩
      rcases hq with ⟨h1, h2, h3, h4⟩ | ⟨h1, h3, h4⟩
      · have hgd : zgd 2 x n := ⟨h1.1, Or.inr (Or.inr ⟨rfl, Or.inr c_11⟩)⟩
        obtain ⟨-, hx0, -, hn0, -, -⟩ := zgd_ok hgd
        exact Or.inl ⟨hgd, h2, h3, 0, _, zAg_add (kd := 2) hx0 hn0 hG, h4⟩
      · exact Or.inr ⟨fun q => h1 ⟨⟨q.1.1, rfl⟩, q.2⟩, h3, 0, R, hG, h4⟩
set_option maxHeartbeats 4000000 in
set_option maxRecDepth 100000 in
theorem t_Mo_label (l : Launch) (D : va_G) (cs : ClassId × ClassId × ClassId × ClassId) (A : Nat → Prop) (q : Nat → Nat) (sc lc : Nat) (c : Nat → Nat → Nat) (gp mo : Nat → Int32) (V : Nat → Nat → Int32) (hI : zI sc lc c gp) (x : Int32) : zMet l D cs y_Mo_label c_Mo_label 2 (some FieldType.int) ({ frames := 0, cells := 0, slots := 0, locals := 0 } : Room) [.ref (q 0), .int x] (zRW D A q cs sc lc c gp mo V) A (zqi (zlabel lc x (zRW D A q cs sc lc c gp mo V) (zRW D A q cs sc (lc + 1) (zlc c lc sc x) gp mo (zu V 4 lc 0)))) := by
  refine zmk (by decide) (Nat.le_of_ble_eq_true rfl) ?_
  intro p e s m below meth cd ls E hK hP0 hl
  have hS : va_S A s.heap s.heap [] := va_S.rf
  obtain ⟨th, R, hG, hP, hD⟩ := hP0
  obtain ⟨hx, hb, hr, hts, hown, hlocks, hml, hin⟩ := id E
  have hl : lv_has ls 2 [(0, .ref (q 0)), (1, .int x)] := hl
  have hlc := hI.2.1
  have hsc := hI.1
  refine lv_aload_n hx hb d_Mo_label_0 rfl (lv_at hl 0 rfl) ?_
  refine lv_iconst (v := 0) hx hb d_Mo_label_1 (by decide) ?_
  refine va_put (D := D) (ci := 5) (v := .int 0) (ty := .int) (C := "BranchLayoutModel") (T := T_Mo) (N := 17) hx hb hts in_Mo ty_Mo ok_Mo nm_Mo hown hK.1 hP hD hS 0 rfl rfl 0 (by decide) (hts _ w_265) (fun _ h9 => h9) rfl (by decide +kernel) rfl rfl (Nat.le_of_ble_eq_true rfl) d_Mo_label_2 (fun H locs hP hD hS => ?_)
  have hP : va_P D zcl (zM q cs 0 sc lc R) H := hP
  have hD : va_D A (zM q cs 0 sc lc R) := hD
  refine lv_iload_n hx hb d_Mo_label_5 rfl (lv_at hl 1 rfl) ?_
  refine lv_if_lt (tgt := 24) hx hb d_Mo_label_6 (by decide) (fun c_12 => ?_) (fun c_12 => ?_)
  · skip
    refine lv_iconst (v := (-1)) hx hb d_Mo_label_24 (by decide) ?_
    refine zri E d_Mo_label_25 hS (Nat.le_of_ble_eq_true rfl) (Nat.le_of_ble_eq_true rfl) ?_
    exact ⟨_, rfl, Or.inr ⟨fun q => by have q1 := q.1; rw [zsec_f1 c_12] at q1; exact Bool.noConfusion q1, rfl, 0, R, hG, hP, hD⟩⟩
  · skip
    refine lv_iload_n hx hb d_Mo_label_9 rfl (lv_at hl 1 rfl) ?_
    refine lv_iconst (v := 3) hx hb d_Mo_label_10 (by decide) ?_
    refine lv_icmp_gt (tgt := 24) hx hb d_Mo_label_11 (by decide) (fun c_13 => ?_) (fun c_13 => ?_)
    · skip
      refine lv_iconst (v := (-1)) hx hb d_Mo_label_24 (by decide) ?_
      refine zri E d_Mo_label_25 hS (Nat.le_of_ble_eq_true rfl) (Nat.le_of_ble_eq_true rfl) ?_
      exact ⟨_, rfl, Or.inr ⟨fun q => by have q1 := q.1; rw [zsec_f2 c_13] at q1; exact Bool.noConfusion q1, rfl, 0, R, hG, hP, hD⟩⟩
    · skip
      refine lv_aload_n hx hb d_Mo_label_14 rfl (lv_at hl 0 rfl) ?_
      refine va_get (D := D) (ci := 5) (v := .int (nI lc)) (C := "BranchLayoutModel") (T := T_Mo) (N := 17) hx hb hts in_Mo hown hK.1 hP 0 rfl rfl 2 (by decide) (hts _ w_267) (fun _ h9 => h9) rfl d_Mo_label_15 ?_
      refine lv_sipush (v := 1024) hx hb d_Mo_label_18 (by decide) ?_
      have e1024 : (1024 : Int32) = nI 1024 := by decide
      rw [e1024]
      refine lv_icmp_ne (tgt := 26) hx hb d_Mo_label_21 (by decide) (fun c_14 => ?_) (fun c_14 => ?_)
      · skip
        have hlt : lc < 1024 := Nat.lt_of_le_of_ne hlc fun q => c_14 (by rw [q])
        refine lv_aload_n hx hb d_Mo_label_26 rfl (lv_at hl 0 rfl) ?_
        refine va_get (D := D) (ci := 5) (v := .ref (q 8)) (C := "BranchLayoutModel") (T := T_Mo) (N := 17) hx hb hts in_Mo hown hK.1 hP 0 rfl rfl 8 (by decide) (hts _ w_273) (fun _ h9 => h9) rfl d_Mo_label_27 ?_
        refine lv_aload_n hx hb d_Mo_label_30 rfl (lv_at hl 0 rfl) ?_
        refine va_get (D := D) (ci := 5) (v := .int (nI lc)) (C := "BranchLayoutModel") (T := T_Mo) (N := 17) hx hb hts in_Mo hown hK.1 hP 0 rfl rfl 2 (by decide) (hts _ w_267) (fun _ h9 => h9) rfl d_Mo_label_31 ?_
        refine lv_iload_n hx hb d_Mo_label_34 rfl (lv_at hl 1 rfl) ?_
        refine va_iast hx hb hK.1 hP hD hS 6 0 rfl rfl (vp_in_nI (show lc < 1024 by omega) (by decide)) d_Mo_label_35 (fun H locs hP hD hS => ?_)
        rw [nI_clamp (show lc < 2 ^ 31 by omega), zm_set_8] at hP hD
        refine lv_aload_n hx hb d_Mo_label_36 rfl (lv_at hl 0 rfl) ?_
        refine va_get (D := D) (ci := 5) (v := .ref (q 9)) (C := "BranchLayoutModel") (T := T_Mo) (N := 17) hx hb hts in_Mo hown hK.1 hP 0 rfl rfl 9 (by decide) (hts _ w_274) (fun _ h9 => h9) rfl d_Mo_label_37 ?_
        refine lv_aload_n hx hb d_Mo_label_40 rfl (lv_at hl 0 rfl) ?_
        refine va_get (D := D) (ci := 5) (v := .int (nI lc)) (C := "BranchLayoutModel") (T := T_Mo) (N := 17) hx hb hts in_Mo hown hK.1 hP 0 rfl rfl 2 (by decide) (hts _ w_267) (fun _ h9 => h9) rfl d_Mo_label_41 ?_
        refine lv_aload_n hx hb d_Mo_label_44 rfl (lv_at hl 0 rfl) ?_
        refine va_get (D := D) (ci := 5) (v := .int (nI sc)) (C := "BranchLayoutModel") (T := T_Mo) (N := 17) hx hb hts in_Mo hown hK.1 hP 0 rfl rfl 1 (by decide) (hts _ w_266) (fun _ h9 => h9) rfl d_Mo_label_45 ?_
        refine va_iast hx hb hK.1 hP hD hS 7 0 rfl rfl (vp_in_nI (show lc < 1024 by omega) (by decide)) d_Mo_label_48 (fun H locs hP hD hS => ?_)
        rw [nI_clamp (show lc < 2 ^ 31 by omega), zm_set_9] at hP hD
        refine lv_aload_n hx hb d_Mo_label_49 rfl (lv_at hl 0 rfl) ?_
        refine va_get (D := D) (ci := 5) (v := .ref (q 14)) (C := "BranchLayoutModel") (T := T_Mo) (N := 17) hx hb hts in_Mo hown hK.1 hP 0 rfl rfl 14 (by decide) (hts _ w_279) (fun _ h9 => h9) rfl d_Mo_label_50 ?_
        refine lv_aload_n hx hb d_Mo_label_53 rfl (lv_at hl 0 rfl) ?_
        refine va_get (D := D) (ci := 5) (v := .int (nI lc)) (C := "BranchLayoutModel") (T := T_Mo) (N := 17) hx hb hts in_Mo hown hK.1 hP 0 rfl rfl 2 (by decide) (hts _ w_267) (fun _ h9 => h9) rfl d_Mo_label_54 ?_
        refine lv_iconst (v := 0) hx hb d_Mo_label_57 (by decide) ?_
        refine va_iast hx hb hK.1 hP hD hS 12 0 rfl rfl (vp_in_nI (show lc < 1024 by omega) (by decide)) d_Mo_label_58 (fun H locs hP hD hS => ?_)
        rw [nI_clamp (show lc < 2 ^ 31 by omega), zm_set_14] at hP hD
        refine lv_aload_n hx hb d_Mo_label_59 rfl (lv_at hl 0 rfl) ?_
        refine lv_dup hx hb d_Mo_label_60 rfl ?_
        refine va_get (D := D) (ci := 5) (v := .int (nI lc)) (C := "BranchLayoutModel") (T := T_Mo) (N := 17) hx hb hts in_Mo hown hK.1 hP 0 rfl rfl 2 (by decide) (hts _ w_267) (fun _ h9 => h9) rfl d_Mo_label_61 ?_
        refine lv_iconst (v := 1) hx hb d_Mo_label_64 (by decide) ?_
        refine lv_iadd hx hb d_Mo_label_65 ?_
        refine va_put (D := D) (ci := 5) (v := .int ((nI lc) + 1)) (ty := .int) (C := "BranchLayoutModel") (T := T_Mo) (N := 17) hx hb hts in_Mo ty_Mo ok_Mo nm_Mo hown hK.1 hP hD hS 0 rfl rfl 2 (by decide) (hts _ w_267) (fun _ h9 => h9) rfl (by decide +kernel) rfl rfl (Nat.le_of_ble_eq_true rfl) d_Mo_label_66 (fun H locs hP hD hS => ?_)
        rw [nI_1] at hP hD
        have hP : va_P D zcl (zM q cs 0 sc (lc + 1) (zu (zu (zu R 8 lc x) 9 lc (nI sc)) 14 lc 0)) H := hP
        have hD : va_D A (zM q cs 0 sc (lc + 1) (zu (zu (zu R 8 lc x) 9 lc (nI sc)) 14 lc 0)) := hD
        refine lv_aload_n hx hb d_Mo_label_69 rfl (lv_at hl 0 rfl) ?_
        refine va_get (D := D) (ci := 5) (v := .int (nI (lc + 1))) (C := "BranchLayoutModel") (T := T_Mo) (N := 17) hx hb hts in_Mo hown hK.1 hP 0 rfl rfl 2 (by decide) (hts _ w_267) (fun _ h9 => h9) rfl d_Mo_label_70 ?_
        refine lv_iconst (v := 1) hx hb d_Mo_label_73 (by decide) ?_
        refine lv_isub hx hb d_Mo_label_74 ?_
        refine zri E d_Mo_label_75 hS (Nat.le_of_ble_eq_true rfl) (Nat.le_of_ble_eq_true rfl) ?_
        refine ⟨_, rfl, Or.inl ⟨zsec_t c_12 c_13, hlt, ?_, 0, _, zAg_lab c_12 hG, hP, hD⟩⟩
        exact nI_pred lc
      · skip
        refine lv_iconst (v := (-1)) hx hb d_Mo_label_24 (by decide) ?_
        refine zri E d_Mo_label_25 hS (Nat.le_of_ble_eq_true rfl) (Nat.le_of_ble_eq_true rfl) ?_
        exact ⟨_, rfl, Or.inr ⟨fun q => absurd ((nI_eq (by omega) (by decide)).mp c_14) (by have := q.2; omega), rfl, 0, R, hG, hP, hD⟩⟩
set_option maxHeartbeats 4000000 in
set_option maxRecDepth 100000 in
theorem t_Mo_clear (l : Launch) (D : va_G) (cs : ClassId × ClassId × ClassId × ClassId) (A : Nat → Prop) (q : Nat → Nat) (sc lc : Nat) (c : Nat → Nat → Nat) (gp mo : Nat → Int32) (V : Nat → Nat → Int32) (hI : zI sc lc c gp) : zMet l D cs y_Mo_clear c_Mo_clear 2 none ({ frames := 0, cells := 0, slots := 0, locals := 0 } : Room) [.ref (q 0)] (zRW D A q cs sc lc c gp mo V) A (zqv (zRW D A q cs 0 0 c gp mo (zfl V 0))) := by
  refine zmk (by decide) (Nat.le_of_ble_eq_true rfl) ?_
  intro p e s m below meth cd ls E hK hP0 hl
  have hS : va_S A s.heap s.heap [] := va_S.rf
  obtain ⟨th, R, hG, hP, hD⟩ := hP0
  obtain ⟨hx, hb, hr, hts, hown, hlocks, hml, hin⟩ := id E
  have hl : lv_has ls 2 [(0, .ref (q 0))] := hl
  refine lv_aload_n hx hb d_Mo_clear_0 rfl (lv_at hl 0 rfl) ?_
  refine lv_iconst (v := 0) hx hb d_Mo_clear_1 (by decide) ?_
  refine va_put (D := D) (ci := 5) (v := .int 0) (ty := .int) (C := "BranchLayoutModel") (T := T_Mo) (N := 17) hx hb hts in_Mo ty_Mo ok_Mo nm_Mo hown hK.1 hP hD hS 0 rfl rfl 0 (by decide) (hts _ w_265) (fun _ h9 => h9) rfl (by decide +kernel) rfl rfl (Nat.le_of_ble_eq_true rfl) d_Mo_clear_2 (fun H locs hP hD hS => ?_)
  have hP : va_P D zcl (zM q cs 0 sc lc R) H := hP
  have hD : va_D A (zM q cs 0 sc lc R) := hD
  refine lv_aload_n hx hb d_Mo_clear_5 rfl (lv_at hl 0 rfl) ?_
  refine lv_iconst (v := 0) hx hb d_Mo_clear_6 (by decide) ?_
  refine lv_topi (fun z_15 ez_15 => ?_)
  rw [← nI_0] at ez_15
  subst ez_15
  refine va_put (D := D) (ci := 5) (v := .int (nI 0)) (ty := .int) (C := "BranchLayoutModel") (T := T_Mo) (N := 17) hx hb hts in_Mo ty_Mo ok_Mo nm_Mo hown hK.1 hP hD hS 0 rfl rfl 1 (by decide) (hts _ w_266) (fun _ h9 => h9) rfl (by decide +kernel) rfl rfl (Nat.le_of_ble_eq_true rfl) d_Mo_clear_7 (fun H locs hP hD hS => ?_)
  have hP : va_P D zcl (zM q cs 0 0 lc R) H := hP
  have hD : va_D A (zM q cs 0 0 lc R) := hD
  refine lv_aload_n hx hb d_Mo_clear_10 rfl (lv_at hl 0 rfl) ?_
  refine lv_iconst (v := 0) hx hb d_Mo_clear_11 (by decide) ?_
  refine lv_topi (fun z_16 ez_16 => ?_)
  rw [← nI_0] at ez_16
  subst ez_16
  refine va_put (D := D) (ci := 5) (v := .int (nI 0)) (ty := .int) (C := "BranchLayoutModel") (T := T_Mo) (N := 17) hx hb hts in_Mo ty_Mo ok_Mo nm_Mo hown hK.1 hP hD hS 0 rfl rfl 2 (by decide) (hts _ w_267) (fun _ h9 => h9) rfl (by decide +kernel) rfl rfl (Nat.le_of_ble_eq_true rfl) d_Mo_clear_12 (fun H locs hP hD hS => ?_)
  have hP : va_P D zcl (zM q cs 0 0 0 R) H := hP
  have hD : va_D A (zM q cs 0 0 0 R) := hD
  refine lv_iconst (v := 0) hx hb d_Mo_clear_15 (by decide) ?_
  refine lv_istore_n (lv' := [(1, .int 0), (0, .ref (q 0))]) hx hb d_Mo_clear_16 rfl hl (by decide) rfl (fun ls hl => ?_)
  refine lv_iload_n hx hb d_Mo_clear_17 rfl (lv_at hl 0 rfl) ?_
  refine lv_iconst (v := 4) hx hb d_Mo_clear_18 (by decide) ?_
  refine lv_icmp_ge (tgt := 35) hx hb d_Mo_clear_19 (by decide) (fun c_17 => ?_) (fun c_17 => ?_)
  · skip
    exact absurd c_17 (by decide)
  · skip
    refine lv_aload_n hx hb d_Mo_clear_22 rfl (lv_at hl 1 rfl) ?_
    refine va_get (D := D) (ci := 5) (v := .ref (q 15)) (C := "BranchLayoutModel") (T := T_Mo) (N := 17) hx hb hts in_Mo hown hK.1 hP 0 rfl rfl 15 (by decide) (hts _ w_280) (fun _ h9 => h9) rfl d_Mo_clear_23 ?_
    refine lv_iload_n hx hb d_Mo_clear_26 rfl (lv_at hl 0 rfl) ?_
    refine lv_iconst (v := 0) hx hb d_Mo_clear_27 (by decide) ?_
    refine va_iast hx hb hK.1 hP hD hS 13 0 rfl rfl (show ¬ _ from by decide) d_Mo_clear_28 (fun H locs hP hD hS => ?_)
    rw [show (0 : Int32).toNatClampNeg = 0 from by decide, zm_set_15] at hP hD
    refine lv_iinc (v := 1) (lv' := [(1, .int 1), (0, .ref (q 0))]) hx hb d_Mo_clear_29 hl (k := 0) rfl (by decide) (by decide) rfl (fun ls hl => ?_)
    refine lv_goto (tgt := 17) hx hb d_Mo_clear_32 (by decide) ?_
    refine lv_iload_n hx hb d_Mo_clear_17 rfl (lv_at hl 0 rfl) ?_
    refine lv_iconst (v := 4) hx hb d_Mo_clear_18 (by decide) ?_
    refine lv_icmp_ge (tgt := 35) hx hb d_Mo_clear_19 (by decide) (fun c_18 => ?_) (fun c_18 => ?_)
    · skip
      exact absurd c_18 (by decide)
    · skip
      refine lv_aload_n hx hb d_Mo_clear_22 rfl (lv_at hl 1 rfl) ?_
      refine va_get (D := D) (ci := 5) (v := .ref (q 15)) (C := "BranchLayoutModel") (T := T_Mo) (N := 17) hx hb hts in_Mo hown hK.1 hP 0 rfl rfl 15 (by decide) (hts _ w_280) (fun _ h9 => h9) rfl d_Mo_clear_23 ?_
      refine lv_iload_n hx hb d_Mo_clear_26 rfl (lv_at hl 0 rfl) ?_
      refine lv_iconst (v := 0) hx hb d_Mo_clear_27 (by decide) ?_
      refine va_iast hx hb hK.1 hP hD hS 13 0 rfl rfl (show ¬ _ from by decide) d_Mo_clear_28 (fun H locs hP hD hS => ?_)
      rw [show (1 : Int32).toNatClampNeg = 1 from by decide, zm_set_15] at hP hD
      refine lv_iinc (v := 2) (lv' := [(1, .int 2), (0, .ref (q 0))]) hx hb d_Mo_clear_29 hl (k := 0) rfl (by decide) (by decide) rfl (fun ls hl => ?_)
      refine lv_goto (tgt := 17) hx hb d_Mo_clear_32 (by decide) ?_
      refine lv_iload_n hx hb d_Mo_clear_17 rfl (lv_at hl 0 rfl) ?_
      refine lv_iconst (v := 4) hx hb d_Mo_clear_18 (by decide) ?_
      refine lv_icmp_ge (tgt := 35) hx hb d_Mo_clear_19 (by decide) (fun c_19 => ?_) (fun c_19 => ?_)
      · skip
        exact absurd c_19 (by decide)
      · skip
        refine lv_aload_n hx hb d_Mo_clear_22 rfl (lv_at hl 1 rfl) ?_
        refine va_get (D := D) (ci := 5) (v := .ref (q 15)) (C := "BranchLayoutModel") (T := T_Mo) (N := 17) hx hb hts in_Mo hown hK.1 hP 0 rfl rfl 15 (by decide) (hts _ w_280) (fun _ h9 => h9) rfl d_Mo_clear_23 ?_
        refine lv_iload_n hx hb d_Mo_clear_26 rfl (lv_at hl 0 rfl) ?_
        refine lv_iconst (v := 0) hx hb d_Mo_clear_27 (by decide) ?_
        refine va_iast hx hb hK.1 hP hD hS 13 0 rfl rfl (show ¬ _ from by decide) d_Mo_clear_28 (fun H locs hP hD hS => ?_)
        rw [show (2 : Int32).toNatClampNeg = 2 from by decide, zm_set_15] at hP hD
        refine lv_iinc (v := 3) (lv' := [(1, .int 3), (0, .ref (q 0))]) hx hb d_Mo_clear_29 hl (k := 0) rfl (by decide) (by decide) rfl (fun ls hl => ?_)
        refine lv_goto (tgt := 17) hx hb d_Mo_clear_32 (by decide) ?_
        refine lv_iload_n hx hb d_Mo_clear_17 rfl (lv_at hl 0 rfl) ?_
        refine lv_iconst (v := 4) hx hb d_Mo_clear_18 (by decide) ?_
        refine lv_icmp_ge (tgt := 35) hx hb d_Mo_clear_19 (by decide) (fun c_20 => ?_) (fun c_20 => ?_)
        · skip
          exact absurd c_20 (by decide)
        · skip
          refine lv_aload_n hx hb d_Mo_clear_22 rfl (lv_at hl 1 rfl) ?_
          refine va_get (D := D) (ci := 5) (v := .ref (q 15)) (C := "BranchLayoutModel") (T := T_Mo) (N := 17) hx hb hts in_Mo hown hK.1 hP 0 rfl rfl 15 (by decide) (hts _ w_280) (fun _ h9 => h9) rfl d_Mo_clear_23 ?_
          refine lv_iload_n hx hb d_Mo_clear_26 rfl (lv_at hl 0 rfl) ?_
          refine lv_iconst (v := 0) hx hb d_Mo_clear_27 (by decide) ?_
          refine va_iast hx hb hK.1 hP hD hS 13 0 rfl rfl (show ¬ _ from by decide) d_Mo_clear_28 (fun H locs hP hD hS => ?_)
          rw [show (3 : Int32).toNatClampNeg = 3 from by decide, zm_set_15] at hP hD
          refine lv_iinc (v := 4) (lv' := [(1, .int 4), (0, .ref (q 0))]) hx hb d_Mo_clear_29 hl (k := 0) rfl (by decide) (by decide) rfl (fun ls hl => ?_)
          refine lv_goto (tgt := 17) hx hb d_Mo_clear_32 (by decide) ?_
          refine lv_iload_n hx hb d_Mo_clear_17 rfl (lv_at hl 0 rfl) ?_
          refine lv_iconst (v := 4) hx hb d_Mo_clear_18 (by decide) ?_
          refine lv_icmp_ge (tgt := 35) hx hb d_Mo_clear_19 (by decide) (fun c_21 => ?_) (fun c_21 => ?_)
          · skip
            refine zrv E d_Mo_clear_35 hS (Nat.le_of_ble_eq_true rfl) (Nat.le_of_ble_eq_true rfl) ?_
            exact ⟨rfl, 0, _, zAg_clear, hP, hD⟩
          · skip
            exact absurd (by decide) c_21
set_option maxHeartbeats 4000000 in
set_option maxRecDepth 100000 in
theorem t_Mo_statement (l : Launch) (D : va_G) (cs : ClassId × ClassId × ClassId × ClassId) (A : Nat → Prop) (q : Nat → Nat) (sc lc : Nat) (c : Nat → Nat → Nat) (gp mo : Nat → Int32) (V : Nat → Nat → Int32) (hI : zI sc lc c gp) (hJ : zJ sc c gp V) (x w : Int32) : zMet l D cs y_Mo_statement c_Mo_statement 3 (some FieldType.int) ({ frames := 0, cells := 0, slots := 0, locals := 0 } : Room) [.ref (q 0), .int x, .int w] (zRW D A q cs sc lc c gp mo V) A (zqi fun r H => r = (if zst sc x then zfa V x.toNatClampNeg w else -1) ∧ zRW D A q cs sc lc c gp mo V H) := by
  refine zmk (by decide) (Nat.le_of_ble_eq_true rfl) ?_
  intro p e s m below meth cd ls E hK hP0 hl
  have hS : va_S A s.heap s.heap [] := va_S.rf
  obtain ⟨th, R, hG, hP, hD⟩ := hP0
  obtain ⟨hx, hb, hr, hts, hown, hlocks, hml, hin⟩ := id E
  have hl : lv_has ls 3 [(0, .ref (q 0)), (1, .int x), (2, .int w)] := hl
  have hsc := hI.1
  refine lv_aload_n hx hb d_Mo_statement_0 rfl (lv_at hl 0 rfl) ?_
  refine lv_iconst (v := 0) hx hb d_Mo_statement_1 (by decide) ?_
  refine va_put (D := D) (ci := 5) (v := .int 0) (ty := .int) (C := "BranchLayoutModel") (T := T_Mo) (N := 17) hx hb hts in_Mo ty_Mo ok_Mo nm_Mo hown hK.1 hP hD hS 0 rfl rfl 0 (by decide) (hts _ w_265) (fun _ h9 => h9) rfl (by decide +kernel) rfl rfl (Nat.le_of_ble_eq_true rfl) d_Mo_statement_2 (fun H locs hP hD hS => ?_)
  have hP : va_P D zcl (zM q cs 0 sc lc R) H := hP
  have hD : va_D A (zM q cs 0 sc lc R) := hD
  refine lv_iload_n hx hb d_Mo_statement_5 rfl (lv_at hl 1 rfl) ?_
  refine lv_if_lt (tgt := 26) hx hb d_Mo_statement_6 (by decide) (fun c_22 => ?_) (fun c_22 => ?_)
  · skip
    refine lv_iconst (v := (-1)) hx hb d_Mo_statement_26 (by decide) ?_
    refine zri E d_Mo_statement_27 hS (Nat.le_of_ble_eq_true rfl) (Nat.le_of_ble_eq_true rfl) ?_
    exact ⟨_, rfl, by simp [zst, c_22], 0, R, hG, hP, hD⟩
  · skip
    refine lv_iload_n hx hb d_Mo_statement_9 rfl (lv_at hl 1 rfl) ?_
    refine lv_aload_n hx hb d_Mo_statement_10 rfl (lv_at hl 0 rfl) ?_
    refine va_get (D := D) (ci := 5) (v := .int (nI sc)) (C := "BranchLayoutModel") (T := T_Mo) (N := 17) hx hb hts in_Mo hown hK.1 hP 0 rfl rfl 1 (by decide) (hts _ w_266) (fun _ h9 => h9) rfl d_Mo_statement_11 ?_
    refine lv_icmp_ge (tgt := 26) hx hb d_Mo_statement_14 (by decide) (fun c_23 => ?_) (fun c_23 => ?_)
    · skip
      refine lv_iconst (v := (-1)) hx hb d_Mo_statement_26 (by decide) ?_
      refine zri E d_Mo_statement_27 hS (Nat.le_of_ble_eq_true rfl) (Nat.le_of_ble_eq_true rfl) ?_
      exact ⟨_, rfl, by simp [zst, c_23], 0, R, hG, hP, hD⟩
    · skip
      have hz : zst sc x = true := by simp [zst, c_22, c_23]
      obtain ⟨k, hk, ex, ek⟩ := zst_of (by omega) hz
      rw [hz, ek]
      subst ex
      obtain ⟨a1, a2, a3, a4, a5, a6, a7, a8, a9⟩ := hG.1 k hk
      refine lv_iload_n hx hb d_Mo_statement_17 rfl (lv_at hl 2 rfl) ?_
      refine lv_if_lt (tgt := 26) hx hb d_Mo_statement_18 (by decide) (fun c_24 => ?_) (fun c_24 => ?_)
      · skip
        refine lv_iconst (v := (-1)) hx hb d_Mo_statement_26 (by decide) ?_
        have w0 : ¬ w = 0 := fun q => absurd c_24 (by rw [q]; decide)
        have w1 : ¬ w = 1 := fun q => absurd c_24 (by rw [q]; decide)
        have w2 : ¬ w = 2 := fun q => absurd c_24 (by rw [q]; decide)
        have w3 : ¬ w = 3 := fun q => absurd c_24 (by rw [q]; decide)
        refine zri E d_Mo_statement_27 hS (Nat.le_of_ble_eq_true rfl) (Nat.le_of_ble_eq_true rfl) ?_
        exact ⟨_, rfl, by simp [zfa, w0, w1, w2, w3], 0, R, hG, hP, hD⟩
      · skip
        refine lv_iload_n hx hb d_Mo_statement_21 rfl (lv_at hl 2 rfl) ?_
        refine lv_iconst (v := 3) hx hb d_Mo_statement_22 (by decide) ?_
        refine lv_icmp_le (tgt := 28) hx hb d_Mo_statement_23 (by decide) (fun c_25 => ?_) (fun c_25 => ?_)
        · skip
          refine lv_iload_n hx hb d_Mo_statement_28 rfl (lv_at hl 2 rfl) ?_
          refine lv_if_ne (tgt := 41) hx hb d_Mo_statement_29 (by decide) (fun c_26 => ?_) (fun c_26 => ?_)
          · skip
            refine lv_iload_n hx hb d_Mo_statement_41 rfl (lv_at hl 2 rfl) ?_
            refine lv_iconst (v := 1) hx hb d_Mo_statement_42 (by decide) ?_
            refine lv_icmp_ne (tgt := 55) hx hb d_Mo_statement_43 (by decide) (fun c_27 => ?_) (fun c_27 => ?_)
            · skip
              refine lv_iload_n hx hb d_Mo_statement_55 rfl (lv_at hl 2 rfl) ?_
              refine lv_iconst (v := 2) hx hb d_Mo_statement_56 (by decide) ?_
              refine lv_icmp_ne (tgt := 77) hx hb d_Mo_statement_57 (by decide) (fun c_28 => ?_) (fun c_28 => ?_)
              · skip
                have w3 : w = 3 := by
                  have e0 : (0 : Int32).toInt = 0 := by decide
                  have e3 : (3 : Int32).toInt = 3 := by decide
                  have n0 : ¬ w.toInt < 0 := fun q => c_24 (by rw [Int32.lt_iff_toInt_lt, e0]; exact q)
                  have n3 : w.toInt ≤ 3 := by rw [← e3]; exact Int32.le_iff_toInt_le.mp c_25
                  have k0 := lv_neT (k := 0) (a := 0) c_26 (by decide)
                  have k1 := lv_neT (k := 1) (a := 1) c_27 (by decide)
                  have k2 := lv_neT (k := 2) (a := 2) c_28 (by decide)
                  exact Int32.toInt_inj.mp (by rw [e3]; omega)
                refine lv_aload_n hx hb d_Mo_statement_77 rfl (lv_at hl 0 rfl) ?_
                refine va_get (D := D) (ci := 5) (v := .ref (q 13)) (C := "BranchLayoutModel") (T := T_Mo) (N := 17) hx hb hts in_Mo hown hK.1 hP 0 rfl rfl 13 (by decide) (hts _ w_278) (fun _ h9 => h9) rfl d_Mo_statement_78 ?_
                refine lv_iload_n hx hb d_Mo_statement_81 rfl (lv_at hl 1 rfl) ?_
                refine va_iald hx hb hK.1 hP 11 0 rfl rfl (vp_in_nI (show k < 4096 by omega) (by decide)) d_Mo_statement_82 ?_
                rw [nI_clamp (show k < 2 ^ 31 by omega)]
                rw [a8]
                refine zri E d_Mo_statement_83 hS (Nat.le_of_ble_eq_true rfl) (Nat.le_of_ble_eq_true rfl) ?_
                exact ⟨_, rfl, by simp [zfa, w3], 0, R, hG, hP, hD⟩
              · skip
                refine lv_aload_n hx hb d_Mo_statement_60 rfl (lv_at hl 0 rfl) ?_
                refine va_get (D := D) (ci := 5) (v := .ref (q 16)) (C := "BranchLayoutModel") (T := T_Mo) (N := 17) hx hb hts in_Mo hown hK.1 hP 0 rfl rfl 16 (by decide) (hts _ w_281) (fun _ h9 => h9) rfl d_Mo_statement_61 ?_
                refine lv_iload_n hx hb d_Mo_statement_64 rfl (lv_at hl 1 rfl) ?_
                refine va_zald hx hb hK.1 hP 14 1 rfl rfl (vp_in_nI (show k < 4096 by omega) (by decide)) d_Mo_statement_65 ?_
                rw [nI_clamp (show k < 2 ^ 31 by omega)]
                rw [a9]
                refine lv_if_eq (tgt := 73) hx hb d_Mo_statement_66 (by decide) (fun c_29 => ?_) (fun c_29 => ?_)
                · skip
                  refine lv_iconst (v := 0) hx hb d_Mo_statement_73 (by decide) ?_
                  refine lv_goto (tgt := 83) hx hb d_Mo_statement_74 (by decide) ?_
                  refine zri E d_Mo_statement_83 hS (Nat.le_of_ble_eq_true rfl) (Nat.le_of_ble_eq_true rfl) ?_
                  exact ⟨_, rfl, by simp [zfa, c_28, c_29], 0, R, hG, hP, hD⟩
                · skip
                  refine lv_iconst (v := 1) hx hb d_Mo_statement_69 (by decide) ?_
                  refine lv_goto (tgt := 83) hx hb d_Mo_statement_70 (by decide) ?_
                  refine zri E d_Mo_statement_83 hS (Nat.le_of_ble_eq_true rfl) (Nat.le_of_ble_eq_true rfl) ?_
                  exact ⟨_, rfl, by have e1 := (hJ k hk).1.resolve_left c_29; simp [zfa, c_28, e1], 0, R, hG, hP, hD⟩
            · skip
              refine lv_aload_n hx hb d_Mo_statement_46 rfl (lv_at hl 0 rfl) ?_
              refine va_get (D := D) (ci := 5) (v := .ref (q 12)) (C := "BranchLayoutModel") (T := T_Mo) (N := 17) hx hb hts in_Mo hown hK.1 hP 0 rfl rfl 12 (by decide) (hts _ w_277) (fun _ h9 => h9) rfl d_Mo_statement_47 ?_
              refine lv_iload_n hx hb d_Mo_statement_50 rfl (lv_at hl 1 rfl) ?_
              refine va_iald hx hb hK.1 hP 10 0 rfl rfl (vp_in_nI (show k < 4096 by omega) (by decide)) d_Mo_statement_51 ?_
              rw [nI_clamp (show k < 2 ^ 31 by omega)]
              rw [a7]
              refine lv_goto (tgt := 83) hx hb d_Mo_statement_52 (by decide) ?_
              refine zri E d_Mo_statement_83 hS (Nat.le_of_ble_eq_true rfl) (Nat.le_of_ble_eq_true rfl) ?_
              exact ⟨_, rfl, by simp [zfa, c_27], 0, R, hG, hP, hD⟩
          · skip
            refine lv_aload_n hx hb d_Mo_statement_32 rfl (lv_at hl 0 rfl) ?_
            refine va_get (D := D) (ci := 5) (v := .ref (q 11)) (C := "BranchLayoutModel") (T := T_Mo) (N := 17) hx hb hts in_Mo hown hK.1 hP 0 rfl rfl 11 (by decide) (hts _ w_276) (fun _ h9 => h9) rfl d_Mo_statement_33 ?_
            refine lv_iload_n hx hb d_Mo_statement_36 rfl (lv_at hl 1 rfl) ?_
            refine va_iald hx hb hK.1 hP 9 0 rfl rfl (vp_in_nI (show k < 4096 by omega) (by decide)) d_Mo_statement_37 ?_
            rw [nI_clamp (show k < 2 ^ 31 by omega)]
            rw [a6]
            refine lv_goto (tgt := 83) hx hb d_Mo_statement_38 (by decide) ?_
            refine zri E d_Mo_statement_83 hS (Nat.le_of_ble_eq_true rfl) (Nat.le_of_ble_eq_true rfl) ?_
            exact ⟨_, rfl, by simp [zfa, c_26], 0, R, hG, hP, hD⟩
        · skip
          refine lv_iconst (v := (-1)) hx hb d_Mo_statement_26 (by decide) ?_
          have w0 : ¬ w = 0 := fun q => c_25 (by rw [q]; decide)
          have w1 : ¬ w = 1 := fun q => c_25 (by rw [q]; decide)
          have w2 : ¬ w = 2 := fun q => c_25 (by rw [q]; decide)
          have w3 : ¬ w = 3 := fun q => c_25 (by rw [q]; decide)
          refine zri E d_Mo_statement_27 hS (Nat.le_of_ble_eq_true rfl) (Nat.le_of_ble_eq_true rfl) ?_
          exact ⟨_, rfl, by simp [zfa, w0, w1, w2, w3], 0, R, hG, hP, hD⟩
set_option maxHeartbeats 4000000 in
set_option maxRecDepth 100000 in
theorem t_Mo_place (l : Launch) (D : va_G) (cs : ClassId × ClassId × ClassId × ClassId) (A : Nat → Prop) (q : Nat → Nat) (sc lc : Nat) (c : Nat → Nat → Nat) (gp mo : Nat → Int32) (V : Nat → Nat → Int32) (hI : zI sc lc c gp) (x : Int32) : zMet l D cs y_Mo_place c_Mo_place 2 (some FieldType.int) ({ frames := 0, cells := 0, slots := 0, locals := 0 } : Room) [.ref (q 0), .int x] (zRW D A q cs sc lc c gp mo V) A (zqi fun r H => r = (if zst lc x then V 4 x.toNatClampNeg else -1) ∧ zRW D A q cs sc lc c gp mo V H) := by
  refine zmk (by decide) (Nat.le_of_ble_eq_true rfl) ?_
  intro p e s m below meth cd ls E hK hP0 hl
  have hS : va_S A s.heap s.heap [] := va_S.rf
  obtain ⟨th, R, hG, hP, hD⟩ := hP0
  obtain ⟨hx, hb, hr, hts, hown, hlocks, hml, hin⟩ := id E
  have hl : lv_has ls 2 [(0, .ref (q 0)), (1, .int x)] := hl
  have hlc := hI.2.1
  refine lv_aload_n hx hb d_Mo_place_0 rfl (lv_at hl 0 rfl) ?_
  refine lv_iconst (v := 0) hx hb d_Mo_place_1 (by decide) ?_
  refine va_put (D := D) (ci := 5) (v := .int 0) (ty := .int) (C := "BranchLayoutModel") (T := T_Mo) (N := 17) hx hb hts in_Mo ty_Mo ok_Mo nm_Mo hown hK.1 hP hD hS 0 rfl rfl 0 (by decide) (hts _ w_265) (fun _ h9 => h9) rfl (by decide +kernel) rfl rfl (Nat.le_of_ble_eq_true rfl) d_Mo_place_2 (fun H locs hP hD hS => ?_)
  have hP : va_P D zcl (zM q cs 0 sc lc R) H := hP
  have hD : va_D A (zM q cs 0 sc lc R) := hD
  refine lv_iload_n hx hb d_Mo_place_5 rfl (lv_at hl 1 rfl) ?_
  refine lv_if_lt (tgt := 26) hx hb d_Mo_place_6 (by decide) (fun c_30 => ?_) (fun c_30 => ?_)
  · skip
    refine lv_iconst (v := (-1)) hx hb d_Mo_place_26 (by decide) ?_
    refine zri E d_Mo_place_27 hS (Nat.le_of_ble_eq_true rfl) (Nat.le_of_ble_eq_true rfl) ?_
    exact ⟨_, rfl, by simp [zst, c_30], 0, R, hG, hP, hD⟩
  · skip
    refine lv_iload_n hx hb d_Mo_place_9 rfl (lv_at hl 1 rfl) ?_
    refine lv_aload_n hx hb d_Mo_place_10 rfl (lv_at hl 0 rfl) ?_
    refine va_get (D := D) (ci := 5) (v := .int (nI lc)) (C := "BranchLayoutModel") (T := T_Mo) (N := 17) hx hb hts in_Mo hown hK.1 hP 0 rfl rfl 2 (by decide) (hts _ w_267) (fun _ h9 => h9) rfl d_Mo_place_11 ?_
    refine lv_icmp_ge (tgt := 26) hx hb d_Mo_place_14 (by decide) (fun c_31 => ?_) (fun c_31 => ?_)
    · skip
      refine lv_iconst (v := (-1)) hx hb d_Mo_place_26 (by decide) ?_
      refine zri E d_Mo_place_27 hS (Nat.le_of_ble_eq_true rfl) (Nat.le_of_ble_eq_true rfl) ?_
      exact ⟨_, rfl, by simp [zst, c_31], 0, R, hG, hP, hD⟩
    · skip
      have hz : zst lc x = true := by simp [zst, c_30, c_31]
      obtain ⟨k, hk, ex, ek⟩ := zst_of (by omega) hz
      rw [hz, ek]
      subst ex
      obtain ⟨a1, a2, a3⟩ := hG.2.1 k hk
      refine lv_aload_n hx hb d_Mo_place_17 rfl (lv_at hl 0 rfl) ?_
      refine va_get (D := D) (ci := 5) (v := .ref (q 14)) (C := "BranchLayoutModel") (T := T_Mo) (N := 17) hx hb hts in_Mo hown hK.1 hP 0 rfl rfl 14 (by decide) (hts _ w_279) (fun _ h9 => h9) rfl d_Mo_place_18 ?_
      refine lv_iload_n hx hb d_Mo_place_21 rfl (lv_at hl 1 rfl) ?_
      refine va_iald hx hb hK.1 hP 12 0 rfl rfl (vp_in_nI (show k < 1024 by omega) (by decide)) d_Mo_place_22 ?_
      rw [nI_clamp (show k < 2 ^ 31 by omega)]
      rw [a3]
      refine lv_goto (tgt := 27) hx hb d_Mo_place_23 (by decide) ?_
      refine zri E d_Mo_place_27 hS (Nat.le_of_ble_eq_true rfl) (Nat.le_of_ble_eq_true rfl) ?_
      exact ⟨_, rfl, rfl, 0, R, hG, hP, hD⟩
set_option maxHeartbeats 4000000 in
set_option maxRecDepth 100000 in
theorem t_Mo_size (l : Launch) (D : va_G) (cs : ClassId × ClassId × ClassId × ClassId) (A : Nat → Prop) (q : Nat → Nat) (sc lc : Nat) (c : Nat → Nat → Nat) (gp mo : Nat → Int32) (V : Nat → Nat → Int32) (hI : zI sc lc c gp) (x : Int32) : zMet l D cs y_Mo_size c_Mo_size 2 (some FieldType.int) ({ frames := 0, cells := 0, slots := 0, locals := 0 } : Room) [.ref (q 0), .int x] (zRW D A q cs sc lc c gp mo V) A (zqi fun r H => r = (if zsec x then V 5 x.toNatClampNeg else -1) ∧ zRW D A q cs sc lc c gp mo V H) := by
  refine zmk (by decide) (Nat.le_of_ble_eq_true rfl) ?_
  intro p e s m below meth cd ls E hK hP0 hl
  have hS : va_S A s.heap s.heap [] := va_S.rf
  obtain ⟨th, R, hG, hP, hD⟩ := hP0
  obtain ⟨hx, hb, hr, hts, hown, hlocks, hml, hin⟩ := id E
  have hl : lv_has ls 2 [(0, .ref (q 0)), (1, .int x)] := hl
  refine lv_aload_n hx hb d_Mo_size_0 rfl (lv_at hl 0 rfl) ?_
  refine lv_iconst (v := 0) hx hb d_Mo_size_1 (by decide) ?_
  refine va_put (D := D) (ci := 5) (v := .int 0) (ty := .int) (C := "BranchLayoutModel") (T := T_Mo) (N := 17) hx hb hts in_Mo ty_Mo ok_Mo nm_Mo hown hK.1 hP hD hS 0 rfl rfl 0 (by decide) (hts _ w_265) (fun _ h9 => h9) rfl (by decide +kernel) rfl rfl (Nat.le_of_ble_eq_true rfl) d_Mo_size_2 (fun H locs hP hD hS => ?_)
  have hP : va_P D zcl (zM q cs 0 sc lc R) H := hP
  have hD : va_D A (zM q cs 0 sc lc R) := hD
  refine lv_iload_n hx hb d_Mo_size_5 rfl (lv_at hl 1 rfl) ?_
  refine lv_if_lt (tgt := 23) hx hb d_Mo_size_6 (by decide) (fun c_32 => ?_) (fun c_32 => ?_)
  · skip
    refine lv_iconst (v := (-1)) hx hb d_Mo_size_23 (by decide) ?_
    refine zri E d_Mo_size_24 hS (Nat.le_of_ble_eq_true rfl) (Nat.le_of_ble_eq_true rfl) ?_
    exact ⟨_, rfl, by simp [zsec, c_32], 0, R, hG, hP, hD⟩
  · skip
    refine lv_iload_n hx hb d_Mo_size_9 rfl (lv_at hl 1 rfl) ?_
    refine lv_iconst (v := 4) hx hb d_Mo_size_10 (by decide) ?_
    refine lv_icmp_ge (tgt := 23) hx hb d_Mo_size_11 (by decide) (fun c_33 => ?_) (fun c_33 => ?_)
    · skip
      refine lv_iconst (v := (-1)) hx hb d_Mo_size_23 (by decide) ?_
      refine zri E d_Mo_size_24 hS (Nat.le_of_ble_eq_true rfl) (Nat.le_of_ble_eq_true rfl) ?_
      exact ⟨_, rfl, by simp [zsec, Int32.not_lt.mpr c_33], 0, R, hG, hP, hD⟩
    · skip
      have hz : zsec x = true := by simp [zsec, c_32, Int32.not_le.mp c_33]
      obtain ⟨-, k, hk, ex⟩ := zin (n := 4) (N := 4) (by decide) (by decide) c_32 c_33
      rw [hz]
      subst ex
      rw [nI_clamp (show k < 2 ^ 31 by omega)]
      have a3 := hG.2.2 k hk
      refine lv_aload_n hx hb d_Mo_size_14 rfl (lv_at hl 0 rfl) ?_
      refine va_get (D := D) (ci := 5) (v := .ref (q 15)) (C := "BranchLayoutModel") (T := T_Mo) (N := 17) hx hb hts in_Mo hown hK.1 hP 0 rfl rfl 15 (by decide) (hts _ w_280) (fun _ h9 => h9) rfl d_Mo_size_15 ?_
      refine lv_iload_n hx hb d_Mo_size_18 rfl (lv_at hl 1 rfl) ?_
      refine va_iald hx hb hK.1 hP 13 0 rfl rfl (vp_in_nI (show k < 4 by omega) (by decide)) d_Mo_size_19 ?_
      rw [nI_clamp (show k < 2 ^ 31 by omega)]
      rw [a3]
      refine lv_goto (tgt := 24) hx hb d_Mo_size_20 (by decide) ?_
      refine zri E d_Mo_size_24 hS (Nat.le_of_ble_eq_true rfl) (Nat.le_of_ble_eq_true rfl) ?_
      exact ⟨_, rfl, rfl, 0, R, hG, hP, hD⟩
set_option maxHeartbeats 4000000 in
set_option maxRecDepth 100000 in
theorem t_Mo_go (l : Launch) (D : va_G) (cs : ClassId × ClassId × ClassId × ClassId) (A : Nat → Prop) (q : Nat → Nat) (sc lc : Nat) (c : Nat → Nat → Nat) (gp mo : Nat → Int32) (V : Nat → Nat → Int32) (hI : zI sc lc c gp) (x pl mr : Int32) : zMet l D cs y_Mo_go c_Mo_go 6 (some FieldType.boolean) ({ frames := 0, cells := 0, slots := 0, locals := 0 } : Room) [.ref (q 0), .int x, .int pl, .int mr] (zRW D A q cs sc lc c gp mo V) A (zqi (zgoq sc lc c x pl (zRW D A q cs sc lc c gp mo V) (fun H => zRW D A q cs sc lc c (upd gp x.toNatClampNeg pl) (upd mo x.toNatClampNeg mr) V H))) := by
  refine zmk (by decide) (Nat.le_of_ble_eq_true rfl) ?_
  intro p e s m below meth cd ls E hK hP0 hl
  have hS : va_S A s.heap s.heap [] := va_S.rf
  obtain ⟨th, R, hG, hP, hD⟩ := hP0
  obtain ⟨hx, hb, hr, hts, hown, hlocks, hml, hin⟩ := id E
  have hl : lv_has ls 6 [(0, .ref (q 0)), (1, .int x), (2, .int pl), (3, .int mr)] := hl
  have hsc := hI.1
  have hlc := hI.2.1
  refine lv_aload_n hx hb d_Mo_go_0 rfl (lv_at hl 0 rfl) ?_
  refine lv_iconst (v := 0) hx hb d_Mo_go_1 (by decide) ?_
  refine va_put (D := D) (ci := 5) (v := .int 0) (ty := .int) (C := "BranchLayoutModel") (T := T_Mo) (N := 17) hx hb hts in_Mo ty_Mo ok_Mo nm_Mo hown hK.1 hP hD hS 0 rfl rfl 0 (by decide) (hts _ w_265) (fun _ h9 => h9) rfl (by decide +kernel) rfl rfl (Nat.le_of_ble_eq_true rfl) d_Mo_go_2 (fun H locs hP hD hS => ?_)
  have hP : va_P D zcl (zM q cs 0 sc lc R) H := hP
  have hD : va_D A (zM q cs 0 sc lc R) := hD
  refine lv_iload_n hx hb d_Mo_go_5 rfl (lv_at hl 1 rfl) ?_
  refine lv_if_lt (tgt := 27) hx hb d_Mo_go_6 (by decide) (fun c_34 => ?_) (fun c_34 => ?_)
  · skip
    refine lv_iconst (v := 0) hx hb d_Mo_go_27 (by decide) ?_
    refine zrz E d_Mo_go_28 (by decide) hS (Nat.le_of_ble_eq_true rfl) (Nat.le_of_ble_eq_true rfl) ?_
    exact ⟨_, rfl, Or.inr ⟨fun z => by have z1 := z.1; simp [zst, c_34] at z1, rfl, 0, R, hG, hP, hD⟩⟩
  · skip
    refine lv_iload_n hx hb d_Mo_go_9 rfl (lv_at hl 1 rfl) ?_
    refine lv_aload_n hx hb d_Mo_go_10 rfl (lv_at hl 0 rfl) ?_
    refine va_get (D := D) (ci := 5) (v := .int (nI sc)) (C := "BranchLayoutModel") (T := T_Mo) (N := 17) hx hb hts in_Mo hown hK.1 hP 0 rfl rfl 1 (by decide) (hts _ w_266) (fun _ h9 => h9) rfl d_Mo_go_11 ?_
    refine lv_icmp_ge (tgt := 27) hx hb d_Mo_go_14 (by decide) (fun c_35 => ?_) (fun c_35 => ?_)
    · skip
      refine lv_iconst (v := 0) hx hb d_Mo_go_27 (by decide) ?_
      refine zrz E d_Mo_go_28 (by decide) hS (Nat.le_of_ble_eq_true rfl) (Nat.le_of_ble_eq_true rfl) ?_
      exact ⟨_, rfl, Or.inr ⟨fun z => by have z1 := z.1; simp [zst, c_35] at z1, rfl, 0, R, hG, hP, hD⟩⟩
    · skip
      have hz : zst sc x = true := by simp [zst, c_34, c_35]
      obtain ⟨k, hk, ex, ek⟩ := zst_of (by omega) hz
      subst ex
      obtain ⟨a1, a2, a3, a4, a5, a6, a7, a8, a9⟩ := hG.1 k hk
      obtain ⟨b1, b2, b3, b4, b5, b6⟩ := hI.2.2.1 k hk
      refine lv_aload_n hx hb d_Mo_go_17 rfl (lv_at hl 0 rfl) ?_
      refine va_get (D := D) (ci := 5) (v := .ref (q 3)) (C := "BranchLayoutModel") (T := T_Mo) (N := 17) hx hb hts in_Mo hown hK.1 hP 0 rfl rfl 3 (by decide) (hts _ w_268) (fun _ h9 => h9) rfl d_Mo_go_18 ?_
      refine lv_iload_n hx hb d_Mo_go_21 rfl (lv_at hl 1 rfl) ?_
      refine va_iald hx hb hK.1 hP 1 0 rfl rfl (vp_in_nI (show k < 4096 by omega) (by decide)) d_Mo_go_22 ?_
      rw [nI_clamp (show k < 2 ^ 31 by omega)]
      rw [a1]
      refine lv_iconst (v := 2) hx hb d_Mo_go_23 (by decide) ?_
      have e2 : (2 : Int32) = nI 2 := by decide
      rw [e2]
      refine lv_icmp_eq (tgt := 29) hx hb d_Mo_go_24 (by decide) (fun c_36 => ?_) (fun c_36 => ?_)
      · skip
        have hk2 : c 0 k = 2 := (nI_eq (by omega) (by decide)).mp c_36
        refine lv_bipush (v := (-2)) hx hb d_Mo_go_29 (by decide) ?_
        refine lv_iload_n hx hb d_Mo_go_31 rfl (lv_at hl 2 rfl) ?_
        refine lv_isub hx hb d_Mo_go_32 ?_
        refine lv_istore (lv' := [(4, .int ((-2) - pl)), (0, .ref (q 0)), (1, .int (nI k)), (2, .int pl), (3, .int mr)]) hx hb d_Mo_go_33 hl (by decide) rfl (fun ls hl => ?_)
        refine lv_iload_n hx hb d_Mo_go_35 rfl (lv_at hl 3 rfl) ?_
        refine lv_if_lt (tgt := 70) hx hb d_Mo_go_36 (by decide) (fun c_37 => ?_) (fun c_37 => ?_)
        · skip
          refine lv_iload_n hx hb d_Mo_go_70 rfl (lv_at hl 3 rfl) ?_
          refine lv_iconst (v := (-1)) hx hb d_Mo_go_71 (by decide) ?_
          refine lv_icmp_ge (tgt := 109) hx hb d_Mo_go_72 (by decide) (fun c_38 => ?_) (fun c_38 => ?_)
          · skip
            have em1 : pl = -1 := by
              have e0 : (0 : Int32).toInt = 0 := by decide
              have e1 : (-1 : Int32).toInt = -1 := by decide
              have n0 : pl.toInt < 0 := by rw [← e0]; exact Int32.lt_iff_toInt_lt.mp c_37
              have n1 : -1 ≤ pl.toInt := by rw [← e1]; exact Int32.le_iff_toInt_le.mp c_38
              exact Int32.toInt_inj.mp (by rw [e1]; omega)
            have ezp : zpse sc lc c pl = none := by rw [em1]; simp [zpse, zst]
            refine lv_iconst (v := 0) hx hb d_Mo_go_109 (by decide) ?_
            refine lv_istore (lv' := [(5, .int 0), (4, .int ((-2) - pl)), (0, .ref (q 0)), (1, .int (nI k)), (2, .int pl), (3, .int mr)]) hx hb d_Mo_go_110 hl (by decide) rfl (fun ls hl => ?_)
            refine lv_iload hx hb d_Mo_go_112 (lv_at hl 0 rfl) ?_
            refine lv_if_ne (tgt := 119) hx hb d_Mo_go_114 (by decide) (fun c_39 => ?_) (fun c_39 => ?_)
            · skip
              exact absurd rfl c_39
            · skip
              refine lv_iconst (v := 0) hx hb d_Mo_go_117 (by decide) ?_
              refine zrz E d_Mo_go_118 (by decide) hS (Nat.le_of_ble_eq_true rfl) (Nat.le_of_ble_eq_true rfl) ?_
              exact ⟨_, rfl, Or.inr ⟨fun z => (by have z1 := z.2.2; rw [ezp] at z1; cases z1), rfl, 0, R, hG, hP, hD⟩⟩
          · skip
            refine lv_iload hx hb d_Mo_go_75 (lv_at hl 0 rfl) ?_
            refine lv_if_lt (tgt := 109) hx hb d_Mo_go_77 (by decide) (fun c_40 => ?_) (fun c_40 => ?_)
            · skip
              refine lv_iconst (v := 0) hx hb d_Mo_go_109 (by decide) ?_
              refine lv_istore (lv' := [(5, .int 0), (4, .int ((-2) - pl)), (0, .ref (q 0)), (1, .int (nI k)), (2, .int pl), (3, .int mr)]) hx hb d_Mo_go_110 hl (by decide) rfl (fun ls hl => ?_)
              refine lv_iload hx hb d_Mo_go_112 (lv_at hl 0 rfl) ?_
              refine lv_if_ne (tgt := 119) hx hb d_Mo_go_114 (by decide) (fun c_41 => ?_) (fun c_41 => ?_)
              · skip
                exact absurd rfl c_41
              · skip
                refine lv_iconst (v := 0) hx hb d_Mo_go_117 (by decide) ?_
                refine zrz E d_Mo_go_118 (by decide) hS (Nat.le_of_ble_eq_true rfl) (Nat.le_of_ble_eq_true rfl) ?_
                exact ⟨_, rfl, Or.inr ⟨fun z => by have z1 := z.2.2; simp [zpse, c_37, zst, c_40] at z1, rfl, 0, R, hG, hP, hD⟩⟩
            · skip
              refine lv_iload hx hb d_Mo_go_80 (lv_at hl 0 rfl) ?_
              refine lv_aload_n hx hb d_Mo_go_82 rfl (lv_at hl 1 rfl) ?_
              refine va_get (D := D) (ci := 5) (v := .int (nI sc)) (C := "BranchLayoutModel") (T := T_Mo) (N := 17) hx hb hts in_Mo hown hK.1 hP 0 rfl rfl 1 (by decide) (hts _ w_266) (fun _ h9 => h9) rfl d_Mo_go_83 ?_
              refine lv_icmp_ge (tgt := 109) hx hb d_Mo_go_86 (by decide) (fun c_42 => ?_) (fun c_42 => ?_)
              · skip
                refine lv_iconst (v := 0) hx hb d_Mo_go_109 (by decide) ?_
                refine lv_istore (lv' := [(5, .int 0), (4, .int ((-2) - pl)), (0, .ref (q 0)), (1, .int (nI k)), (2, .int pl), (3, .int mr)]) hx hb d_Mo_go_110 hl (by decide) rfl (fun ls hl => ?_)
                refine lv_iload hx hb d_Mo_go_112 (lv_at hl 0 rfl) ?_
                refine lv_if_ne (tgt := 119) hx hb d_Mo_go_114 (by decide) (fun c_43 => ?_) (fun c_43 => ?_)
                · skip
                  exact absurd rfl c_43
                · skip
                  refine lv_iconst (v := 0) hx hb d_Mo_go_117 (by decide) ?_
                  refine zrz E d_Mo_go_118 (by decide) hS (Nat.le_of_ble_eq_true rfl) (Nat.le_of_ble_eq_true rfl) ?_
                  exact ⟨_, rfl, Or.inr ⟨fun z => by have z1 := z.2.2; simp [zpse, c_37, zst, c_42] at z1, rfl, 0, R, hG, hP, hD⟩⟩
              · skip
                have hz2 : zst sc (-2 - pl) = true := by simp [zst, c_40, c_42]
                obtain ⟨i, hi, ei, ei2⟩ := zst_of (by omega) hz2
                have ezp : zpse sc lc c pl = some (c 1 i) := by simp [zpse, c_37, hz2, ei2]
                obtain ⟨d1, d2, d3, d4, d5, d6, d7, d8, d9⟩ := hG.1 i hi
                have f2 := (hI.2.2.1 i hi).2.1
                rw [ei] at hl
                refine lv_aload_n hx hb d_Mo_go_89 rfl (lv_at hl 1 rfl) ?_
                refine va_get (D := D) (ci := 5) (v := .ref (q 4)) (C := "BranchLayoutModel") (T := T_Mo) (N := 17) hx hb hts in_Mo hown hK.1 hP 0 rfl rfl 4 (by decide) (hts _ w_269) (fun _ h9 => h9) rfl d_Mo_go_90 ?_
                refine lv_iload hx hb d_Mo_go_93 (lv_at hl 0 rfl) ?_
                refine va_iald hx hb hK.1 hP 2 0 rfl rfl (vp_in_nI (show i < 4096 by omega) (by decide)) d_Mo_go_95 ?_
                rw [nI_clamp (show i < 2 ^ 31 by omega)]
                rw [d2]
                refine lv_aload_n hx hb d_Mo_go_96 rfl (lv_at hl 1 rfl) ?_
                refine va_get (D := D) (ci := 5) (v := .ref (q 4)) (C := "BranchLayoutModel") (T := T_Mo) (N := 17) hx hb hts in_Mo hown hK.1 hP 0 rfl rfl 4 (by decide) (hts _ w_269) (fun _ h9 => h9) rfl d_Mo_go_97 ?_
                refine lv_iload_n hx hb d_Mo_go_100 rfl (lv_at hl 2 rfl) ?_
                refine va_iald hx hb hK.1 hP 2 0 rfl rfl (vp_in_nI (show k < 4096 by omega) (by decide)) d_Mo_go_101 ?_
                rw [nI_clamp (show k < 2 ^ 31 by omega)]
                rw [a2]
                refine lv_icmp_ne (tgt := 109) hx hb d_Mo_go_102 (by decide) (fun c_44 => ?_) (fun c_44 => ?_)
                · skip
                  refine lv_iconst (v := 0) hx hb d_Mo_go_109 (by decide) ?_
                  refine lv_istore (lv' := [(5, .int 0), (4, .int (nI i)), (0, .ref (q 0)), (1, .int (nI k)), (2, .int pl), (3, .int mr)]) hx hb d_Mo_go_110 hl (by decide) rfl (fun ls hl => ?_)
                  refine lv_iload hx hb d_Mo_go_112 (lv_at hl 0 rfl) ?_
                  refine lv_if_ne (tgt := 119) hx hb d_Mo_go_114 (by decide) (fun c_45 => ?_) (fun c_45 => ?_)
                  · skip
                    exact absurd rfl c_45
                  · skip
                    refine lv_iconst (v := 0) hx hb d_Mo_go_117 (by decide) ?_
                    refine zrz E d_Mo_go_118 (by decide) hS (Nat.le_of_ble_eq_true rfl) (Nat.le_of_ble_eq_true rfl) ?_
                    exact ⟨_, rfl, Or.inr ⟨fun z => by have z1 := z.2.2; rw [ezp, ek] at z1; exact c_44 (by rw [Option.some.inj z1]), rfl, 0, R, hG, hP, hD⟩⟩
                · skip
                  refine lv_iconst (v := 1) hx hb d_Mo_go_105 (by decide) ?_
                  refine lv_goto (tgt := 110) hx hb d_Mo_go_106 (by decide) ?_
                  refine lv_istore (lv' := [(5, .int 1), (4, .int (nI i)), (0, .ref (q 0)), (1, .int (nI k)), (2, .int pl), (3, .int mr)]) hx hb d_Mo_go_110 hl (by decide) rfl (fun ls hl => ?_)
                  refine lv_iload hx hb d_Mo_go_112 (lv_at hl 0 rfl) ?_
                  refine lv_if_ne (tgt := 119) hx hb d_Mo_go_114 (by decide) (fun c_46 => ?_) (fun c_46 => ?_)
                  · skip
                    refine lv_aload_n hx hb d_Mo_go_119 rfl (lv_at hl 2 rfl) ?_
                    refine va_get (D := D) (ci := 5) (v := .ref (q 6)) (C := "BranchLayoutModel") (T := T_Mo) (N := 17) hx hb hts in_Mo hown hK.1 hP 0 rfl rfl 6 (by decide) (hts _ w_271) (fun _ h9 => h9) rfl d_Mo_go_120 ?_
                    refine lv_iload_n hx hb d_Mo_go_123 rfl (lv_at hl 3 rfl) ?_
                    refine lv_iload_n hx hb d_Mo_go_124 rfl (lv_at hl 4 rfl) ?_
                    refine va_iast hx hb hK.1 hP hD hS 4 0 rfl rfl (vp_in_nI (show k < 4096 by omega) (by decide)) d_Mo_go_125 (fun H locs hP hD hS => ?_)
                    rw [nI_clamp (show k < 2 ^ 31 by omega), zm_set_6] at hP hD
                    refine lv_aload_n hx hb d_Mo_go_126 rfl (lv_at hl 2 rfl) ?_
                    refine va_get (D := D) (ci := 5) (v := .ref (q 7)) (C := "BranchLayoutModel") (T := T_Mo) (N := 17) hx hb hts in_Mo hown hK.1 hP 0 rfl rfl 7 (by decide) (hts _ w_272) (fun _ h9 => h9) rfl d_Mo_go_127 ?_
                    refine lv_iload_n hx hb d_Mo_go_130 rfl (lv_at hl 3 rfl) ?_
                    refine lv_iload_n hx hb d_Mo_go_131 rfl (lv_at hl 5 rfl) ?_
                    refine va_iast hx hb hK.1 hP hD hS 5 0 rfl rfl (vp_in_nI (show k < 4096 by omega) (by decide)) d_Mo_go_132 (fun H locs hP hD hS => ?_)
                    rw [nI_clamp (show k < 2 ^ 31 by omega), zm_set_7] at hP hD
                    refine lv_iconst (v := 1) hx hb d_Mo_go_133 (by decide) ?_
                    refine zrz E d_Mo_go_134 (by decide) hS (Nat.le_of_ble_eq_true rfl) (Nat.le_of_ble_eq_true rfl) ?_
                    refine ⟨_, rfl, Or.inl ⟨⟨hz, by rw [ek]; exact hk2, by rw [ek]; exact (by rw [ezp, (nI_eq (by omega) (by omega)).mp c_44])⟩, rfl, 0, _, ?_, hP, hD⟩⟩
                    exact zAg_go hG
                  · skip
                    exact absurd c_46 (by decide)
        · skip
          refine lv_iload_n hx hb d_Mo_go_39 rfl (lv_at hl 3 rfl) ?_
          refine lv_aload_n hx hb d_Mo_go_40 rfl (lv_at hl 1 rfl) ?_
          refine va_get (D := D) (ci := 5) (v := .int (nI lc)) (C := "BranchLayoutModel") (T := T_Mo) (N := 17) hx hb hts in_Mo hown hK.1 hP 0 rfl rfl 2 (by decide) (hts _ w_267) (fun _ h9 => h9) rfl d_Mo_go_41 ?_
          refine lv_icmp_ge (tgt := 66) hx hb d_Mo_go_44 (by decide) (fun c_47 => ?_) (fun c_47 => ?_)
          · skip
            refine lv_iconst (v := 0) hx hb d_Mo_go_66 (by decide) ?_
            refine lv_goto (tgt := 110) hx hb d_Mo_go_67 (by decide) ?_
            refine lv_istore (lv' := [(5, .int 0), (4, .int ((-2) - pl)), (0, .ref (q 0)), (1, .int (nI k)), (2, .int pl), (3, .int mr)]) hx hb d_Mo_go_110 hl (by decide) rfl (fun ls hl => ?_)
            refine lv_iload hx hb d_Mo_go_112 (lv_at hl 0 rfl) ?_
            refine lv_if_ne (tgt := 119) hx hb d_Mo_go_114 (by decide) (fun c_48 => ?_) (fun c_48 => ?_)
            · skip
              exact absurd rfl c_48
            · skip
              refine lv_iconst (v := 0) hx hb d_Mo_go_117 (by decide) ?_
              refine zrz E d_Mo_go_118 (by decide) hS (Nat.le_of_ble_eq_true rfl) (Nat.le_of_ble_eq_true rfl) ?_
              exact ⟨_, rfl, Or.inr ⟨fun z => by have z1 := z.2.2; simp [zpse, c_37, zst, c_47] at z1, rfl, 0, R, hG, hP, hD⟩⟩
          · skip
            have hz2 : zst lc pl = true := by simp [zst, c_37, c_47]
            obtain ⟨j, hj, ej, ej2⟩ := zst_of (by omega) hz2
            have ezp : zpse sc lc c pl = some (c 3 j) := by simp [zpse, c_37, hz2, ej2]
            obtain ⟨d1, d2, d3⟩ := hG.2.1 j hj
            have f2 := (hI.2.2.2.1 j hj).1
            refine lv_aload_n hx hb d_Mo_go_47 rfl (lv_at hl 1 rfl) ?_
            refine va_get (D := D) (ci := 5) (v := .ref (q 8)) (C := "BranchLayoutModel") (T := T_Mo) (N := 17) hx hb hts in_Mo hown hK.1 hP 0 rfl rfl 8 (by decide) (hts _ w_273) (fun _ h9 => h9) rfl d_Mo_go_48 ?_
            refine lv_iload_n hx hb d_Mo_go_51 rfl (lv_at hl 3 rfl) ?_
            refine va_iald hx hb hK.1 hP 6 0 rfl rfl (by rw [ej]; exact vp_in_nI (show j < 1024 by omega) (by decide)) d_Mo_go_52 ?_
            rw [ej2, d1]
            refine lv_aload_n hx hb d_Mo_go_53 rfl (lv_at hl 1 rfl) ?_
            refine va_get (D := D) (ci := 5) (v := .ref (q 4)) (C := "BranchLayoutModel") (T := T_Mo) (N := 17) hx hb hts in_Mo hown hK.1 hP 0 rfl rfl 4 (by decide) (hts _ w_269) (fun _ h9 => h9) rfl d_Mo_go_54 ?_
            refine lv_iload_n hx hb d_Mo_go_57 rfl (lv_at hl 2 rfl) ?_
            refine va_iald hx hb hK.1 hP 2 0 rfl rfl (vp_in_nI (show k < 4096 by omega) (by decide)) d_Mo_go_58 ?_
            rw [nI_clamp (show k < 2 ^ 31 by omega)]
            rw [a2]
            refine lv_icmp_ne (tgt := 66) hx hb d_Mo_go_59 (by decide) (fun c_49 => ?_) (fun c_49 => ?_)
            · skip
              refine lv_iconst (v := 0) hx hb d_Mo_go_66 (by decide) ?_
              refine lv_goto (tgt := 110) hx hb d_Mo_go_67 (by decide) ?_
              refine lv_istore (lv' := [(5, .int 0), (4, .int ((-2) - pl)), (0, .ref (q 0)), (1, .int (nI k)), (2, .int pl), (3, .int mr)]) hx hb d_Mo_go_110 hl (by decide) rfl (fun ls hl => ?_)
              refine lv_iload hx hb d_Mo_go_112 (lv_at hl 0 rfl) ?_
              refine lv_if_ne (tgt := 119) hx hb d_Mo_go_114 (by decide) (fun c_50 => ?_) (fun c_50 => ?_)
              · skip
                exact absurd rfl c_50
              · skip
                refine lv_iconst (v := 0) hx hb d_Mo_go_117 (by decide) ?_
                refine zrz E d_Mo_go_118 (by decide) hS (Nat.le_of_ble_eq_true rfl) (Nat.le_of_ble_eq_true rfl) ?_
                exact ⟨_, rfl, Or.inr ⟨fun z => by have z1 := z.2.2; rw [ezp, ek] at z1; exact c_49 (by rw [Option.some.inj z1]), rfl, 0, R, hG, hP, hD⟩⟩
            · skip
              refine lv_iconst (v := 1) hx hb d_Mo_go_62 (by decide) ?_
              refine lv_goto (tgt := 110) hx hb d_Mo_go_63 (by decide) ?_
              refine lv_istore (lv' := [(5, .int 1), (4, .int ((-2) - pl)), (0, .ref (q 0)), (1, .int (nI k)), (2, .int pl), (3, .int mr)]) hx hb d_Mo_go_110 hl (by decide) rfl (fun ls hl => ?_)
              refine lv_iload hx hb d_Mo_go_112 (lv_at hl 0 rfl) ?_
              refine lv_if_ne (tgt := 119) hx hb d_Mo_go_114 (by decide) (fun c_51 => ?_) (fun c_51 => ?_)
              · skip
                refine lv_aload_n hx hb d_Mo_go_119 rfl (lv_at hl 2 rfl) ?_
                refine va_get (D := D) (ci := 5) (v := .ref (q 6)) (C := "BranchLayoutModel") (T := T_Mo) (N := 17) hx hb hts in_Mo hown hK.1 hP 0 rfl rfl 6 (by decide) (hts _ w_271) (fun _ h9 => h9) rfl d_Mo_go_120 ?_
                refine lv_iload_n hx hb d_Mo_go_123 rfl (lv_at hl 3 rfl) ?_
                refine lv_iload_n hx hb d_Mo_go_124 rfl (lv_at hl 4 rfl) ?_
                refine va_iast hx hb hK.1 hP hD hS 4 0 rfl rfl (vp_in_nI (show k < 4096 by omega) (by decide)) d_Mo_go_125 (fun H locs hP hD hS => ?_)
                rw [nI_clamp (show k < 2 ^ 31 by omega), zm_set_6] at hP hD
                refine lv_aload_n hx hb d_Mo_go_126 rfl (lv_at hl 2 rfl) ?_
                refine va_get (D := D) (ci := 5) (v := .ref (q 7)) (C := "BranchLayoutModel") (T := T_Mo) (N := 17) hx hb hts in_Mo hown hK.1 hP 0 rfl rfl 7 (by decide) (hts _ w_272) (fun _ h9 => h9) rfl d_Mo_go_127 ?_
                refine lv_iload_n hx hb d_Mo_go_130 rfl (lv_at hl 3 rfl) ?_
                refine lv_iload_n hx hb d_Mo_go_131 rfl (lv_at hl 5 rfl) ?_
                refine va_iast hx hb hK.1 hP hD hS 5 0 rfl rfl (vp_in_nI (show k < 4096 by omega) (by decide)) d_Mo_go_132 (fun H locs hP hD hS => ?_)
                rw [nI_clamp (show k < 2 ^ 31 by omega), zm_set_7] at hP hD
                refine lv_iconst (v := 1) hx hb d_Mo_go_133 (by decide) ?_
                refine zrz E d_Mo_go_134 (by decide) hS (Nat.le_of_ble_eq_true rfl) (Nat.le_of_ble_eq_true rfl) ?_
                refine ⟨_, rfl, Or.inl ⟨⟨hz, by rw [ek]; exact hk2, by rw [ek]; exact (by rw [ezp, (nI_eq (by omega) (by omega)).mp c_49])⟩, rfl, 0, _, ?_, hP, hD⟩⟩
                exact zAg_go hG
              · skip
                exact absurd c_51 (by decide)
      · skip
        refine lv_iconst (v := 0) hx hb d_Mo_go_27 (by decide) ?_
        refine zrz E d_Mo_go_28 (by decide) hS (Nat.le_of_ble_eq_true rfl) (Nat.le_of_ble_eq_true rfl) ?_
        exact ⟨_, rfl, Or.inr ⟨fun z => by have z1 := z.2.1; rw [ek] at z1; exact c_36 (by rw [z1]), rfl, 0, R, hG, hP, hD⟩⟩
end
section
def zVR (R : Nat → Nat → Int32) : Nat → Nat → Int32 := fun f i => if f = 0 then R 11 i else if f = 1 then R 12 i else if f = 2 then R 16 i else if f = 3 then R 13 i else if f = 4 then R 14 i else R 15 i
/-- section t's walk, after k statements and p labels -/
def zWs (c : Nat → Nat → Nat) (br : Nat → Bool) (R : Nat → Nat → Int32) (t k p : Nat) : Nat → Nat → Int32 := fun f i =>
  if f = 11 ∧ i < k ∧ c 1 i = t then nI (zSZ c br i t) else if f = 12 ∧ i < k ∧ c 1 i = t then nI (zln c br i (zSZ c br i t)) else if f = 14 ∧ i < p ∧ c 3 i = t then nI (zSZ c br (c 4 i) t) else R f i
section ZWS
variable {c : Nat → Nat → Nat} {br : Nat → Bool} {R : Nat → Nat → Int32} {t k p : Nat}
theorem zWs_0 : R = zWs c br R t 0 0 := by
  funext f i
  simp [zWs]
theorem zWs_o {f i : Nat} (h1 : f ≠ 11) (h2 : f ≠ 12) (h3 : f ≠ 14) : zWs c br R t k p f i = R f i := by simp [zWs, h1, h2, h3]
theorem zWs_l (h4 : c 4 p = k) (h3 : c 3 p = t) : zu (zWs c br R t k p) 14 p (nI (zSZ c br k t)) = zWs c br R t k (p + 1) := by
  funext f i
  by_cases hf : f = 14
  · subst hf
    by_cases hi : i = p
    · subst hi; simp [zu, zWs, h3, h4]
    · have : (i < p + 1) = (i < p) := by apply propext; omega
      simp [zu, zWs, hi, this]
  · simp [zu, zWs, hf]
theorem zWs_n (h3 : ¬ c 3 p = t) : zWs c br R t k p = zWs c br R t k (p + 1) := by
  funext f i
  by_cases hi : i = p
  · subst hi; simp [zWs, h3]
  · have : (i < p + 1) = (i < p) := by apply propext; omega
    simp [zWs, this]
theorem zWs_s (h1 : c 1 k = t) : zu (zu (zWs c br R t k p) 11 k (nI (zSZ c br k t))) 12 k (nI (zln c br k (zSZ c br k t))) = zWs c br R t (k + 1) p := by
  funext f i
  by_cases hi : i = k
  · subst hi
    by_cases f1 : f = 11
    · subst f1; simp [zu, zWs, h1]
    · by_cases f2 : f = 12
      · subst f2; simp [zu, zWs, h1]
      · simp [zu, zWs, f1, f2]
  · have : (i < k + 1) = (i < k) := by apply propext; omega
    simp [zu, zWs, hi, this]
theorem zWs_k (h1 : ¬ c 1 k = t) : zWs c br R t k p = zWs c br R t (k + 1) p := by
  funext f i
  by_cases hi : i = k
  · subst hi; simp [zWs, h1]
  · have : (i < k + 1) = (i < k) := by apply propext; omega
    simp [zWs, this]
end ZWS
set_option maxHeartbeats 4000000 in
set_option maxRecDepth 100000 in
theorem t_Mo_distance (l : Launch) (D : va_G) (cs : ClassId × ClassId × ClassId × ClassId) (A : Nat → Prop) (q : Nat → Nat) (th : Int32) (sc lc : Nat) (R : Nat → Nat → Int32) (hsc : sc ≤ 4096) (hlc : lc ≤ 1024) (k : Nat) (hk : k < sc) (hv : zvalid sc lc (R 6 k)) (hn : ¬ R 6 k = -1) (H1 : Heap) (hw : zH D A (zM q cs th sc lc R) H1) : zMet l D cs y_Mo_distance c_Mo_distance 4 (some FieldType.long) ({ frames := 0, cells := 0, slots := 0, locals := 0 } : Room) [.ref (q 0), .int (nI k)] (fun H => H = H1) (fun _ => False) (zql fun r H => H = H1 ∧ r = zdi (R 6) (R 7) (zVR R) k) := by
  refine zmk (by decide) (Nat.le_of_ble_eq_true rfl) ?_
  intro p e s m below meth cd ls E hK hP0 hl
  have hS : va_S (fun _ => False) s.heap s.heap [] := va_S.rf
  subst hP0
  have hP := hw.1
  obtain ⟨hx, hb, hr, hts, hown, hlocks, hml, hin⟩ := id E
  have hl : lv_has ls 4 [(0, .ref (q 0)), (1, .int (nI k))] := hl
  rcases hv with h | ⟨j, hj, eg⟩ | ⟨i, hi, eg⟩
  · skip
    exact absurd h hn
  · skip
    have h0 := nI_pos (n := j) (by omega)
    have h1 := nI_clamp (n := j) (by omega)
    refine lv_aload_n hx hb d_Mo_distance_0 rfl (lv_at hl 0 rfl) ?_
    refine va_get (D := D) (ci := 5) (v := .ref (q 6)) (C := "BranchLayoutModel") (T := T_Mo) (N := 17) hx hb hts in_Mo hown hK.1 hP 0 rfl rfl 6 (by decide) (hts _ w_271) (fun _ h9 => h9) rfl d_Mo_distance_1 ?_
    refine lv_iload_n hx hb d_Mo_distance_4 rfl (lv_at hl 1 rfl) ?_
    refine va_iald hx hb hK.1 hP 4 0 rfl rfl (vp_in_nI (show k < 4096 by omega) (by decide)) d_Mo_distance_5 ?_
    rw [nI_clamp (show k < 2 ^ 31 by omega)]
    rw [eg]
    refine lv_if_lt (tgt := 24) hx hb d_Mo_distance_6 (by decide) (fun c_4 => ?_) (fun c_4 => ?_)
    · skip
      exact absurd c_4 h0
    · skip
      refine lv_aload_n hx hb d_Mo_distance_9 rfl (lv_at hl 0 rfl) ?_
      refine va_get (D := D) (ci := 5) (v := .ref (q 14)) (C := "BranchLayoutModel") (T := T_Mo) (N := 17) hx hb hts in_Mo hown hK.1 hP 0 rfl rfl 14 (by decide) (hts _ w_279) (fun _ h9 => h9) rfl d_Mo_distance_10 ?_
      refine lv_aload_n hx hb d_Mo_distance_13 rfl (lv_at hl 0 rfl) ?_
      refine va_get (D := D) (ci := 5) (v := .ref (q 6)) (C := "BranchLayoutModel") (T := T_Mo) (N := 17) hx hb hts in_Mo hown hK.1 hP 0 rfl rfl 6 (by decide) (hts _ w_271) (fun _ h9 => h9) rfl d_Mo_distance_14 ?_
      refine lv_iload_n hx hb d_Mo_distance_17 rfl (lv_at hl 1 rfl) ?_
      refine va_iald hx hb hK.1 hP 4 0 rfl rfl (vp_in_nI (show k < 4096 by omega) (by decide)) d_Mo_distance_18 ?_
      rw [nI_clamp (show k < 2 ^ 31 by omega)]
      rw [eg]
      refine va_iald hx hb hK.1 hP 12 0 rfl rfl (vp_in_nI (show j < 1024 by omega) (by decide)) d_Mo_distance_19 ?_
      rw [nI_clamp (show j < 2 ^ 31 by omega)]
      refine lv_i2l hx hb d_Mo_distance_20 rfl ?_
      refine lv_goto (tgt := 39) hx hb d_Mo_distance_21 (by decide) ?_
      refine lv_lstore_n (lv' := [(2, .long ((R 14 j).toInt64)), (0, .ref (q 0)), (1, .int (nI k))]) hx hb d_Mo_distance_39 rfl hl (by decide) rfl (fun ls hl => ?_)
      refine lv_lload_n hx hb d_Mo_distance_40 rfl (lv_at hl 0 rfl) ?_
      refine lv_aload_n hx hb d_Mo_distance_41 rfl (lv_at hl 1 rfl) ?_
      refine va_get (D := D) (ci := 5) (v := .ref (q 7)) (C := "BranchLayoutModel") (T := T_Mo) (N := 17) hx hb hts in_Mo hown hK.1 hP 0 rfl rfl 7 (by decide) (hts _ w_272) (fun _ h9 => h9) rfl d_Mo_distance_42 ?_
      refine lv_iload_n hx hb d_Mo_distance_45 rfl (lv_at hl 2 rfl) ?_
      refine va_iald hx hb hK.1 hP 5 0 rfl rfl (vp_in_nI (show k < 4096 by omega) (by decide)) d_Mo_distance_46 ?_
      rw [nI_clamp (show k < 2 ^ 31 by omega)]
      refine lv_i2l hx hb d_Mo_distance_47 rfl ?_
      refine lv_ladd hx hb d_Mo_distance_48 ?_
      refine lv_aload_n hx hb d_Mo_distance_49 rfl (lv_at hl 1 rfl) ?_
      refine va_get (D := D) (ci := 5) (v := .ref (q 11)) (C := "BranchLayoutModel") (T := T_Mo) (N := 17) hx hb hts in_Mo hown hK.1 hP 0 rfl rfl 11 (by decide) (hts _ w_276) (fun _ h9 => h9) rfl d_Mo_distance_50 ?_
      refine lv_iload_n hx hb d_Mo_distance_53 rfl (lv_at hl 2 rfl) ?_
      refine va_iald hx hb hK.1 hP 9 0 rfl rfl (vp_in_nI (show k < 4096 by omega) (by decide)) d_Mo_distance_54 ?_
      rw [nI_clamp (show k < 2 ^ 31 by omega)]
      refine lv_aload_n hx hb d_Mo_distance_55 rfl (lv_at hl 1 rfl) ?_
      refine va_get (D := D) (ci := 5) (v := .ref (q 12)) (C := "BranchLayoutModel") (T := T_Mo) (N := 17) hx hb hts in_Mo hown hK.1 hP 0 rfl rfl 12 (by decide) (hts _ w_277) (fun _ h9 => h9) rfl d_Mo_distance_56 ?_
      refine lv_iload_n hx hb d_Mo_distance_59 rfl (lv_at hl 2 rfl) ?_
      refine va_iald hx hb hK.1 hP 10 0 rfl rfl (vp_in_nI (show k < 4096 by omega) (by decide)) d_Mo_distance_60 ?_
      rw [nI_clamp (show k < 2 ^ 31 by omega)]
      refine lv_iadd hx hb d_Mo_distance_61 ?_
      refine lv_i2l hx hb d_Mo_distance_62 rfl ?_
      refine lv_lsub hx hb d_Mo_distance_63 ?_
      refine zrl E d_Mo_distance_64 hS (Nat.le_of_ble_eq_true rfl) (Nat.le_of_ble_eq_true rfl) ?_
      exact ⟨_, rfl, rfl, by simp only [zdi, zgat, eg, h0, if_false, h1]; simp [zVR]⟩
  · skip
    obtain ⟨e1, e2, e3⟩ := zm2 (i := i) (by omega)
    have h1 := nI_clamp (n := i) (by omega)
    refine lv_aload_n hx hb d_Mo_distance_0 rfl (lv_at hl 0 rfl) ?_
    refine va_get (D := D) (ci := 5) (v := .ref (q 6)) (C := "BranchLayoutModel") (T := T_Mo) (N := 17) hx hb hts in_Mo hown hK.1 hP 0 rfl rfl 6 (by decide) (hts _ w_271) (fun _ h9 => h9) rfl d_Mo_distance_1 ?_
    refine lv_iload_n hx hb d_Mo_distance_4 rfl (lv_at hl 1 rfl) ?_
    refine va_iald hx hb hK.1 hP 4 0 rfl rfl (vp_in_nI (show k < 4096 by omega) (by decide)) d_Mo_distance_5 ?_
    rw [nI_clamp (show k < 2 ^ 31 by omega)]
    rw [eg]
    refine lv_if_lt (tgt := 24) hx hb d_Mo_distance_6 (by decide) (fun c_5 => ?_) (fun c_5 => ?_)
    · skip
      refine lv_aload_n hx hb d_Mo_distance_24 rfl (lv_at hl 0 rfl) ?_
      refine va_get (D := D) (ci := 5) (v := .ref (q 11)) (C := "BranchLayoutModel") (T := T_Mo) (N := 17) hx hb hts in_Mo hown hK.1 hP 0 rfl rfl 11 (by decide) (hts _ w_276) (fun _ h9 => h9) rfl d_Mo_distance_25 ?_
      refine lv_bipush (v := (-2)) hx hb d_Mo_distance_28 (by decide) ?_
      refine lv_aload_n hx hb d_Mo_distance_30 rfl (lv_at hl 0 rfl) ?_
      refine va_get (D := D) (ci := 5) (v := .ref (q 6)) (C := "BranchLayoutModel") (T := T_Mo) (N := 17) hx hb hts in_Mo hown hK.1 hP 0 rfl rfl 6 (by decide) (hts _ w_271) (fun _ h9 => h9) rfl d_Mo_distance_31 ?_
      refine lv_iload_n hx hb d_Mo_distance_34 rfl (lv_at hl 1 rfl) ?_
      refine va_iald hx hb hK.1 hP 4 0 rfl rfl (vp_in_nI (show k < 4096 by omega) (by decide)) d_Mo_distance_35 ?_
      rw [nI_clamp (show k < 2 ^ 31 by omega)]
      rw [eg]
      refine lv_isub hx hb d_Mo_distance_36 ?_
      rw [e1]
      refine va_iald hx hb hK.1 hP 9 0 rfl rfl (vp_in_nI (show i < 4096 by omega) (by decide)) d_Mo_distance_37 ?_
      rw [nI_clamp (show i < 2 ^ 31 by omega)]
      refine lv_i2l hx hb d_Mo_distance_38 rfl ?_
      refine lv_lstore_n (lv' := [(2, .long ((R 11 i).toInt64)), (0, .ref (q 0)), (1, .int (nI k))]) hx hb d_Mo_distance_39 rfl hl (by decide) rfl (fun ls hl => ?_)
      refine lv_lload_n hx hb d_Mo_distance_40 rfl (lv_at hl 0 rfl) ?_
      refine lv_aload_n hx hb d_Mo_distance_41 rfl (lv_at hl 1 rfl) ?_
      refine va_get (D := D) (ci := 5) (v := .ref (q 7)) (C := "BranchLayoutModel") (T := T_Mo) (N := 17) hx hb hts in_Mo hown hK.1 hP 0 rfl rfl 7 (by decide) (hts _ w_272) (fun _ h9 => h9) rfl d_Mo_distance_42 ?_
      refine lv_iload_n hx hb d_Mo_distance_45 rfl (lv_at hl 2 rfl) ?_
      refine va_iald hx hb hK.1 hP 5 0 rfl rfl (vp_in_nI (show k < 4096 by omega) (by decide)) d_Mo_distance_46 ?_
      rw [nI_clamp (show k < 2 ^ 31 by omega)]
      refine lv_i2l hx hb d_Mo_distance_47 rfl ?_
      refine lv_ladd hx hb d_Mo_distance_48 ?_
      refine lv_aload_n hx hb d_Mo_distance_49 rfl (lv_at hl 1 rfl) ?_
      refine va_get (D := D) (ci := 5) (v := .ref (q 11)) (C := "BranchLayoutModel") (T := T_Mo) (N := 17) hx hb hts in_Mo hown hK.1 hP 0 rfl rfl 11 (by decide) (hts _ w_276) (fun _ h9 => h9) rfl d_Mo_distance_50 ?_
      refine lv_iload_n hx hb d_Mo_distance_53 rfl (lv_at hl 2 rfl) ?_
      refine va_iald hx hb hK.1 hP 9 0 rfl rfl (vp_in_nI (show k < 4096 by omega) (by decide)) d_Mo_distance_54 ?_
      rw [nI_clamp (show k < 2 ^ 31 by omega)]
      refine lv_aload_n hx hb d_Mo_distance_55 rfl (lv_at hl 1 rfl) ?_
      refine va_get (D := D) (ci := 5) (v := .ref (q 12)) (C := "BranchLayoutModel") (T := T_Mo) (N := 17) hx hb hts in_Mo hown hK.1 hP 0 rfl rfl 12 (by decide) (hts _ w_277) (fun _ h9 => h9) rfl d_Mo_distance_56 ?_
      refine lv_iload_n hx hb d_Mo_distance_59 rfl (lv_at hl 2 rfl) ?_
      refine va_iald hx hb hK.1 hP 10 0 rfl rfl (vp_in_nI (show k < 4096 by omega) (by decide)) d_Mo_distance_60 ?_
      rw [nI_clamp (show k < 2 ^ 31 by omega)]
      refine lv_iadd hx hb d_Mo_distance_61 ?_
      refine lv_i2l hx hb d_Mo_distance_62 rfl ?_
      refine lv_lsub hx hb d_Mo_distance_63 ?_
      refine zrl E d_Mo_distance_64 hS (Nat.le_of_ble_eq_true rfl) (Nat.le_of_ble_eq_true rfl) ?_
      exact ⟨_, rfl, rfl, by simp only [zdi, zgat, eg, e2, if_true, e1, h1]; simp [zVR]⟩
    · skip
      exact absurd e2 c_5
set_option maxHeartbeats 4000000 in
set_option maxRecDepth 100000 in
theorem t_Mo_walk (l : Launch) (D : va_G) (cs : ClassId × ClassId × ClassId × ClassId) (A : Nat → Prop) (q : Nat → Nat) (th : Int32) (sc lc : Nat) (R : Nat → Nat → Int32) (c : Nat → Nat → Nat) (gp : Nat → Int32) (br : Nat → Bool) (hI : zI sc lc c gp) (hR : ∀ k, k < sc → R 3 k = nI (c 0 k) ∧ R 4 k = nI (c 1 k) ∧ R 5 k = nI (c 2 k) ∧ R 10 k = (if br k then 1 else 0)) (hL : ∀ j, j < lc → R 8 j = nI (c 3 j) ∧ R 9 j = nI (c 4 j)) (t : Nat) (ht : t < 4) : zMet l D cs y_Mo_walk c_Mo_walk 6 none ({ frames := 0, cells := 0, slots := 0, locals := 0 } : Room) [.ref (q 0), .int (nI t)] (zH D A (zM q cs th sc lc R)) A (zqv fun H => zH D A (zM q cs th sc lc (zu (zWs c br R t sc lc) 15 t (nI (zSZ c br sc t)))) H) := by
  refine zmk (by decide) (Nat.le_of_ble_eq_true rfl) ?_
  intro p e s m below meth cd ls E hK hP0 hl
  have hS : va_S A s.heap s.heap [] := va_S.rf
  have hsc := hI.1
  have hlc := hI.2.1
  obtain ⟨hx, hb, hr, hts, hown, hlocks, hml, hin⟩ := id E
  have hl : lv_has ls 6 [(0, .ref (q 0)), (1, .int (nI t))] := hl
  refine lv_iconst (v := 0) hx hb d_Mo_walk_0 (by decide) ?_
  refine lv_istore_n (lv' := [(2, .int 0), (0, .ref (q 0)), (1, .int (nI t))]) hx hb d_Mo_walk_1 rfl hl (by decide) rfl (fun ls hl => ?_)
  refine lv_iconst (v := 0) hx hb d_Mo_walk_2 (by decide) ?_
  refine lv_istore_n (lv' := [(3, .int 0), (2, .int 0), (0, .ref (q 0)), (1, .int (nI t))]) hx hb d_Mo_walk_3 rfl hl (by decide) rfl (fun ls hl => ?_)
  refine lv_iconst (v := 0) hx hb d_Mo_walk_4 (by decide) ?_
  refine lv_istore (lv' := [(4, .int 0), (3, .int 0), (2, .int 0), (0, .ref (q 0)), (1, .int (nI t))]) hx hb d_Mo_walk_5 hl (by decide) rfl (fun ls hl => ?_)
  have loop : ∀ (n k a : Nat) (H : Heap) (locs : List Loc) (ls : Array Slot), k ≤ sc → a ≤ lc → sc + 1 ≤ k + n → (∀ j, a ≤ j → j < lc → k ≤ c 4 j) → zH D A (zM q cs th sc lc (zWs c br R t k a)) H → va_S A s.heap H locs → lv_has ls 6 [(4, .int (nI k)), (3, .int (nI a)), (2, .int (nI (zSZ c br k t))), (1, .int (nI t)), (0, .ref (q 0))] → W p l e ({ frames := 0, cells := 0, slots := 0, locals := 0 } : Room) s m ([.ref (q 0), .int (nI t)] : List Value).toArray below meth cd H locs 0 0 (zQ below s ([.ref (q 0), .int (nI t)] : List Value).toArray A (zqv fun H => zH D A (zM q cs th sc lc (zu (zWs c br R t sc lc) 15 t (nI (zSZ c br sc t)))) H) ({ frames := 0, cells := 0, slots := 0, locals := 0 } : Room)) (F0 m 7 ls []) := by
    intro n
    induction n with
    | zero => intro k a H locs ls h1 h2 h3; omega
    | succ n ih =>
      intro k a H locs ls hk ha hn hrem hw hS hl
      obtain ⟨hP, hD⟩ := id hw
      refine lv_iload hx hb d_Mo_walk_7 (lv_at hl 0 rfl) ?_
      refine lv_aload_n hx hb d_Mo_walk_9 rfl (lv_at hl 4 rfl) ?_
      refine va_get (D := D) (ci := 5) (v := .int (nI sc)) (C := "BranchLayoutModel") (T := T_Mo) (N := 17) hx hb hts in_Mo hown hK.1 hP 0 rfl rfl 1 (by decide) (hts _ w_266) (fun _ h9 => h9) rfl d_Mo_walk_10 ?_
      refine lv_icmp_gt (tgt := 172) hx hb d_Mo_walk_13 (by decide) (fun c_6 => ?_) (fun c_6 => ?_)
      · skip
        exact absurd c_6 (nI_nlt hk (by omega))
      · skip
        have stm : ∀ (a : Nat) (H : Heap) (locs : List Loc) (ls : Array Slot), a ≤ lc → (a = lc ∨ (a < lc ∧ k < c 4 a)) → zH D A (zM q cs th sc lc (zWs c br R t k a)) H → va_S A s.heap H locs → lv_has ls 6 [(4, .int (nI k)), (3, .int (nI a)), (2, .int (nI (zSZ c br k t))), (1, .int (nI t)), (0, .ref (q 0))] → W p l e ({ frames := 0, cells := 0, slots := 0, locals := 0 } : Room) s m ([.ref (q 0), .int (nI t)] : List Value).toArray below meth cd H locs 0 0 (zQ below s ([.ref (q 0), .int (nI t)] : List Value).toArray A (zqv fun H => zH D A (zM q cs th sc lc (zu (zWs c br R t sc lc) 15 t (nI (zSZ c br sc t)))) H) ({ frames := 0, cells := 0, slots := 0, locals := 0 } : Room)) (F0 m 58 ls []) := by
          intro a H locs ls ha hnx hw hS hl
          obtain ⟨hP, hD⟩ := id hw
          have hrem2 : ∀ j, a ≤ j → j < lc → k + 1 ≤ c 4 j := fun j h1 h2 => by
            rcases hnx with q1 | ⟨q1, q2⟩
            · omega
            · have := hI.2.2.2.2 a j h1 h2
              omega
          refine lv_iload hx hb d_Mo_walk_58 (lv_at hl 0 rfl) ?_
          refine lv_aload_n hx hb d_Mo_walk_60 rfl (lv_at hl 4 rfl) ?_
          refine va_get (D := D) (ci := 5) (v := .int (nI sc)) (C := "BranchLayoutModel") (T := T_Mo) (N := 17) hx hb hts in_Mo hown hK.1 hP 0 rfl rfl 1 (by decide) (hts _ w_266) (fun _ h9 => h9) rfl d_Mo_walk_61 ?_
          refine lv_icmp_eq (tgt := 166) hx hb d_Mo_walk_64 (by decide) (fun c_7 => ?_) (fun c_7 => ?_)
          · skip
            have hks : k = sc := (nI_eq (by omega) (by omega)).mp c_7
            have hal : a = lc := by
              rcases hnx with q1 | ⟨q1, q2⟩
              · exact q1
              · have := (hI.2.2.2.1 a q1).2
                omega
            refine lv_iinc (v := nI (k + 1)) (lv' := [(4, .int (nI (k + 1))), (3, .int (nI a)), (2, .int (nI (zSZ c br k t))), (1, .int (nI t)), (0, .ref (q 0))]) hx hb d_Mo_walk_166 hl (k := 0) rfl (nI_1 k) (by decide) rfl (fun ls hl => ?_)
            refine lv_goto (tgt := 7) hx hb d_Mo_walk_169 (by decide) ?_
            refine lv_iload hx hb d_Mo_walk_7 (lv_at hl 0 rfl) ?_
            refine lv_aload_n hx hb d_Mo_walk_9 rfl (lv_at hl 4 rfl) ?_
            refine va_get (D := D) (ci := 5) (v := .int (nI sc)) (C := "BranchLayoutModel") (T := T_Mo) (N := 17) hx hb hts in_Mo hown hK.1 hP 0 rfl rfl 1 (by decide) (hts _ w_266) (fun _ h9 => h9) rfl d_Mo_walk_10 ?_
            refine lv_icmp_gt (tgt := 172) hx hb d_Mo_walk_13 (by decide) (fun c_8 => ?_) (fun c_8 => ?_)
            · skip
              refine lv_aload_n hx hb d_Mo_walk_172 rfl (lv_at hl 4 rfl) ?_
              refine va_get (D := D) (ci := 5) (v := .ref (q 15)) (C := "BranchLayoutModel") (T := T_Mo) (N := 17) hx hb hts in_Mo hown hK.1 hP 0 rfl rfl 15 (by decide) (hts _ w_280) (fun _ h9 => h9) rfl d_Mo_walk_173 ?_
              refine lv_iload_n hx hb d_Mo_walk_176 rfl (lv_at hl 3 rfl) ?_
              refine lv_iload_n hx hb d_Mo_walk_177 rfl (lv_at hl 2 rfl) ?_
              refine va_iast hx hb hK.1 hP hD hS 13 0 rfl rfl (vp_in_nI (show t < 4 by omega) (by decide)) d_Mo_walk_178 (fun H locs hP hD hS => ?_)
              rw [nI_clamp (show t < 2 ^ 31 by omega), zm_set_15] at hP hD
              refine zrv E d_Mo_walk_179 hS (Nat.le_of_ble_eq_true rfl) (Nat.le_of_ble_eq_true rfl) ?_
              refine ⟨rfl, ?_⟩
              rw [hks, hal] at hP hD
              exact ⟨hP, hD⟩
            · skip
              exact absurd (nI_lt (show sc < k + 1 by omega) (by omega)) c_8
          · skip
            have hlt : k < sc := Nat.lt_of_le_of_ne hk fun q => c_7 (by rw [q])
            obtain ⟨r3, r4, r5, r10⟩ := hR k hlt
            obtain ⟨g1, g2, g3, g4, g5, g6⟩ := hI.2.2.1 k hlt
            have hsz := zSZ_lt (br := br) (i := t) hI hk
            have z3 : zWs c br R t k a 3 k = R 3 k := zWs_o (by decide) (by decide) (by decide)
            have z4 : zWs c br R t k a 4 k = R 4 k := zWs_o (by decide) (by decide) (by decide)
            have z5 : zWs c br R t k a 5 k = R 5 k := zWs_o (by decide) (by decide) (by decide)
            have z10 : zWs c br R t k a 10 k = R 10 k := zWs_o (by decide) (by decide) (by decide)
            refine lv_aload_n hx hb d_Mo_walk_67 rfl (lv_at hl 4 rfl) ?_
            refine va_get (D := D) (ci := 5) (v := .ref (q 4)) (C := "BranchLayoutModel") (T := T_Mo) (N := 17) hx hb hts in_Mo hown hK.1 hP 0 rfl rfl 4 (by decide) (hts _ w_269) (fun _ h9 => h9) rfl d_Mo_walk_68 ?_
            refine lv_iload hx hb d_Mo_walk_71 (lv_at hl 0 rfl) ?_
            refine va_iald hx hb hK.1 hP 2 0 rfl rfl (vp_in_nI (show k < 4096 by omega) (by decide)) d_Mo_walk_73 ?_
            rw [nI_clamp (show k < 2 ^ 31 by omega)]
            rw [z4, r4]
            refine lv_iload_n hx hb d_Mo_walk_74 rfl (lv_at hl 3 rfl) ?_
            refine lv_icmp_eq (tgt := 81) hx hb d_Mo_walk_75 (by decide) (fun c_9 => ?_) (fun c_9 => ?_)
            · skip
              have hct : c 1 k = t := (nI_eq (by omega) (by omega)).mp c_9
              have esz : zSZ c br (k + 1) t = zSZ c br k t + zln c br k (zSZ c br k t) := by simp [zSZ, hct]
              refine lv_aload_n hx hb d_Mo_walk_81 rfl (lv_at hl 4 rfl) ?_
              refine va_get (D := D) (ci := 5) (v := .ref (q 11)) (C := "BranchLayoutModel") (T := T_Mo) (N := 17) hx hb hts in_Mo hown hK.1 hP 0 rfl rfl 11 (by decide) (hts _ w_276) (fun _ h9 => h9) rfl d_Mo_walk_82 ?_
              refine lv_iload hx hb d_Mo_walk_85 (lv_at hl 0 rfl) ?_
              refine lv_iload_n hx hb d_Mo_walk_87 rfl (lv_at hl 2 rfl) ?_
              refine va_iast hx hb hK.1 hP hD hS 9 0 rfl rfl (vp_in_nI (show k < 4096 by omega) (by decide)) d_Mo_walk_88 (fun H locs hP hD hS => ?_)
              rw [nI_clamp (show k < 2 ^ 31 by omega), zm_set_11] at hP hD
              have y3 : (zu (zWs c br R t k a) 11 k (nI (zSZ c br k t))) 3 k = zWs c br R t k a 3 k := by rw [zu_ne (by decide)]
              have y5 : (zu (zWs c br R t k a) 11 k (nI (zSZ c br k t))) 5 k = zWs c br R t k a 5 k := by rw [zu_ne (by decide)]
              have y10 : (zu (zWs c br R t k a) 11 k (nI (zSZ c br k t))) 10 k = zWs c br R t k a 10 k := by rw [zu_ne (by decide)]
              have fin : ∀ (ls : Array Slot), lv_has ls 6 [(5, .int (nI (c 2 k))), (4, .int (nI k)), (3, .int (nI a)), (2, .int (nI (zSZ c br k t))), (1, .int (nI t)), (0, .ref (q 0))] → W p l e ({ frames := 0, cells := 0, slots := 0, locals := 0 } : Room) s m ([.ref (q 0), .int (nI t)] : List Value).toArray below meth cd H locs 0 0 (zQ below s ([.ref (q 0), .int (nI t)] : List Value).toArray A (zqv fun H => zH D A (zM q cs th sc lc (zu (zWs c br R t sc lc) 15 t (nI (zSZ c br sc t)))) H) ({ frames := 0, cells := 0, slots := 0, locals := 0 } : Room)) (F0 m 155 ls [.int (nI (zln c br k (zSZ c br k t))), .int (nI k), .ref (q 12)]) := by
                intro ls hl
                refine va_iast hx hb hK.1 hP hD hS 10 0 rfl rfl (vp_in_nI (show k < 4096 by omega) (by decide)) d_Mo_walk_155 (fun H locs hP hD hS => ?_)
                rw [nI_clamp (show k < 2 ^ 31 by omega), zm_set_12] at hP hD
                have y12 : (zu (zu (zWs c br R t k a) 11 k (nI (zSZ c br k t))) 12 k (nI (zln c br k (zSZ c br k t)))) 12 k = nI (zln c br k (zSZ c br k t)) := zu_at
                refine lv_iload_n hx hb d_Mo_walk_156 rfl (lv_at hl 3 rfl) ?_
                refine lv_aload_n hx hb d_Mo_walk_157 rfl (lv_at hl 5 rfl) ?_
                refine va_get (D := D) (ci := 5) (v := .ref (q 12)) (C := "BranchLayoutModel") (T := T_Mo) (N := 17) hx hb hts in_Mo hown hK.1 hP 0 rfl rfl 12 (by decide) (hts _ w_277) (fun _ h9 => h9) rfl d_Mo_walk_158 ?_
                refine lv_iload hx hb d_Mo_walk_161 (lv_at hl 1 rfl) ?_
                refine va_iald hx hb hK.1 hP 10 0 rfl rfl (vp_in_nI (show k < 4096 by omega) (by decide)) d_Mo_walk_163 ?_
                rw [nI_clamp (show k < 2 ^ 31 by omega)]
                rw [y12]
                refine lv_iadd hx hb d_Mo_walk_164 ?_
                rw [nI_add]
                refine lv_istore_n (lv' := [(2, .int (nI (zSZ c br k t + zln c br k (zSZ c br k t)))), (5, .int (nI (c 2 k))), (4, .int (nI k)), (3, .int (nI a)), (1, .int (nI t)), (0, .ref (q 0))]) hx hb d_Mo_walk_165 rfl hl (by decide) rfl (fun ls hl => ?_)
                refine lv_iinc (v := nI (k + 1)) (lv' := [(4, .int (nI (k + 1))), (2, .int (nI (zSZ c br k t + zln c br k (zSZ c br k t)))), (5, .int (nI (c 2 k))), (3, .int (nI a)), (1, .int (nI t)), (0, .ref (q 0))]) hx hb d_Mo_walk_166 hl (k := 2) rfl (nI_1 k) (by decide) rfl (fun ls hl => ?_)
                refine lv_goto (tgt := 7) hx hb d_Mo_walk_169 (by decide) ?_
                exact ih (k + 1) a _ _ ls hlt ha (by omega) hrem2 ⟨by rw [← zWs_s hct]; exact hP, by rw [← zWs_s hct]; exact hD⟩ hS (by rw [esz]; exact lv_sub hl [0, 3, 1, 4, 5] rfl)
              refine lv_aload_n hx hb d_Mo_walk_89 rfl (lv_at hl 4 rfl) ?_
              refine va_get (D := D) (ci := 5) (v := .ref (q 5)) (C := "BranchLayoutModel") (T := T_Mo) (N := 17) hx hb hts in_Mo hown hK.1 hP 0 rfl rfl 5 (by decide) (hts _ w_270) (fun _ h9 => h9) rfl d_Mo_walk_90 ?_
              refine lv_iload hx hb d_Mo_walk_93 (lv_at hl 0 rfl) ?_
              refine va_iald hx hb hK.1 hP 3 0 rfl rfl (vp_in_nI (show k < 4096 by omega) (by decide)) d_Mo_walk_95 ?_
              rw [nI_clamp (show k < 2 ^ 31 by omega)]
              rw [y5, z5, r5]
              refine lv_istore (lv' := [(5, .int (nI (c 2 k))), (4, .int (nI k)), (3, .int (nI a)), (2, .int (nI (zSZ c br k t))), (1, .int (nI t)), (0, .ref (q 0))]) hx hb d_Mo_walk_96 hl (by decide) rfl (fun ls hl => ?_)
              refine lv_aload_n hx hb d_Mo_walk_98 rfl (lv_at hl 5 rfl) ?_
              refine va_get (D := D) (ci := 5) (v := .ref (q 12)) (C := "BranchLayoutModel") (T := T_Mo) (N := 17) hx hb hts in_Mo hown hK.1 hP 0 rfl rfl 12 (by decide) (hts _ w_277) (fun _ h9 => h9) rfl d_Mo_walk_99 ?_
              refine lv_iload hx hb d_Mo_walk_102 (lv_at hl 1 rfl) ?_
              refine lv_aload_n hx hb d_Mo_walk_104 rfl (lv_at hl 5 rfl) ?_
              refine va_get (D := D) (ci := 5) (v := .ref (q 3)) (C := "BranchLayoutModel") (T := T_Mo) (N := 17) hx hb hts in_Mo hown hK.1 hP 0 rfl rfl 3 (by decide) (hts _ w_268) (fun _ h9 => h9) rfl d_Mo_walk_105 ?_
              refine lv_iload hx hb d_Mo_walk_108 (lv_at hl 1 rfl) ?_
              refine va_iald hx hb hK.1 hP 1 0 rfl rfl (vp_in_nI (show k < 4096 by omega) (by decide)) d_Mo_walk_110 ?_
              rw [nI_clamp (show k < 2 ^ 31 by omega)]
              rw [y3, z3, r3]
              refine lv_iconst (v := 2) hx hb d_Mo_walk_111 (by decide) ?_
              have e2 : (2 : Int32) = nI 2 := by decide
              rw [e2]
              refine lv_icmp_ne (tgt := 129) hx hb d_Mo_walk_112 (by decide) (fun c_10 => ?_) (fun c_10 => ?_)
              · skip
                have hn2 : ¬ c 0 k = 2 := fun q => c_10 (by rw [q])
                refine lv_aload_n hx hb d_Mo_walk_129 rfl (lv_at hl 5 rfl) ?_
                refine va_get (D := D) (ci := 5) (v := .ref (q 3)) (C := "BranchLayoutModel") (T := T_Mo) (N := 17) hx hb hts in_Mo hown hK.1 hP 0 rfl rfl 3 (by decide) (hts _ w_268) (fun _ h9 => h9) rfl d_Mo_walk_130 ?_
                refine lv_iload hx hb d_Mo_walk_133 (lv_at hl 1 rfl) ?_
                refine va_iald hx hb hK.1 hP 1 0 rfl rfl (vp_in_nI (show k < 4096 by omega) (by decide)) d_Mo_walk_135 ?_
                rw [nI_clamp (show k < 2 ^ 31 by omega)]
                rw [y3, z3, r3]
                refine lv_iconst (v := 1) hx hb d_Mo_walk_136 (by decide) ?_
                have e1 : (1 : Int32) = nI 1 := by decide
                rw [e1]
                refine lv_icmp_ne (tgt := 153) hx hb d_Mo_walk_137 (by decide) (fun c_11 => ?_) (fun c_11 => ?_)
                · skip
                  have hn1 : ¬ c 0 k = 1 := fun q => c_11 (by rw [q])
                  refine lv_iload hx hb d_Mo_walk_153 (lv_at hl 0 rfl) ?_
                  have el : nI (c 2 k) = nI (zln c br k (zSZ c br k t)) := by simp only [zln, hn2, hn1, if_false]
                  rw [el]
                  exact fin ls (lv_sub hl [0, 1, 2, 3, 4, 5] rfl)
                · skip
                  have hk1 : c 0 k = 1 := (nI_eq (by omega) (by decide)).mp c_11
                  obtain ⟨pw, hpw, epw⟩ := g4 hk1
                  have hpos : 0 < c 2 k := by rw [epw]; exact Nat.pow_pos (by decide)
                  have hnz : ¬ nI (c 2 k) = 0 := nI_ne0 hpos (by omega)
                  refine lv_iload hx hb d_Mo_walk_140 (lv_at hl 0 rfl) ?_
                  refine lv_iload_n hx hb d_Mo_walk_142 rfl (lv_at hl 3 rfl) ?_
                  refine lv_iload hx hb d_Mo_walk_143 (lv_at hl 0 rfl) ?_
                  refine lv_irem hx hb d_Mo_walk_145 hnz ?_
                  rw [pk_rem (by omega) hpos (by omega)]
                  refine lv_isub hx hb d_Mo_walk_146 ?_
                  have hml2 := Nat.mod_lt (zSZ c br k t) hpos
                  rw [pk_sub (Nat.le_of_lt hml2)]
                  refine lv_iload hx hb d_Mo_walk_147 (lv_at hl 0 rfl) ?_
                  refine lv_irem hx hb d_Mo_walk_149 hnz ?_
                  rw [pk_rem (by omega) hpos (by omega)]
                  have el : (c 2 k - zSZ c br k t % c 2 k) % c 2 k = zln c br k (zSZ c br k t) := by simp [zln, hk1, zal]
                  rw [el]
                  refine lv_goto (tgt := 155) hx hb d_Mo_walk_150 (by decide) ?_
                  exact fin ls (lv_sub hl [0, 1, 2, 3, 4, 5] rfl)
              · skip
                have hk2 : c 0 k = 2 := (nI_eq (by omega) (by decide)).mp c_10
                refine lv_aload_n hx hb d_Mo_walk_115 rfl (lv_at hl 5 rfl) ?_
                refine va_get (D := D) (ci := 5) (v := .ref (q 10)) (C := "BranchLayoutModel") (T := T_Mo) (N := 17) hx hb hts in_Mo hown hK.1 hP 0 rfl rfl 10 (by decide) (hts _ w_275) (fun _ h9 => h9) rfl d_Mo_walk_116 ?_
                refine lv_iload hx hb d_Mo_walk_119 (lv_at hl 1 rfl) ?_
                refine va_zald hx hb hK.1 hP 8 1 rfl rfl (vp_in_nI (show k < 4096 by omega) (by decide)) d_Mo_walk_121 ?_
                rw [nI_clamp (show k < 2 ^ 31 by omega)]
                rw [y10, z10, r10]
                refine lv_if_eq (tgt := 129) hx hb d_Mo_walk_122 (by decide) (fun c_12 => ?_) (fun c_12 => ?_)
                · skip
                  have hbf : br k = false := by cases hz : br k with | false => rfl | true => simp [hz] at c_12
                  refine lv_aload_n hx hb d_Mo_walk_129 rfl (lv_at hl 5 rfl) ?_
                  refine va_get (D := D) (ci := 5) (v := .ref (q 3)) (C := "BranchLayoutModel") (T := T_Mo) (N := 17) hx hb hts in_Mo hown hK.1 hP 0 rfl rfl 3 (by decide) (hts _ w_268) (fun _ h9 => h9) rfl d_Mo_walk_130 ?_
                  refine lv_iload hx hb d_Mo_walk_133 (lv_at hl 1 rfl) ?_
                  refine va_iald hx hb hK.1 hP 1 0 rfl rfl (vp_in_nI (show k < 4096 by omega) (by decide)) d_Mo_walk_135 ?_
                  rw [nI_clamp (show k < 2 ^ 31 by omega)]
                  rw [y3, z3, r3]
                  refine lv_iconst (v := 1) hx hb d_Mo_walk_136 (by decide) ?_
                  have e1 : (1 : Int32) = nI 1 := by decide
                  rw [e1]
                  refine lv_icmp_ne (tgt := 153) hx hb d_Mo_walk_137 (by decide) (fun c_13 => ?_) (fun c_13 => ?_)
                  · skip
                    have hn1 : ¬ c 0 k = 1 := fun q => c_13 (by rw [q])
                    refine lv_iload hx hb d_Mo_walk_153 (lv_at hl 0 rfl) ?_
                    have el : nI (c 2 k) = nI (zln c br k (zSZ c br k t)) := by simp [zln, hk2, hbf]
                    rw [el]
                    exact fin ls (lv_sub hl [0, 1, 2, 3, 4, 5] rfl)
                  · skip
                    have hk1 : c 0 k = 1 := (nI_eq (by omega) (by decide)).mp c_13
                    obtain ⟨pw, hpw, epw⟩ := g4 hk1
                    have hpos : 0 < c 2 k := by rw [epw]; exact Nat.pow_pos (by decide)
                    have hnz : ¬ nI (c 2 k) = 0 := nI_ne0 hpos (by omega)
                    refine lv_iload hx hb d_Mo_walk_140 (lv_at hl 0 rfl) ?_
                    refine lv_iload_n hx hb d_Mo_walk_142 rfl (lv_at hl 3 rfl) ?_
                    refine lv_iload hx hb d_Mo_walk_143 (lv_at hl 0 rfl) ?_
                    refine lv_irem hx hb d_Mo_walk_145 hnz ?_
                    rw [pk_rem (by omega) hpos (by omega)]
                    refine lv_isub hx hb d_Mo_walk_146 ?_
                    have hml2 := Nat.mod_lt (zSZ c br k t) hpos
                    rw [pk_sub (Nat.le_of_lt hml2)]
                    refine lv_iload hx hb d_Mo_walk_147 (lv_at hl 0 rfl) ?_
                    refine lv_irem hx hb d_Mo_walk_149 hnz ?_
                    rw [pk_rem (by omega) hpos (by omega)]
                    have el : (c 2 k - zSZ c br k t % c 2 k) % c 2 k = zln c br k (zSZ c br k t) := by simp [zln, hk1, zal]
                    rw [el]
                    refine lv_goto (tgt := 155) hx hb d_Mo_walk_150 (by decide) ?_
                    exact fin ls (lv_sub hl [0, 1, 2, 3, 4, 5] rfl)
                · skip
                  have hbt : br k = true := by cases hz : br k with | true => rfl | false => simp [hz] at c_12
                  refine lv_iconst (v := 2) hx hb d_Mo_walk_125 (by decide) ?_
                  refine lv_goto (tgt := 155) hx hb d_Mo_walk_126 (by decide) ?_
                  have el : (2 : Int32) = nI (zln c br k (zSZ c br k t)) := by simp [zln, hk2, hbt]; decide
                  rw [el]
                  exact fin ls (lv_sub hl [0, 1, 2, 3, 4, 5] rfl)
            · skip
              have hct : ¬ c 1 k = t := fun q => c_9 (by rw [q])
              have esz : zSZ c br (k + 1) t = zSZ c br k t := by simp [zSZ, hct]
              refine lv_goto (tgt := 166) hx hb d_Mo_walk_78 (by decide) ?_
              refine lv_iinc (v := nI (k + 1)) (lv' := [(4, .int (nI (k + 1))), (3, .int (nI a)), (2, .int (nI (zSZ c br k t))), (1, .int (nI t)), (0, .ref (q 0))]) hx hb d_Mo_walk_166 hl (k := 0) rfl (nI_1 k) (by decide) rfl (fun ls hl => ?_)
              refine lv_goto (tgt := 7) hx hb d_Mo_walk_169 (by decide) ?_
              exact ih (k + 1) a _ _ ls hlt ha (by omega) hrem2 (by rw [← zWs_k hct]; exact hw) hS (by rw [esz]; exact lv_sub hl [0, 1, 2, 3, 4] rfl)
        have lab : ∀ (m2 a : Nat) (H : Heap) (locs : List Loc) (ls : Array Slot), a ≤ lc → lc + 1 ≤ a + m2 → (∀ j, a ≤ j → j < lc → k ≤ c 4 j) → zH D A (zM q cs th sc lc (zWs c br R t k a)) H → va_S A s.heap H locs → lv_has ls 6 [(4, .int (nI k)), (3, .int (nI a)), (2, .int (nI (zSZ c br k t))), (1, .int (nI t)), (0, .ref (q 0))] → W p l e ({ frames := 0, cells := 0, slots := 0, locals := 0 } : Room) s m ([.ref (q 0), .int (nI t)] : List Value).toArray below meth cd H locs 0 0 (zQ below s ([.ref (q 0), .int (nI t)] : List Value).toArray A (zqv fun H => zH D A (zM q cs th sc lc (zu (zWs c br R t sc lc) 15 t (nI (zSZ c br sc t)))) H) ({ frames := 0, cells := 0, slots := 0, locals := 0 } : Room)) (F0 m 16 ls []) := by
          intro m2
          induction m2 with
          | zero => intro a H locs ls h1 h2; omega
          | succ m2 ih2 =>
            intro a H locs ls ha hm hrem hw hS hl
            obtain ⟨hP, hD⟩ := id hw
            refine lv_iload_n hx hb d_Mo_walk_16 rfl (lv_at hl 1 rfl) ?_
            refine lv_aload_n hx hb d_Mo_walk_17 rfl (lv_at hl 4 rfl) ?_
            refine va_get (D := D) (ci := 5) (v := .int (nI lc)) (C := "BranchLayoutModel") (T := T_Mo) (N := 17) hx hb hts in_Mo hown hK.1 hP 0 rfl rfl 2 (by decide) (hts _ w_267) (fun _ h9 => h9) rfl d_Mo_walk_18 ?_
            refine lv_icmp_ge (tgt := 58) hx hb d_Mo_walk_21 (by decide) (fun c_14 => ?_) (fun c_14 => ?_)
            · skip
              exact stm a _ _ ls ha (Or.inl (Nat.le_antisymm ha ((nI_leI (by omega) (by omega)).mp c_14))) hw hS hl
            · skip
              have hlt : a < lc := Nat.lt_of_not_le fun q => c_14 (nI_le q (by omega))
              obtain ⟨r8, r9⟩ := hL a hlt
              obtain ⟨g3, g4⟩ := hI.2.2.2.1 a hlt
              have hra := hrem a (Nat.le_refl a) hlt
              have z8 : zWs c br R t k a 8 a = R 8 a := zWs_o (by decide) (by decide) (by decide)
              have z9 : zWs c br R t k a 9 a = R 9 a := zWs_o (by decide) (by decide) (by decide)
              refine lv_aload_n hx hb d_Mo_walk_24 rfl (lv_at hl 4 rfl) ?_
              refine va_get (D := D) (ci := 5) (v := .ref (q 9)) (C := "BranchLayoutModel") (T := T_Mo) (N := 17) hx hb hts in_Mo hown hK.1 hP 0 rfl rfl 9 (by decide) (hts _ w_274) (fun _ h9 => h9) rfl d_Mo_walk_25 ?_
              refine lv_iload_n hx hb d_Mo_walk_28 rfl (lv_at hl 1 rfl) ?_
              refine va_iald hx hb hK.1 hP 7 0 rfl rfl (vp_in_nI (show a < 1024 by omega) (by decide)) d_Mo_walk_29 ?_
              rw [nI_clamp (show a < 2 ^ 31 by omega)]
              rw [z9, r9]
              refine lv_iload hx hb d_Mo_walk_30 (lv_at hl 0 rfl) ?_
              refine lv_icmp_gt (tgt := 58) hx hb d_Mo_walk_32 (by decide) (fun c_15 => ?_) (fun c_15 => ?_)
              · skip
                exact stm a _ _ ls ha (Or.inr ⟨hlt, (nI_ltI (by omega) (by omega)).mp c_15⟩) hw hS hl
              · skip
                have hak : c 4 a = k := Nat.le_antisymm (Nat.le_of_not_lt fun q => c_15 (nI_lt q (by omega))) hra
                refine lv_aload_n hx hb d_Mo_walk_35 rfl (lv_at hl 4 rfl) ?_
                refine va_get (D := D) (ci := 5) (v := .ref (q 8)) (C := "BranchLayoutModel") (T := T_Mo) (N := 17) hx hb hts in_Mo hown hK.1 hP 0 rfl rfl 8 (by decide) (hts _ w_273) (fun _ h9 => h9) rfl d_Mo_walk_36 ?_
                refine lv_iload_n hx hb d_Mo_walk_39 rfl (lv_at hl 1 rfl) ?_
                refine va_iald hx hb hK.1 hP 6 0 rfl rfl (vp_in_nI (show a < 1024 by omega) (by decide)) d_Mo_walk_40 ?_
                rw [nI_clamp (show a < 2 ^ 31 by omega)]
                rw [z8, r8]
                refine lv_iload_n hx hb d_Mo_walk_41 rfl (lv_at hl 3 rfl) ?_
                refine lv_icmp_ne (tgt := 52) hx hb d_Mo_walk_42 (by decide) (fun c_16 => ?_) (fun c_16 => ?_)
                · skip
                  have hct : ¬ c 3 a = t := fun q => c_16 (by rw [q])
                  refine lv_iinc (v := nI (a + 1)) (lv' := [(3, .int (nI (a + 1))), (4, .int (nI k)), (2, .int (nI (zSZ c br k t))), (1, .int (nI t)), (0, .ref (q 0))]) hx hb d_Mo_walk_52 hl (k := 1) rfl (nI_1 a) (by decide) rfl (fun ls hl => ?_)
                  refine lv_goto (tgt := 16) hx hb d_Mo_walk_55 (by decide) ?_
                  exact ih2 (a + 1) _ _ ls hlt (by omega) (fun j h1 h2 => hrem j (by omega) h2) (by rw [← zWs_n hct]; exact hw) hS (lv_sub hl [1, 0, 2, 3, 4] rfl)
                · skip
                  have hct : c 3 a = t := (nI_eq (by omega) (by omega)).mp c_16
                  refine lv_aload_n hx hb d_Mo_walk_45 rfl (lv_at hl 4 rfl) ?_
                  refine va_get (D := D) (ci := 5) (v := .ref (q 14)) (C := "BranchLayoutModel") (T := T_Mo) (N := 17) hx hb hts in_Mo hown hK.1 hP 0 rfl rfl 14 (by decide) (hts _ w_279) (fun _ h9 => h9) rfl d_Mo_walk_46 ?_
                  refine lv_iload_n hx hb d_Mo_walk_49 rfl (lv_at hl 1 rfl) ?_
                  refine lv_iload_n hx hb d_Mo_walk_50 rfl (lv_at hl 2 rfl) ?_
                  refine va_iast hx hb hK.1 hP hD hS 12 0 rfl rfl (vp_in_nI (show a < 1024 by omega) (by decide)) d_Mo_walk_51 (fun H locs hP hD hS => ?_)
                  rw [nI_clamp (show a < 2 ^ 31 by omega), zm_set_14] at hP hD
                  refine lv_iinc (v := nI (a + 1)) (lv' := [(3, .int (nI (a + 1))), (4, .int (nI k)), (2, .int (nI (zSZ c br k t))), (1, .int (nI t)), (0, .ref (q 0))]) hx hb d_Mo_walk_52 hl (k := 1) rfl (nI_1 a) (by decide) rfl (fun ls hl => ?_)
                  refine lv_goto (tgt := 16) hx hb d_Mo_walk_55 (by decide) ?_
                  exact ih2 (a + 1) _ _ ls hlt (by omega) (fun j h1 h2 => hrem j (by omega) h2) ⟨by rw [← zWs_l hak hct]; exact hP, by rw [← zWs_l hak hct]; exact hD⟩ hS (lv_sub hl [1, 0, 2, 3, 4] rfl)
        exact lab (lc + 1) a _ _ ls ha (by omega) hrem hw hS hl
  have e00 : zSZ c br 0 t = 0 := rfl
  exact loop (sc + 1) 0 0 _ _ ls (Nat.zero_le _) (Nat.zero_le _) (by omega) (fun j _ _ => Nat.zero_le _) (by rw [← zWs_0]; exact hP0) hS (by rw [e00, nI_0]; exact lv_sub hl [0, 1, 2, 4, 3] rfl)
end
section
def zBr (c : Nat → Nat → Nat) (gp : Nat → Int32) (R : Nat → Nat → Int32) (k : Nat) : Nat → Nat → Int32 := fun f i => if f = 10 ∧ i < k then (if zb0 c gp i then 1 else 0) else R f i
theorem zBr_0 {c : Nat → Nat → Nat} {gp : Nat → Int32} {R : Nat → Nat → Int32} : R = zBr c gp R 0 := by
  funext f i
  simp [zBr]
theorem zBr_s {c : Nat → Nat → Nat} {gp : Nat → Int32} {R : Nat → Nat → Int32} {k : Nat} : zu (zBr c gp R k) 10 k (if zb0 c gp k then 1 else 0) = zBr c gp R (k + 1) := by
  funext f i
  by_cases hf : f = 10
  · subst hf
    by_cases hi : i = k
    · subst hi; simp [zu, zBr]
    · have : (i < k + 1) = (i < k) := by apply propext; omega
      simp [zu, zBr, hi, this]
  · simp [zu, zBr, hf]
theorem zBr_o {c : Nat → Nat → Nat} {gp : Nat → Int32} {R : Nat → Nat → Int32} {k f i : Nat} (h : f ≠ 10) : zBr c gp R k f i = R f i := by simp [zBr, h]
/-- section t walked -/
def zW1 (c : Nat → Nat → Nat) (br : Nat → Bool) (sc lc : Nat) (R : Nat → Nat → Int32) (t : Nat) : Nat → Nat → Int32 := zu (zWs c br R t sc lc) 15 t (nI (zSZ c br sc t))
theorem zW1_o {c : Nat → Nat → Nat} {br : Nat → Bool} {sc lc : Nat} {R : Nat → Nat → Int32} {t f i : Nat} (h1 : f ≠ 11) (h2 : f ≠ 12) (h3 : f ≠ 14) (h4 : f ≠ 15) : zW1 c br sc lc R t f i = R f i := by
  unfold zW1
  rw [zu_ne h4, zWs_o h1 h2 h3]
def zW4 (c : Nat → Nat → Nat) (br : Nat → Bool) (sc lc : Nat) (R : Nat → Nat → Int32) : Nat → Nat → Int32 := zW1 c br sc lc (zW1 c br sc lc (zW1 c br sc lc (zW1 c br sc lc R 0) 1) 2) 3
theorem zW4_o {c : Nat → Nat → Nat} {br : Nat → Bool} {sc lc : Nat} {R : Nat → Nat → Int32} {f i : Nat} (h1 : f ≠ 11) (h2 : f ≠ 12) (h3 : f ≠ 14) (h4 : f ≠ 15) : zW4 c br sc lc R f i = R f i := by
  unfold zW4
  rw [zW1_o h1 h2 h3 h4, zW1_o h1 h2 h3 h4, zW1_o h1 h2 h3 h4, zW1_o h1 h2 h3 h4]
theorem zW4_L {c : Nat → Nat → Nat} {br : Nat → Bool} {sc lc : Nat} {gp : Nat → Int32} {R : Nat → Nat → Int32} (hI : zI sc lc c gp) : (∀ i, i < sc → zVR (zW4 c br sc lc R) 0 i = zL c br sc 0 i ∧ zVR (zW4 c br sc lc R) 1 i = zL c br sc 1 i) ∧ (∀ j, j < lc → zVR (zW4 c br sc lc R) 4 j = zL c br sc 4 j) ∧ ∀ i, i < 4 → zVR (zW4 c br sc lc R) 5 i = zL c br sc 5 i := by
  refine ⟨fun i hi => ?_, fun j hj => ?_, fun i hi => ?_⟩
  · have h4 := (hI.2.2.1 i hi).2.1
    have : c 1 i = 0 ∨ c 1 i = 1 ∨ c 1 i = 2 ∨ c 1 i = 3 := by omega
    rcases this with e | e | e | e <;> simp [zVR, zW4, zW1, zu, zWs, zL, hi, e]
  · have h4 := (hI.2.2.2.1 j hj).1
    have : c 3 j = 0 ∨ c 3 j = 1 ∨ c 3 j = 2 ∨ c 3 j = 3 := by omega
    rcases this with e | e | e | e <;> simp [zVR, zW4, zW1, zu, zWs, zL, hj, e]
  · have : i = 0 ∨ i = 1 ∨ i = 2 ∨ i = 3 := by omega
    rcases this with e | e | e | e <;> simp [zVR, zW4, zW1, zu, zWs, zL, e]
/-- branches looked at -/
def zDn (gp mo : Nat → Int32) (R : Nat → Nat → Int32) (k : Nat) : Nat → Nat → Int32 := fun f i => if f = 10 ∧ i < k ∧ (R 10 i = 1 ∧ zok (zdi gp mo (zVR R) i) = false) then 0 else R f i
theorem zDn_0 {gp mo : Nat → Int32} {R : Nat → Nat → Int32} : R = zDn gp mo R 0 := by
  funext f i
  simp [zDn]
theorem zDn_o {gp mo : Nat → Int32} {R : Nat → Nat → Int32} {k f i : Nat} (h : f ≠ 10) : zDn gp mo R k f i = R f i := by simp [zDn, h]
theorem zDn_k {gp mo : Nat → Int32} {R : Nat → Nat → Int32} {k : Nat} : zDn gp mo R k 10 k = R 10 k := by simp [zDn]
theorem zDn_V {gp mo : Nat → Int32} {R : Nat → Nat → Int32} {k : Nat} : zVR (zDn gp mo R k) = zVR R := by
  funext f i
  simp [zVR, zDn]
theorem zDn_b {gp mo : Nat → Int32} {R : Nat → Nat → Int32} {k : Nat} (h : R 10 k = 1 ∧ zok (zdi gp mo (zVR R) k) = false) : zu (zDn gp mo R k) 10 k 0 = zDn gp mo R (k + 1) := by
  funext f i
  by_cases hi : i = k
  · subst hi
    by_cases hf : f = 10
    · subst hf; simp [zu, zDn, h]
    · simp [zu, zDn, hf]
  · have : (i < k + 1) = (i < k) := by apply propext; omega
    simp [zu, zDn, hi, this]
theorem zDn_n {gp mo : Nat → Int32} {R : Nat → Nat → Int32} {k : Nat} (h : ¬ (R 10 k = 1 ∧ zok (zdi gp mo (zVR R) k) = false)) : zDn gp mo R k = zDn gp mo R (k + 1) := by
  funext f i
  by_cases hi : i = k
  · subst hi
    simp only [zDn, h, and_false, if_false]
  · have : (i < k + 1) = (i < k) := by apply propext; omega
    simp [zDn, this]
/-- what is kept of the layout -/
def zEn (gp mo : Nat → Int32) (R : Nat → Nat → Int32) (k : Nat) : Nat → Nat → Int32 := fun f i => if f = 16 ∧ i < k then R 10 i else if f = 13 ∧ i < k then (if R 10 i = 1 then (zdi gp mo (zVR R) i).toInt32 else 0) else R f i
theorem zEn_0 {gp mo : Nat → Int32} {R : Nat → Nat → Int32} : R = zEn gp mo R 0 := by
  funext f i
  simp [zEn]
theorem zEn_o {gp mo : Nat → Int32} {R : Nat → Nat → Int32} {k f i : Nat} (h : f ≠ 16) (h2 : f ≠ 13) : zEn gp mo R k f i = R f i := by simp [zEn, h, h2]
theorem zEn_s {gp mo : Nat → Int32} {R : Nat → Nat → Int32} {k : Nat} : zu (zu (zEn gp mo R k) 16 k (R 10 k)) 13 k (if R 10 k = 1 then (zdi gp mo (zVR R) k).toInt32 else 0) = zEn gp mo R (k + 1) := by
  funext f i
  by_cases hi : i = k
  · subst hi
    by_cases hf : f = 16
    · subst hf; simp [zu, zEn]
    · by_cases hg : f = 13
      · subst hg; simp [zu, zEn]
      · simp [zu, zEn, hf, hg]
  · have : (i < k + 1) = (i < k) := by apply propext; omega
    simp [zu, zEn, hi, this]
theorem zdi_RR {g2 m2 gp mo : Nat → Int32} {V V2 : Nat → Nat → Int32} {k : Nat} (h6 : g2 k = gp k) (h7 : m2 k = mo k) (h0 : V 0 = V2 0) (h1 : V 1 = V2 1) (h4 : V 4 = V2 4) : zdi g2 m2 V k = zdi gp mo V2 k := by simp only [zdi, zgat, h6, h7, h0, h1, h4]
def zVB (R : Nat → Nat → Int32) : Nat → Nat → Int32 := fun f i => if f = 2 then R 10 i else 0
theorem zVB2 {R : Nat → Nat → Int32} {k : Nat} : zVB R 2 k = R 10 k := by simp [zVB]
theorem zMid_congr {c : Nat → Nat → Nat} {gp mo : Nat → Int32} {sc lc : Nat} {V V2 : Nat → Nat → Int32} (hI : zI sc lc c gp) (h : zMid c gp mo sc V) (h2 : ∀ k, k < sc → V2 2 k = V 2 k) (h3 : ∀ k, k < sc → V2 3 k = 0) : zMid c gp mo sc V2 := by
  have hb : ∀ k, k < sc → zbr V2 k = zbr V k := fun k hk => by simp only [zbr, h2 k hk]
  refine ⟨fun k hk => ?_, fun e he => h.2 e (zR_congr hI (zgo1_congr (zMid_go h) (fun j hj => (hb j hj).symm)) hb he)⟩
  obtain ⟨a1, a2, a3⟩ := h.1 k hk
  rw [h2 k hk, h3 k hk]
  exact ⟨a1, a2, fun _ => rfl⟩
theorem zMid_B0 {c : Nat → Nat → Nat} {gp mo : Nat → Int32} {sc lc : Nat} {R : Nat → Nat → Int32} (hI : zI sc lc c gp) : zMid c gp mo sc (zVB (zBr c gp R sc)) := by
  have e2 : ∀ k, k < sc → zVB (zBr c gp R sc) 2 k = if zb0 c gp k then 1 else 0 := fun k hk => by simp [zVB, zBr, hk]
  have hb : ∀ k, k < sc → zbr (zVB (zBr c gp R sc)) k = zb0 c gp k := fun k hk => by
    simp only [zbr, e2 k hk]
    cases zb0 c gp k <;> simp
  have hg : ∀ k, zb0 c gp k = true → c 0 k = 2 ∧ ¬ gp k = -1 := fun k h => by simpa [zb0] using h
  refine ⟨fun k hk => ?_, fun e he => zR_congr hI (fun k hk h => hg k (by rw [← hb k hk]; exact h)) hb he⟩
  rw [e2 k hk]
  cases hz : zb0 c gp k with
  | true => simpa using hg k hz
  | false => simp [zVB]
theorem zW4_T {c : Nat → Nat → Nat} {gp mo : Nat → Int32} {sc lc : Nat} {R : Nat → Nat → Int32} (hI : zI sc lc c gp) (h : zMid c gp mo sc (zVB R)) {k : Nat} (hk : k < sc) (hv : R 10 k = 1) : zdi gp mo (zVR (zW4 c (zbr (zVB R)) sc lc R)) k = zdi gp mo (zT c (zbr (zVB R)) (zVB R) sc lc) k ∧ zdi gp mo (zVR (zW4 c (zbr (zVB R)) sc lc R)) k = zdi gp mo (zL c (zbr (zVB R)) sc) k := by
  have hvl := (hI.2.2.1 k hk).2.2.2.2.1
  have hgo := ((h.1 k hk).2.1 (by rw [zVB2]; exact hv)).2
  have hL := zW4_L (br := zbr (zVB R)) (R := R) hI
  have e1 := zdi_congr (mo := mo) hI.1 hI.2.1 hk hvl hgo hL.1 hL.2.1
  refine ⟨?_, e1⟩
  rw [e1]
  exact (zT_di hI h hk (by rw [zVB2]; exact hv)).symm
theorem zMid_B {c : Nat → Nat → Nat} {gp mo : Nat → Int32} {sc lc : Nat} {R : Nat → Nat → Int32} (hI : zI sc lc c gp) (h : zMid c gp mo sc (zVB R)) (hb : ∃ i, i < sc ∧ (zW4 c (zbr (zVB R)) sc lc R 10 i = 1 ∧ zok (zdi gp mo (zVR (zW4 c (zbr (zVB R)) sc lc R)) i) = false)) : zMid c gp mo sc (zVB (zDn gp mo (zW4 c (zbr (zVB R)) sc lc R) sc)) ∧ zcs (zVB (zDn gp mo (zW4 c (zbr (zVB R)) sc lc R) sc)) sc < zcs (zVB R) sc := by
  obtain ⟨i, hi, h1, h2⟩ := hb
  have eW : ∀ k, zW4 c (zbr (zVB R)) sc lc R 10 k = R 10 k := fun k => zW4_o (by decide) (by decide) (by decide) (by decide)
  rw [eW] at h1
  obtain ⟨hM, hc⟩ := zMid_s hI h ⟨i, hi, by rw [zVB2]; exact h1, by rw [← (zW4_T hI h hi h1).1]; exact h2⟩
  have e2 : ∀ k, k < sc → zVB (zDn gp mo (zW4 c (zbr (zVB R)) sc lc R) sc) 2 k = zLn gp mo (zT c (zbr (zVB R)) (zVB R) sc lc) sc 2 k := by
    intro k hk
    have el : zLn gp mo (zT c (zbr (zVB R)) (zVB R) sc lc) sc 2 k = if zVB R 2 k = 1 ∧ zok (zdi gp mo (zT c (zbr (zVB R)) (zVB R) sc lc) k) = false then 0 else zVB R 2 k := by simp only [zLn, hk, true_and, and_self, if_true, zT_2]
    rw [el, zVB2, zVB2]
    simp only [zDn, hk, true_and, eW]
    by_cases hv : R 10 k = 1
    · rw [(zW4_T hI h hk hv).1]
    · simp [hv]
  exact ⟨zMid_congr hI hM e2 (fun k _ => by simp [zVB]), by rw [zcs_cong sc e2]; exact hc⟩
theorem zMid_F {c : Nat → Nat → Nat} {gp mo : Nat → Int32} {sc lc : Nat} {R : Nat → Nat → Int32} (hI : zI sc lc c gp) (h : zMid c gp mo sc (zVB R)) (hb : ∀ i, i < sc → ¬ (zW4 c (zbr (zVB R)) sc lc R 10 i = 1 ∧ zok (zdi gp mo (zVR (zW4 c (zbr (zVB R)) sc lc R)) i) = false)) : zRx c gp mo sc lc (zVR (zEn gp mo (zDn gp mo (zW4 c (zbr (zVB R)) sc lc R) sc) sc)) (nI (zcb c (zbr (zVB R)) sc)) := by
  have eW : ∀ k, zW4 c (zbr (zVB R)) sc lc R 10 k = R 10 k := fun k => zW4_o (by decide) (by decide) (by decide) (by decide)
  have hL := zW4_L (br := zbr (zVB R)) (R := R) hI
  have e10 : ∀ k, k < sc → zDn gp mo (zW4 c (zbr (zVB R)) sc lc R) sc 10 k = R 10 k := fun k hk => by
    have hn := hb k hk
    simp only [zDn, hk, true_and, hn, if_false]
    exact eW k
  have eV : ∀ f k, f ≠ 2 → f ≠ 3 → zVR (zEn gp mo (zDn gp mo (zW4 c (zbr (zVB R)) sc lc R) sc) sc) f k = zVR (zW4 c (zbr (zVB R)) sc lc R) f k := fun f k h2 h3 => by
    simp [zVR, h2, h3, zEn, zDn]
  have hbk : ∀ k, zbr (zVB R) k = decide (R 10 k = 1) := fun k => by simp only [zbr, zVB2]
  refine ⟨zbr (zVB R), h.2 _ ⟨0, ?_, fun k _ => rfl⟩, zMid_go h, ⟨fun k hk => ⟨?_, ?_, ?_, ?_⟩, fun j hj => ?_, fun i hi => ?_⟩, rfl⟩
  · rintro ⟨k, hk, q1, q2⟩
    rw [hbk] at q1
    have h1 := of_decide_eq_true q1
    exact hb k hk ⟨by rw [eW]; exact h1, by rw [(zW4_T hI h hk h1).2]; exact q2⟩
  · rw [eV 0 k (by decide) (by decide)]; exact (hL.1 k hk).1
  · rw [eV 1 k (by decide) (by decide)]; exact (hL.1 k hk).2
  · have e16 : zVR (zEn gp mo (zDn gp mo (zW4 c (zbr (zVB R)) sc lc R) sc) sc) 2 k = R 10 k := by
      simp only [zVR, zEn, hk]
      simp [e10 k hk]
    rw [e16, hbk]
    rcases (h.1 k hk).1 with q | q <;> rw [zVB2] at q <;> simp [q]
  · have e13 : zVR (zEn gp mo (zDn gp mo (zW4 c (zbr (zVB R)) sc lc R) sc) sc) 3 k = if R 10 k = 1 then (zdi gp mo (zVR (zW4 c (zbr (zVB R)) sc lc R)) k).toInt32 else 0 := by
      simp only [zVR, zEn, hk]
      simp [e10 k hk, ← zDn_V (gp := gp) (mo := mo) (R := zW4 c (zbr (zVB R)) sc lc R) (k := sc)]
    rw [e13, hbk]
    by_cases hv : R 10 k = 1
    · rw [(zW4_T hI h hk hv).2]
      simp [hv]
    · simp [hv]
  · rw [eV 4 j (by decide) (by decide)]; exact hL.2.1 j hj
  · rw [eV 5 i (by decide) (by decide)]; exact hL.2.2 i hi
end
section
set_option maxHeartbeats 4000000 in
set_option maxRecDepth 100000 in
theorem t_Mo_relax (l : Launch) (D : va_G) (cs : ClassId × ClassId × ClassId × ClassId) (A : Nat → Prop) (q : Nat → Nat) (sc lc : Nat) (c : Nat → Nat → Nat) (gp mo : Nat → Int32) (V : Nat → Nat → Int32) (hI : zI sc lc c gp) : zMet l D cs y_Mo_relax c_Mo_relax 4 (some FieldType.int) ({ frames := 1, cells := 0, slots := 0, locals := 25 } : Room) [.ref (q 0)] (zRW D A q cs sc lc c gp mo V) A (zqi fun r H => ∃ V2, zRx c gp mo sc lc V2 r ∧ zRW D A q cs sc lc c gp mo V2 H) := by
  refine zmk (by decide) (Nat.le_of_ble_eq_true rfl) ?_
  intro p e s m below meth cd ls E hK hP0 hl
  have hS : va_S A s.heap s.heap [] := va_S.rf
  obtain ⟨th, R, hG, hP, hD⟩ := hP0
  have hsc := hI.1
  have hlc := hI.2.1
  obtain ⟨hx, hb, hr, hts, hown, hlocks, hml, hin⟩ := id E
  have hl : lv_has ls 4 [(0, .ref (q 0))] := hl
  refine lv_aload_n hx hb d_Mo_relax_0 rfl (lv_at hl 0 rfl) ?_
  refine lv_iconst (v := 0) hx hb d_Mo_relax_1 (by decide) ?_
  refine va_put (D := D) (ci := 5) (v := .int 0) (ty := .int) (C := "BranchLayoutModel") (T := T_Mo) (N := 17) hx hb hts in_Mo ty_Mo ok_Mo nm_Mo hown hK.1 hP hD hS 0 rfl rfl 0 (by decide) (hts _ w_265) (fun _ h9 => h9) rfl (by decide +kernel) rfl rfl (Nat.le_of_ble_eq_true rfl) d_Mo_relax_2 (fun H locs hP hD hS => ?_)
  have hP : va_P D zcl (zM q cs 0 sc lc R) H := hP
  have hD : va_D A (zM q cs 0 sc lc R) := hD
  refine lv_iconst (v := 0) hx hb d_Mo_relax_5 (by decide) ?_
  refine lv_istore_n (lv' := [(1, .int 0), (0, .ref (q 0))]) hx hb d_Mo_relax_6 rfl hl (by decide) rfl (fun ls hl => ?_)
  have hst : ∀ RW : Nat → Nat → Int32, (∀ f i, f = 3 ∨ f = 4 ∨ f = 5 ∨ f = 6 ∨ f = 7 ∨ f = 8 ∨ f = 9 → RW f i = R f i) → (∀ k, k < sc → RW 3 k = nI (c 0 k) ∧ RW 4 k = nI (c 1 k) ∧ RW 5 k = nI (c 2 k) ∧ RW 6 k = gp k ∧ RW 7 k = mo k) ∧ ∀ j, j < lc → RW 8 j = nI (c 3 j) ∧ RW 9 j = nI (c 4 j) := fun RW h => by
    refine ⟨fun k hk => ?_, fun j hj => ?_⟩
    · obtain ⟨a1, a2, a3, a4, a5, -⟩ := hG.1 k hk
      exact ⟨by rw [h 3 k (by simp), a1], by rw [h 4 k (by simp), a2], by rw [h 5 k (by simp), a3], by rw [h 6 k (by simp), a4], by rw [h 7 k (by simp), a5]⟩
    · obtain ⟨a1, a2, -⟩ := hG.2.1 j hj
      exact ⟨by rw [h 8 j (by simp), a1], by rw [h 9 j (by simp), a2]⟩
  have loopE : ∀ RW : Nat → Nat → Int32, (∀ f i, f = 3 ∨ f = 4 ∨ f = 5 ∨ f = 6 ∨ f = 7 ∨ f = 8 ∨ f = 9 → RW f i = R f i) → (∀ k, k < sc → (RW 10 k = 0 ∨ RW 10 k = 1) ∧ (RW 10 k = 1 → ¬ gp k = -1)) → zRx c gp mo sc lc (zVR (zEn gp mo RW sc)) (nI (zcb c (zbr (zVB RW)) sc)) → ∀ (n k : Nat) (H : Heap) (locs : List Loc) (ls : Array Slot), k ≤ sc → sc + 1 ≤ k + n → zH D A (zM q cs 0 sc lc (zEn gp mo RW k)) H → va_S A s.heap H locs → lv_has ls 4 [(3, .int (nI k)), (2, .int (nI (zcb c (zbr (zVB RW)) k))), (0, .ref (q 0))] → W p l e ({ frames := 1, cells := 0, slots := 0, locals := 25 } : Room) s m ([.ref (q 0)] : List Value).toArray below meth cd H locs 0 0 (zQ below s ([.ref (q 0)] : List Value).toArray A (zqi fun r H => ∃ V2, zRx c gp mo sc lc V2 r ∧ zRW D A q cs sc lc c gp mo V2 H) ({ frames := 1, cells := 0, slots := 0, locals := 25 } : Room)) (F0 m 158 ls []) := by
    intro RW hrw h10 hRx n
    induction n with
    | zero => intro k H locs ls h1 h2; omega
    | succ n ih =>
      intro k H locs ls hk hn hw hS hl
      obtain ⟨hP, hD⟩ := id hw
      refine lv_iload_n hx hb d_Mo_relax_158 rfl (lv_at hl 0 rfl) ?_
      refine lv_aload_n hx hb d_Mo_relax_159 rfl (lv_at hl 2 rfl) ?_
      refine va_get (D := D) (ci := 5) (v := .int (nI sc)) (C := "BranchLayoutModel") (T := T_Mo) (N := 17) hx hb hts in_Mo hown hK.1 hP 0 rfl rfl 1 (by decide) (hts _ w_266) (fun _ h9 => h9) rfl d_Mo_relax_160 ?_
      refine lv_icmp_ge (tgt := 236) hx hb d_Mo_relax_163 (by decide) (fun c_4 => ?_) (fun c_4 => ?_)
      · skip
        have hks : k = sc := Nat.le_antisymm hk ((nI_leI (by omega) (by omega)).mp c_4)
        refine lv_iload_n hx hb d_Mo_relax_236 rfl (lv_at hl 1 rfl) ?_
        refine zri E d_Mo_relax_237 hS (Nat.le_of_ble_eq_true rfl) (Nat.le_of_ble_eq_true rfl) ?_
        rw [hks] at hw
        refine ⟨_, rfl, zVR (zEn gp mo RW sc), by rw [hks]; exact hRx, 0, _, ?_, hw⟩
        obtain ⟨s1, s2⟩ := hst (zEn gp mo RW sc) (fun f i hf => by rw [zEn_o (by rcases hf with h | h | h | h | h | h | h <;> rw [h] <;> decide) (by rcases hf with h | h | h | h | h | h | h <;> rw [h] <;> decide)]; exact hrw f i hf)
        exact ⟨fun k hk => ⟨(s1 k hk).1, (s1 k hk).2.1, (s1 k hk).2.2.1, (s1 k hk).2.2.2.1, (s1 k hk).2.2.2.2, by simp [zVR], by simp [zVR], by simp [zVR], by simp [zVR]⟩, fun j hj => ⟨(s2 j hj).1, (s2 j hj).2, by simp [zVR]⟩, fun i hi => by simp [zVR]⟩
      · skip
        have hlt : k < sc := Nat.lt_of_not_le fun q => c_4 (nI_le q (by omega))
        obtain ⟨hv1, hv2⟩ := h10 k hlt
        obtain ⟨s1, -⟩ := hst RW hrw
        obtain ⟨r3, r4, r5, r6, r7⟩ := s1 k hlt
        obtain ⟨g1, g2, g3, g4, g5, g6⟩ := hI.2.2.1 k hlt
        have z3 : zEn gp mo RW k 3 k = RW 3 k := zEn_o (by decide) (by decide)
        have z6 : zEn gp mo RW k 6 k = RW 6 k := zEn_o (by decide) (by decide)
        have z7 : zEn gp mo RW k 7 k = RW 7 k := zEn_o (by decide) (by decide)
        have z10 : zEn gp mo RW k 10 k = RW 10 k := zEn_o (by decide) (by decide)
        have hbn : vp_nar .boolean (RW 10 k) = RW 10 k := by rcases hv1 with q | q <;> rw [q] <;> rfl
        refine lv_aload_n hx hb d_Mo_relax_166 rfl (lv_at hl 2 rfl) ?_
        refine va_get (D := D) (ci := 5) (v := .ref (q 16)) (C := "BranchLayoutModel") (T := T_Mo) (N := 17) hx hb hts in_Mo hown hK.1 hP 0 rfl rfl 16 (by decide) (hts _ w_281) (fun _ h9 => h9) rfl d_Mo_relax_167 ?_
        refine lv_iload_n hx hb d_Mo_relax_170 rfl (lv_at hl 0 rfl) ?_
        refine lv_aload_n hx hb d_Mo_relax_171 rfl (lv_at hl 2 rfl) ?_
        refine va_get (D := D) (ci := 5) (v := .ref (q 10)) (C := "BranchLayoutModel") (T := T_Mo) (N := 17) hx hb hts in_Mo hown hK.1 hP 0 rfl rfl 10 (by decide) (hts _ w_275) (fun _ h9 => h9) rfl d_Mo_relax_172 ?_
        refine lv_iload_n hx hb d_Mo_relax_175 rfl (lv_at hl 0 rfl) ?_
        refine va_zald hx hb hK.1 hP 8 1 rfl rfl (vp_in_nI (show k < 4096 by omega) (by decide)) d_Mo_relax_176 ?_
        rw [nI_clamp (show k < 2 ^ 31 by omega)]
        rw [z10]
        refine va_zast hx hb hK.1 hP hD hS 14 1 rfl rfl (vp_in_nI (show k < 4096 by omega) (by decide)) d_Mo_relax_177 (fun H locs hP hD hS => ?_)
        rw [nI_clamp (show k < 2 ^ 31 by omega), hbn, zm_set_16] at hP hD
        have y3 : (zu (zEn gp mo RW k) 16 k (RW 10 k)) 3 k = RW 3 k := by rw [zu_ne (by decide), z3]
        have y6 : (zu (zEn gp mo RW k) 16 k (RW 10 k)) 6 k = RW 6 k := by rw [zu_ne (by decide), z6]
        have y7 : (zu (zEn gp mo RW k) 16 k (RW 10 k)) 7 k = RW 7 k := by rw [zu_ne (by decide), z7]
        have y10 : (zu (zEn gp mo RW k) 16 k (RW 10 k)) 10 k = RW 10 k := by rw [zu_ne (by decide), z10]
        refine lv_aload_n hx hb d_Mo_relax_178 rfl (lv_at hl 2 rfl) ?_
        refine va_get (D := D) (ci := 5) (v := .ref (q 13)) (C := "BranchLayoutModel") (T := T_Mo) (N := 17) hx hb hts in_Mo hown hK.1 hP 0 rfl rfl 13 (by decide) (hts _ w_278) (fun _ h9 => h9) rfl d_Mo_relax_179 ?_
        refine lv_iload_n hx hb d_Mo_relax_182 rfl (lv_at hl 0 rfl) ?_
        refine lv_aload_n hx hb d_Mo_relax_183 rfl (lv_at hl 2 rfl) ?_
        refine va_get (D := D) (ci := 5) (v := .ref (q 10)) (C := "BranchLayoutModel") (T := T_Mo) (N := 17) hx hb hts in_Mo hown hK.1 hP 0 rfl rfl 10 (by decide) (hts _ w_275) (fun _ h9 => h9) rfl d_Mo_relax_184 ?_
        refine lv_iload_n hx hb d_Mo_relax_187 rfl (lv_at hl 0 rfl) ?_
        refine va_zald hx hb hK.1 hP 8 1 rfl rfl (vp_in_nI (show k < 4096 by omega) (by decide)) d_Mo_relax_188 ?_
        rw [nI_clamp (show k < 2 ^ 31 by omega)]
        rw [y10]
        refine lv_if_eq (tgt := 201) hx hb d_Mo_relax_189 (by decide) (fun c_5 => ?_) (fun c_5 => ?_)
        · skip
          have h1n : ¬ RW 10 k = 1 := by rw [c_5]; decide
          refine lv_iconst (v := 0) hx hb d_Mo_relax_201 (by decide) ?_
          refine va_iast hx hb hK.1 hP hD hS 11 0 rfl rfl (vp_in_nI (show k < 4096 by omega) (by decide)) d_Mo_relax_202 (fun H locs hP hD hS => ?_)
          rw [nI_clamp (show k < 2 ^ 31 by omega), zm_set_13] at hP hD
          have x10 : (zu (zu (zEn gp mo RW k) 16 k (RW 10 k)) 13 k 0) 10 k = RW 10 k := by rw [zu_ne (by decide), y10]
          have x3 : (zu (zu (zEn gp mo RW k) 16 k (RW 10 k)) 13 k 0) 3 k = nI (c 0 k) := by rw [zu_ne (by decide), y3, r3]
          refine lv_iload_n hx hb d_Mo_relax_203 rfl (lv_at hl 1 rfl) ?_
          refine lv_aload_n hx hb d_Mo_relax_204 rfl (lv_at hl 2 rfl) ?_
          refine va_get (D := D) (ci := 5) (v := .ref (q 3)) (C := "BranchLayoutModel") (T := T_Mo) (N := 17) hx hb hts in_Mo hown hK.1 hP 0 rfl rfl 3 (by decide) (hts _ w_268) (fun _ h9 => h9) rfl d_Mo_relax_205 ?_
          refine lv_iload_n hx hb d_Mo_relax_208 rfl (lv_at hl 0 rfl) ?_
          refine va_iald hx hb hK.1 hP 1 0 rfl rfl (vp_in_nI (show k < 4096 by omega) (by decide)) d_Mo_relax_209 ?_
          rw [nI_clamp (show k < 2 ^ 31 by omega)]
          rw [x3]
          refine lv_iconst (v := 2) hx hb d_Mo_relax_210 (by decide) ?_
          have e2 : (2 : Int32) = nI 2 := by decide
          rw [e2]
          refine lv_icmp_ne (tgt := 227) hx hb d_Mo_relax_211 (by decide) (fun c_6 => ?_) (fun c_6 => ?_)
          · skip
            have hn2 : ¬ c 0 k = 2 := fun q => c_6 (by rw [q])
            refine lv_iconst (v := 0) hx hb d_Mo_relax_227 (by decide) ?_
            have ecb : zcb c (zbr (zVB RW)) (k + 1) = zcb c (zbr (zVB RW)) k + 0 := by simp [zcb, hn2]
            have e9 : (0 : Int32) = nI 0 := by decide
            rw [e9]
            refine lv_iadd hx hb d_Mo_relax_228 ?_
            rw [nI_add]
            refine lv_istore_n (lv' := [(2, .int (nI (zcb c (zbr (zVB RW)) k + 0))), (3, .int (nI k)), (0, .ref (q 0))]) hx hb d_Mo_relax_229 rfl hl (by decide) rfl (fun ls hl => ?_)
            refine lv_iinc (v := nI (k + 1)) (lv' := [(3, .int (nI (k + 1))), (2, .int (nI (zcb c (zbr (zVB RW)) k + 0))), (0, .ref (q 0))]) hx hb d_Mo_relax_230 hl (k := 1) rfl (nI_1 k) (by decide) rfl (fun ls hl => ?_)
            refine lv_goto (tgt := 158) hx hb d_Mo_relax_233 (by decide) ?_
            have ez := zEn_s (gp := gp) (mo := mo) (R := RW) (k := k)
            rw [if_neg h1n] at ez
            exact ih (k + 1) _ _ ls hlt (by omega) ⟨by rw [← ez]; exact hP, by rw [← ez]; exact hD⟩ hS (by rw [ecb]; exact lv_sub hl [0, 1, 2] rfl)
          · skip
            have hk2 : c 0 k = 2 := (nI_eq (by omega) (by decide)).mp c_6
            refine lv_aload_n hx hb d_Mo_relax_214 rfl (lv_at hl 2 rfl) ?_
            refine va_get (D := D) (ci := 5) (v := .ref (q 10)) (C := "BranchLayoutModel") (T := T_Mo) (N := 17) hx hb hts in_Mo hown hK.1 hP 0 rfl rfl 10 (by decide) (hts _ w_275) (fun _ h9 => h9) rfl d_Mo_relax_215 ?_
            refine lv_iload_n hx hb d_Mo_relax_218 rfl (lv_at hl 0 rfl) ?_
            refine va_zald hx hb hK.1 hP 8 1 rfl rfl (vp_in_nI (show k < 4096 by omega) (by decide)) d_Mo_relax_219 ?_
            rw [nI_clamp (show k < 2 ^ 31 by omega)]
            rw [x10]
            refine lv_if_ne (tgt := 227) hx hb d_Mo_relax_220 (by decide) (fun c_7 => ?_) (fun c_7 => ?_)
            · skip
              have hbt : zbr (zVB RW) k = true := by have := hv1.resolve_left c_7; simp [zbr, zVB, this]
              refine lv_iconst (v := 0) hx hb d_Mo_relax_227 (by decide) ?_
              have ecb : zcb c (zbr (zVB RW)) (k + 1) = zcb c (zbr (zVB RW)) k + 0 := by simp [zcb, hbt]
              have e9 : (0 : Int32) = nI 0 := by decide
              rw [e9]
              refine lv_iadd hx hb d_Mo_relax_228 ?_
              rw [nI_add]
              refine lv_istore_n (lv' := [(2, .int (nI (zcb c (zbr (zVB RW)) k + 0))), (3, .int (nI k)), (0, .ref (q 0))]) hx hb d_Mo_relax_229 rfl hl (by decide) rfl (fun ls hl => ?_)
              refine lv_iinc (v := nI (k + 1)) (lv' := [(3, .int (nI (k + 1))), (2, .int (nI (zcb c (zbr (zVB RW)) k + 0))), (0, .ref (q 0))]) hx hb d_Mo_relax_230 hl (k := 1) rfl (nI_1 k) (by decide) rfl (fun ls hl => ?_)
              refine lv_goto (tgt := 158) hx hb d_Mo_relax_233 (by decide) ?_
              have ez := zEn_s (gp := gp) (mo := mo) (R := RW) (k := k)
              rw [if_neg h1n] at ez
              exact ih (k + 1) _ _ ls hlt (by omega) ⟨by rw [← ez]; exact hP, by rw [← ez]; exact hD⟩ hS (by rw [ecb]; exact lv_sub hl [0, 1, 2] rfl)
            · skip
              have hbf : zbr (zVB RW) k = false := by simp [zbr, zVB, c_7]
              refine lv_iconst (v := 1) hx hb d_Mo_relax_223 (by decide) ?_
              refine lv_goto (tgt := 228) hx hb d_Mo_relax_224 (by decide) ?_
              have ecb : zcb c (zbr (zVB RW)) (k + 1) = zcb c (zbr (zVB RW)) k + 1 := by simp [zcb, hk2, hbf]
              have e9 : (1 : Int32) = nI 1 := by decide
              rw [e9]
              refine lv_iadd hx hb d_Mo_relax_228 ?_
              rw [nI_add]
              refine lv_istore_n (lv' := [(2, .int (nI (zcb c (zbr (zVB RW)) k + 1))), (3, .int (nI k)), (0, .ref (q 0))]) hx hb d_Mo_relax_229 rfl hl (by decide) rfl (fun ls hl => ?_)
              refine lv_iinc (v := nI (k + 1)) (lv' := [(3, .int (nI (k + 1))), (2, .int (nI (zcb c (zbr (zVB RW)) k + 1))), (0, .ref (q 0))]) hx hb d_Mo_relax_230 hl (k := 1) rfl (nI_1 k) (by decide) rfl (fun ls hl => ?_)
              refine lv_goto (tgt := 158) hx hb d_Mo_relax_233 (by decide) ?_
              have ez := zEn_s (gp := gp) (mo := mo) (R := RW) (k := k)
              rw [if_neg h1n] at ez
              exact ih (k + 1) _ _ ls hlt (by omega) ⟨by rw [← ez]; exact hP, by rw [← ez]; exact hD⟩ hS (by rw [ecb]; exact lv_sub hl [0, 1, 2] rfl)
        · skip
          have h11 := hv1.resolve_left c_5
          refine lv_aload_n hx hb d_Mo_relax_192 rfl (lv_at hl 2 rfl) ?_
          refine lv_iload_n hx hb d_Mo_relax_193 rfl (lv_at hl 0 rfl) ?_
          have e6 : (zu (zEn gp mo RW k) 16 k (RW 10 k)) 6 k = gp k := by rw [y6, r6]
          have e7 : (zu (zEn gp mo RW k) 16 k (RW 10 k)) 7 k = mo k := by rw [y7, r7]
          refine zcV [.int (nI k)] [.int (nI k), .ref (q 13)] E (t_Mo_distance l D cs A q 0 sc lc (zu (zEn gp mo RW k) 16 k (RW 10 k)) hsc hlc k hlt (by rw [e6]; exact g5) (by rw [e6]; exact hv2 h11) _ ⟨hP, hD⟩) d_Mo_relax_194 w_355 w_357 ws_Mo_distance w_2 w_358 ⟨rfl, by decide +kernel, by decide +kernel, (by decide +kernel : Option.map (fun d => d.parameters.length) (parseMethodDescriptor "(I)J") = some 1)⟩ ⟨(Nat.le_of_ble_eq_true rfl), (Nat.le_of_ble_eq_true rfl)⟩ ⟨(Nat.le_of_ble_eq_true rfl), (Nat.le_of_ble_eq_true rfl)⟩ rfl (Nat.le_of_ble_eq_true rfl) hl.1 (zrec hK hP (ci := 5) (i := 0) rfl rfl) hK rfl hS (fun _ h => h.elim) (zkl fun d H2 locs2 hq _ _ hS2 => ?_)
          obtain ⟨e8, ed⟩ := hq
          subst e8
          have hS := hS2
          have ed2 : d = zdi gp mo (zVR RW) k := ed.trans (zdi_RR e6 e7 (by funext i; simp [zVR, zu, zEn]) (by funext i; simp [zVR, zu, zEn]) (by funext i; simp [zVR, zu, zEn]))
          refine lv_l2i hx hb d_Mo_relax_197 rfl ?_
          refine lv_goto (tgt := 202) hx hb d_Mo_relax_198 (by decide) ?_
          refine va_iast hx hb hK.1 hP hD hS 11 0 rfl rfl (vp_in_nI (show k < 4096 by omega) (by decide)) d_Mo_relax_202 (fun H locs hP hD hS => ?_)
          rw [nI_clamp (show k < 2 ^ 31 by omega), zm_set_13] at hP hD
          have x10 : (zu (zu (zEn gp mo RW k) 16 k (RW 10 k)) 13 k d.toInt32) 10 k = RW 10 k := by rw [zu_ne (by decide), y10]
          have x3 : (zu (zu (zEn gp mo RW k) 16 k (RW 10 k)) 13 k d.toInt32) 3 k = nI (c 0 k) := by rw [zu_ne (by decide), y3, r3]
          refine lv_iload_n hx hb d_Mo_relax_203 rfl (lv_at hl 1 rfl) ?_
          refine lv_aload_n hx hb d_Mo_relax_204 rfl (lv_at hl 2 rfl) ?_
          refine va_get (D := D) (ci := 5) (v := .ref (q 3)) (C := "BranchLayoutModel") (T := T_Mo) (N := 17) hx hb hts in_Mo hown hK.1 hP 0 rfl rfl 3 (by decide) (hts _ w_268) (fun _ h9 => h9) rfl d_Mo_relax_205 ?_
          refine lv_iload_n hx hb d_Mo_relax_208 rfl (lv_at hl 0 rfl) ?_
          refine va_iald hx hb hK.1 hP 1 0 rfl rfl (vp_in_nI (show k < 4096 by omega) (by decide)) d_Mo_relax_209 ?_
          rw [nI_clamp (show k < 2 ^ 31 by omega)]
          rw [x3]
          refine lv_iconst (v := 2) hx hb d_Mo_relax_210 (by decide) ?_
          have e2 : (2 : Int32) = nI 2 := by decide
          rw [e2]
          refine lv_icmp_ne (tgt := 227) hx hb d_Mo_relax_211 (by decide) (fun c_8 => ?_) (fun c_8 => ?_)
          · skip
            have hn2 : ¬ c 0 k = 2 := fun q => c_8 (by rw [q])
            refine lv_iconst (v := 0) hx hb d_Mo_relax_227 (by decide) ?_
            have ecb : zcb c (zbr (zVB RW)) (k + 1) = zcb c (zbr (zVB RW)) k + 0 := by simp [zcb, hn2]
            have e9 : (0 : Int32) = nI 0 := by decide
            rw [e9]
            refine lv_iadd hx hb d_Mo_relax_228 ?_
            rw [nI_add]
            refine lv_istore_n (lv' := [(2, .int (nI (zcb c (zbr (zVB RW)) k + 0))), (3, .int (nI k)), (0, .ref (q 0))]) hx hb d_Mo_relax_229 rfl hl (by decide) rfl (fun ls hl => ?_)
            refine lv_iinc (v := nI (k + 1)) (lv' := [(3, .int (nI (k + 1))), (2, .int (nI (zcb c (zbr (zVB RW)) k + 0))), (0, .ref (q 0))]) hx hb d_Mo_relax_230 hl (k := 1) rfl (nI_1 k) (by decide) rfl (fun ls hl => ?_)
            refine lv_goto (tgt := 158) hx hb d_Mo_relax_233 (by decide) ?_
            have ez := zEn_s (gp := gp) (mo := mo) (R := RW) (k := k)
            rw [if_pos h11, ← ed2] at ez
            exact ih (k + 1) _ _ ls hlt (by omega) ⟨by rw [← ez]; exact hP, by rw [← ez]; exact hD⟩ hS (by rw [ecb]; exact lv_sub hl [0, 1, 2] rfl)
          · skip
            have hk2 : c 0 k = 2 := (nI_eq (by omega) (by decide)).mp c_8
            refine lv_aload_n hx hb d_Mo_relax_214 rfl (lv_at hl 2 rfl) ?_
            refine va_get (D := D) (ci := 5) (v := .ref (q 10)) (C := "BranchLayoutModel") (T := T_Mo) (N := 17) hx hb hts in_Mo hown hK.1 hP 0 rfl rfl 10 (by decide) (hts _ w_275) (fun _ h9 => h9) rfl d_Mo_relax_215 ?_
            refine lv_iload_n hx hb d_Mo_relax_218 rfl (lv_at hl 0 rfl) ?_
            refine va_zald hx hb hK.1 hP 8 1 rfl rfl (vp_in_nI (show k < 4096 by omega) (by decide)) d_Mo_relax_219 ?_
            rw [nI_clamp (show k < 2 ^ 31 by omega)]
            rw [x10]
            refine lv_if_ne (tgt := 227) hx hb d_Mo_relax_220 (by decide) (fun c_9 => ?_) (fun c_9 => ?_)
            · skip
              have hbt : zbr (zVB RW) k = true := by have := hv1.resolve_left c_9; simp [zbr, zVB, this]
              refine lv_iconst (v := 0) hx hb d_Mo_relax_227 (by decide) ?_
              have ecb : zcb c (zbr (zVB RW)) (k + 1) = zcb c (zbr (zVB RW)) k + 0 := by simp [zcb, hbt]
              have e9 : (0 : Int32) = nI 0 := by decide
              rw [e9]
              refine lv_iadd hx hb d_Mo_relax_228 ?_
              rw [nI_add]
              refine lv_istore_n (lv' := [(2, .int (nI (zcb c (zbr (zVB RW)) k + 0))), (3, .int (nI k)), (0, .ref (q 0))]) hx hb d_Mo_relax_229 rfl hl (by decide) rfl (fun ls hl => ?_)
              refine lv_iinc (v := nI (k + 1)) (lv' := [(3, .int (nI (k + 1))), (2, .int (nI (zcb c (zbr (zVB RW)) k + 0))), (0, .ref (q 0))]) hx hb d_Mo_relax_230 hl (k := 1) rfl (nI_1 k) (by decide) rfl (fun ls hl => ?_)
              refine lv_goto (tgt := 158) hx hb d_Mo_relax_233 (by decide) ?_
              have ez := zEn_s (gp := gp) (mo := mo) (R := RW) (k := k)
              rw [if_pos h11, ← ed2] at ez
              exact ih (k + 1) _ _ ls hlt (by omega) ⟨by rw [← ez]; exact hP, by rw [← ez]; exact hD⟩ hS (by rw [ecb]; exact lv_sub hl [0, 1, 2] rfl)
            · skip
              have hbf : zbr (zVB RW) k = false := by simp [zbr, zVB, c_9]
              refine lv_iconst (v := 1) hx hb d_Mo_relax_223 (by decide) ?_
              refine lv_goto (tgt := 228) hx hb d_Mo_relax_224 (by decide) ?_
              have ecb : zcb c (zbr (zVB RW)) (k + 1) = zcb c (zbr (zVB RW)) k + 1 := by simp [zcb, hk2, hbf]
              have e9 : (1 : Int32) = nI 1 := by decide
              rw [e9]
              refine lv_iadd hx hb d_Mo_relax_228 ?_
              rw [nI_add]
              refine lv_istore_n (lv' := [(2, .int (nI (zcb c (zbr (zVB RW)) k + 1))), (3, .int (nI k)), (0, .ref (q 0))]) hx hb d_Mo_relax_229 rfl hl (by decide) rfl (fun ls hl => ?_)
              refine lv_iinc (v := nI (k + 1)) (lv' := [(3, .int (nI (k + 1))), (2, .int (nI (zcb c (zbr (zVB RW)) k + 1))), (0, .ref (q 0))]) hx hb d_Mo_relax_230 hl (k := 1) rfl (nI_1 k) (by decide) rfl (fun ls hl => ?_)
              refine lv_goto (tgt := 158) hx hb d_Mo_relax_233 (by decide) ?_
              have ez := zEn_s (gp := gp) (mo := mo) (R := RW) (k := k)
              rw [if_pos h11, ← ed2] at ez
              exact ih (k + 1) _ _ ls hlt (by omega) ⟨by rw [← ez]; exact hP, by rw [← ez]; exact hD⟩ hS (by rw [ecb]; exact lv_sub hl [0, 1, 2] rfl)
  have loopD : ∀ (rd : Nat) (RW : Nat → Nat → Int32), (∀ f i, f = 3 ∨ f = 4 ∨ f = 5 ∨ f = 6 ∨ f = 7 ∨ f = 8 ∨ f = 9 → RW f i = R f i) → (∀ k, k < sc → (RW 10 k = 0 ∨ RW 10 k = 1) ∧ (RW 10 k = 1 → ¬ gp k = -1)) → (∀ (x : Int32) (H : Heap) (locs : List Loc) (ls : Array Slot), ((x = 0 ∧ ∀ i, i < sc → ¬ (RW 10 i = 1 ∧ zok (zdi gp mo (zVR RW) i) = false)) ∨ (x = 1 ∧ ∃ i, i < sc ∧ (RW 10 i = 1 ∧ zok (zdi gp mo (zVR RW) i) = false))) → zH D A (zM q cs 0 sc lc (zDn gp mo RW sc)) H → va_S A s.heap H locs → lv_has ls 4 [(1, .int x), (2, .int (nI rd)), (0, .ref (q 0))] → W p l e ({ frames := 1, cells := 0, slots := 0, locals := 25 } : Room) s m ([.ref (q 0)] : List Value).toArray below meth cd H locs 0 0 (zQ below s ([.ref (q 0)] : List Value).toArray A (zqi fun r H => ∃ V2, zRx c gp mo sc lc V2 r ∧ zRW D A q cs sc lc c gp mo V2 H) ({ frames := 1, cells := 0, slots := 0, locals := 25 } : Room)) (F0 m 148 ls [])) → ∀ (n k : Nat) (x : Int32) (H : Heap) (locs : List Loc) (ls : Array Slot), k ≤ sc → sc + 1 ≤ k + n → ((x = 0 ∧ ∀ i, i < k → ¬ (RW 10 i = 1 ∧ zok (zdi gp mo (zVR RW) i) = false)) ∨ (x = 1 ∧ ∃ i, i < k ∧ (RW 10 i = 1 ∧ zok (zdi gp mo (zVR RW) i) = false))) → zH D A (zM q cs 0 sc lc (zDn gp mo RW k)) H → va_S A s.heap H locs → lv_has ls 4 [(3, .int (nI k)), (1, .int x), (2, .int (nI rd)), (0, .ref (q 0))] → W p l e ({ frames := 1, cells := 0, slots := 0, locals := 25 } : Room) s m ([.ref (q 0)] : List Value).toArray below meth cd H locs 0 0 (zQ below s ([.ref (q 0)] : List Value).toArray A (zqi fun r H => ∃ V2, zRx c gp mo sc lc V2 r ∧ zRW D A q cs sc lc c gp mo V2 H) ({ frames := 1, cells := 0, slots := 0, locals := 25 } : Room)) (F0 m 89 ls []) := by
    intro rd RW hrw h10 kd n
    induction n with
    | zero => intro k x H locs ls h1 h2; omega
    | succ n ih =>
      intro k x H locs ls hk hn hxx hw hS hl
      obtain ⟨hP, hD⟩ := id hw
      refine lv_iload_n hx hb d_Mo_relax_89 rfl (lv_at hl 0 rfl) ?_
      refine lv_aload_n hx hb d_Mo_relax_90 rfl (lv_at hl 3 rfl) ?_
      refine va_get (D := D) (ci := 5) (v := .int (nI sc)) (C := "BranchLayoutModel") (T := T_Mo) (N := 17) hx hb hts in_Mo hown hK.1 hP 0 rfl rfl 1 (by decide) (hts _ w_266) (fun _ h9 => h9) rfl d_Mo_relax_91 ?_
      refine lv_icmp_ge (tgt := 148) hx hb d_Mo_relax_94 (by decide) (fun c_10 => ?_) (fun c_10 => ?_)
      · skip
        have hks : k = sc := Nat.le_antisymm hk ((nI_leI (by omega) (by omega)).mp c_10)
        rw [hks] at hw hxx
        exact kd x _ _ ls hxx hw hS (lv_sub hl [1, 2, 3] rfl)
      · skip
        have hlt : k < sc := Nat.lt_of_not_le fun q => c_10 (nI_le q (by omega))
        obtain ⟨hv1, hv2⟩ := h10 k hlt
        obtain ⟨s1, -⟩ := hst RW hrw
        obtain ⟨r3, r4, r5, r6, r7⟩ := s1 k hlt
        obtain ⟨g1, g2, g3, g4, g5, g6⟩ := hI.2.2.1 k hlt
        have hno : ¬ (RW 10 k = 1 ∧ zok (zdi gp mo (zVR RW) k) = false) → ((x = 0 ∧ ∀ i, i < (k + 1) → ¬ (RW 10 i = 1 ∧ zok (zdi gp mo (zVR RW) i) = false)) ∨ (x = 1 ∧ ∃ i, i < (k + 1) ∧ (RW 10 i = 1 ∧ zok (zdi gp mo (zVR RW) i) = false))) := fun hbad => by
          rcases hxx with ⟨h1, h2⟩ | ⟨h1, i, hi, h2⟩
          · refine Or.inl ⟨h1, fun i hi => ?_⟩
            rcases Nat.lt_or_ge i k with q | q
            · exact h2 i q
            · have e9 : i = k := by omega
              rw [e9]; exact hbad
          · exact Or.inr ⟨h1, i, by omega, h2⟩
        have z6 : zDn gp mo RW k 6 k = RW 6 k := zDn_o (by decide)
        have z7 : zDn gp mo RW k 7 k = RW 7 k := zDn_o (by decide)
        have e6 : zDn gp mo RW k 6 k = gp k := by rw [z6, r6]
        have e7 : zDn gp mo RW k 7 k = mo k := by rw [z7, r7]
        refine lv_aload_n hx hb d_Mo_relax_97 rfl (lv_at hl 3 rfl) ?_
        refine va_get (D := D) (ci := 5) (v := .ref (q 10)) (C := "BranchLayoutModel") (T := T_Mo) (N := 17) hx hb hts in_Mo hown hK.1 hP 0 rfl rfl 10 (by decide) (hts _ w_275) (fun _ h9 => h9) rfl d_Mo_relax_98 ?_
        refine lv_iload_n hx hb d_Mo_relax_101 rfl (lv_at hl 0 rfl) ?_
        refine va_zald hx hb hK.1 hP 8 1 rfl rfl (vp_in_nI (show k < 4096 by omega) (by decide)) d_Mo_relax_102 ?_
        rw [nI_clamp (show k < 2 ^ 31 by omega)]
        rw [zDn_k]
        refine lv_if_eq (tgt := 142) hx hb d_Mo_relax_103 (by decide) (fun c_11 => ?_) (fun c_11 => ?_)
        · skip
          have hbad : ¬ (RW 10 k = 1 ∧ zok (zdi gp mo (zVR RW) k) = false) := fun q => by rw [c_11] at q; exact absurd q.1 (by decide)
          refine lv_iinc (v := nI (k + 1)) (lv' := [(3, .int (nI (k + 1))), (1, .int x), (2, .int (nI rd)), (0, .ref (q 0))]) hx hb d_Mo_relax_142 hl (k := 0) rfl (nI_1 k) (by decide) rfl (fun ls hl => ?_)
          refine lv_goto (tgt := 89) hx hb d_Mo_relax_145 (by decide) ?_
          exact ih (k + 1) x _ _ ls hlt (by omega) (hno hbad) (by rw [← zDn_n hbad]; exact hw) hS (lv_sub hl [0, 1, 2, 3] rfl)
        · skip
          have h11 := hv1.resolve_left c_11
          refine lv_aload_n hx hb d_Mo_relax_106 rfl (lv_at hl 3 rfl) ?_
          refine lv_iload_n hx hb d_Mo_relax_107 rfl (lv_at hl 0 rfl) ?_
          refine zcV [.int (nI k)] [] E (t_Mo_distance l D cs A q 0 sc lc (zDn gp mo RW k) hsc hlc k hlt (by rw [e6]; exact g5) (by rw [e6]; exact hv2 h11) _ hw) d_Mo_relax_108 w_355 w_357 ws_Mo_distance w_2 w_358 ⟨rfl, by decide +kernel, by decide +kernel, (by decide +kernel : Option.map (fun d => d.parameters.length) (parseMethodDescriptor "(I)J") = some 1)⟩ ⟨(Nat.le_of_ble_eq_true rfl), (Nat.le_of_ble_eq_true rfl)⟩ ⟨(Nat.le_of_ble_eq_true rfl), (Nat.le_of_ble_eq_true rfl)⟩ rfl (Nat.le_of_ble_eq_true rfl) hl.1 (zrec hK hP (ci := 5) (i := 0) rfl rfl) hK rfl hS (fun _ h => h.elim) (zkl fun da Hda locsda hq _ _ hSda => ?_)
          obtain ⟨e8, erda⟩ := hq
          subst e8
          have hS := hSda
          have eda : da = zdi gp mo (zVR RW) k := erda.trans (zdi_RR e6 e7 (by rw [zDn_V]) (by rw [zDn_V]) (by rw [zDn_V]))
          refine lv_ldc2 (v := (-128)) hx hb hown (hts _ w_359) d_Mo_relax_111 ?_
          refine W.lcmp hx hb d_Mo_relax_114 ?_
          refine lv_if_lt (tgt := 133) hx hb d_Mo_relax_115 (by decide) (fun c_12 => ?_) (fun c_12 => ?_)
          · skip
            have hbad : RW 10 k = 1 ∧ zok (zdi gp mo (zVR RW) k) = false := ⟨h11, by rw [← eda]; simp only [zok]; rw [decide_eq_false (Int64.not_le.mpr ((lg_cmp_lt _ _).mp c_12))]; rfl⟩
            refine lv_aload_n hx hb d_Mo_relax_133 rfl (lv_at hl 3 rfl) ?_
            refine va_get (D := D) (ci := 5) (v := .ref (q 10)) (C := "BranchLayoutModel") (T := T_Mo) (N := 17) hx hb hts in_Mo hown hK.1 hP 0 rfl rfl 10 (by decide) (hts _ w_275) (fun _ h9 => h9) rfl d_Mo_relax_134 ?_
            refine lv_iload_n hx hb d_Mo_relax_137 rfl (lv_at hl 0 rfl) ?_
            refine lv_iconst (v := 0) hx hb d_Mo_relax_138 (by decide) ?_
            refine va_zast hx hb hK.1 hP hD hS 8 1 rfl rfl (vp_in_nI (show k < 4096 by omega) (by decide)) d_Mo_relax_139 (fun H locs hP hD hS => ?_)
            rw [nI_clamp (show k < 2 ^ 31 by omega), zm_b0, zm_set_10] at hP hD
            refine lv_iconst (v := 1) hx hb d_Mo_relax_140 (by decide) ?_
            refine lv_istore_n (lv' := [(1, .int 1), (3, .int (nI k)), (2, .int (nI rd)), (0, .ref (q 0))]) hx hb d_Mo_relax_141 rfl hl (by decide) rfl (fun ls hl => ?_)
            refine lv_iinc (v := nI (k + 1)) (lv' := [(3, .int (nI (k + 1))), (1, .int 1), (2, .int (nI rd)), (0, .ref (q 0))]) hx hb d_Mo_relax_142 hl (k := 1) rfl (nI_1 k) (by decide) rfl (fun ls hl => ?_)
            refine lv_goto (tgt := 89) hx hb d_Mo_relax_145 (by decide) ?_
            exact ih (k + 1) 1 _ _ ls hlt (by omega) (Or.inr ⟨rfl, k, by omega, hbad⟩) ⟨by rw [← zDn_b hbad]; exact hP, by rw [← zDn_b hbad]; exact hD⟩ hS (lv_sub hl [0, 1, 2, 3] rfl)
          · skip
            refine lv_aload_n hx hb d_Mo_relax_118 rfl (lv_at hl 3 rfl) ?_
            refine lv_iload_n hx hb d_Mo_relax_119 rfl (lv_at hl 0 rfl) ?_
            refine zcV [.int (nI k)] [] E (t_Mo_distance l D cs A q 0 sc lc (zDn gp mo RW k) hsc hlc k hlt (by rw [e6]; exact g5) (by rw [e6]; exact hv2 h11) _ hw) d_Mo_relax_120 w_355 w_357 ws_Mo_distance w_2 w_358 ⟨rfl, by decide +kernel, by decide +kernel, (by decide +kernel : Option.map (fun d => d.parameters.length) (parseMethodDescriptor "(I)J") = some 1)⟩ ⟨(Nat.le_of_ble_eq_true rfl), (Nat.le_of_ble_eq_true rfl)⟩ ⟨(Nat.le_of_ble_eq_true rfl), (Nat.le_of_ble_eq_true rfl)⟩ rfl (Nat.le_of_ble_eq_true rfl) hl.1 (zrec hK hP (ci := 5) (i := 0) rfl rfl) hK rfl hS (fun _ h => h.elim) (zkl fun db Hdb locsdb hq _ _ hSdb => ?_)
            obtain ⟨e8, erdb⟩ := hq
            subst e8
            have hS := hSdb
            have edb : db = zdi gp mo (zVR RW) k := erdb.trans (zdi_RR e6 e7 (by rw [zDn_V]) (by rw [zDn_V]) (by rw [zDn_V]))
            refine lv_ldc2 (v := 127) hx hb hown (hts _ w_360) d_Mo_relax_123 ?_
            refine W.lcmp hx hb d_Mo_relax_126 ?_
            refine lv_if_gt (tgt := 133) hx hb d_Mo_relax_127 (by decide) (fun c_13 => ?_) (fun c_13 => ?_)
            · skip
              have hbad : RW 10 k = 1 ∧ zok (zdi gp mo (zVR RW) k) = false := ⟨h11, by rw [← edb]; simp only [zok]; rw [decide_eq_false (p := db ≤ 127) (Int64.not_le.mpr ((lg_cmp_gt _ _).mp c_13))]; exact Bool.and_false _⟩
              refine lv_aload_n hx hb d_Mo_relax_133 rfl (lv_at hl 3 rfl) ?_
              refine va_get (D := D) (ci := 5) (v := .ref (q 10)) (C := "BranchLayoutModel") (T := T_Mo) (N := 17) hx hb hts in_Mo hown hK.1 hP 0 rfl rfl 10 (by decide) (hts _ w_275) (fun _ h9 => h9) rfl d_Mo_relax_134 ?_
              refine lv_iload_n hx hb d_Mo_relax_137 rfl (lv_at hl 0 rfl) ?_
              refine lv_iconst (v := 0) hx hb d_Mo_relax_138 (by decide) ?_
              refine va_zast hx hb hK.1 hP hD hS 8 1 rfl rfl (vp_in_nI (show k < 4096 by omega) (by decide)) d_Mo_relax_139 (fun H locs hP hD hS => ?_)
              rw [nI_clamp (show k < 2 ^ 31 by omega), zm_b0, zm_set_10] at hP hD
              refine lv_iconst (v := 1) hx hb d_Mo_relax_140 (by decide) ?_
              refine lv_istore_n (lv' := [(1, .int 1), (3, .int (nI k)), (2, .int (nI rd)), (0, .ref (q 0))]) hx hb d_Mo_relax_141 rfl hl (by decide) rfl (fun ls hl => ?_)
              refine lv_iinc (v := nI (k + 1)) (lv' := [(3, .int (nI (k + 1))), (1, .int 1), (2, .int (nI rd)), (0, .ref (q 0))]) hx hb d_Mo_relax_142 hl (k := 1) rfl (nI_1 k) (by decide) rfl (fun ls hl => ?_)
              refine lv_goto (tgt := 89) hx hb d_Mo_relax_145 (by decide) ?_
              exact ih (k + 1) 1 _ _ ls hlt (by omega) (Or.inr ⟨rfl, k, by omega, hbad⟩) ⟨by rw [← zDn_b hbad]; exact hP, by rw [← zDn_b hbad]; exact hD⟩ hS (lv_sub hl [0, 1, 2, 3] rfl)
            · skip
              have edd : db = da := by rw [edb, eda]
              have hbad : ¬ (RW 10 k = 1 ∧ zok (zdi gp mo (zVR RW) k) = false) := fun q => by
                have q2 := q.2
                rw [← eda] at q2
                simp only [zok] at q2
                rw [decide_eq_true (Int64.not_lt.mp fun z => c_12 ((lg_cmp_lt _ _).mpr z)), decide_eq_true (Int64.not_lt.mp fun z => c_13 ((lg_cmp_gt _ _).mpr (by rw [edd]; exact z)))] at q2
                exact Bool.noConfusion q2
              refine lv_goto (tgt := 142) hx hb d_Mo_relax_130 (by decide) ?_
              refine lv_iinc (v := nI (k + 1)) (lv' := [(3, .int (nI (k + 1))), (1, .int x), (2, .int (nI rd)), (0, .ref (q 0))]) hx hb d_Mo_relax_142 hl (k := 0) rfl (nI_1 k) (by decide) rfl (fun ls hl => ?_)
              refine lv_goto (tgt := 89) hx hb d_Mo_relax_145 (by decide) ?_
              exact ih (k + 1) x _ _ ls hlt (by omega) (hno hbad) (by rw [← zDn_n hbad]; exact hw) hS (lv_sub hl [0, 1, 2, 3] rfl)
  have loopB : ∀ (n rd : Nat) (RW : Nat → Nat → Int32) (H : Heap) (locs : List Loc) (ls : Array Slot), (∀ f i, f = 3 ∨ f = 4 ∨ f = 5 ∨ f = 6 ∨ f = 7 ∨ f = 8 ∨ f = 9 → RW f i = R f i) → zcs (zVB RW) sc + rd ≤ sc → sc + 1 ≤ rd + n → zMid c gp mo sc (zVB RW) → zH D A (zM q cs 0 sc lc (RW)) H → va_S A s.heap H locs → lv_has ls 4 [(2, .int (nI rd)), (1, .int 1), (0, .ref (q 0))] → W p l e ({ frames := 1, cells := 0, slots := 0, locals := 25 } : Room) s m ([.ref (q 0)] : List Value).toArray below meth cd H locs 0 0 (zQ below s ([.ref (q 0)] : List Value).toArray A (zqi fun r H => ∃ V2, zRx c gp mo sc lc V2 r ∧ zRW D A q cs sc lc c gp mo V2 H) ({ frames := 1, cells := 0, slots := 0, locals := 25 } : Room)) (F0 m 56 ls []) := by
    intro n
    induction n with
    | zero => intro rd RW H locs ls h0 h1 h2; omega
    | succ n ih =>
      intro rd RW H locs ls hrw hcs hn hM hw hS hl
      obtain ⟨hP, hD⟩ := id hw
      refine lv_iload_n hx hb d_Mo_relax_56 rfl (lv_at hl 0 rfl) ?_
      refine lv_sipush (v := 5000) hx hb d_Mo_relax_57 (by decide) ?_
      have e5000 : (5000 : Int32) = nI 5000 := by decide
      rw [e5000]
      refine lv_icmp_ge (tgt := 154) hx hb d_Mo_relax_60 (by decide) (fun c_14 => ?_) (fun c_14 => ?_)
      · skip
        exact absurd ((nI_leI (by decide) (by omega)).mp c_14) (by omega)
      · skip
        refine lv_iload_n hx hb d_Mo_relax_63 rfl (lv_at hl 1 rfl) ?_
        refine lv_if_eq (tgt := 154) hx hb d_Mo_relax_64 (by decide) (fun c_15 => ?_) (fun c_15 => ?_)
        · skip
          exact absurd c_15 (by decide)
        · skip
          have hbr : ∀ k, k < sc → RW 10 k = (if zbr (zVB RW) k then 1 else 0) := fun k hk => by
            have := (hM.1 k hk).1
            rw [zVB2] at this
            rcases this with q | q <;> simp [zbr, zVB, q]
          have hsame : ∀ RX : Nat → Nat → Int32, (∀ f i, f ≠ 11 → f ≠ 12 → f ≠ 14 → f ≠ 15 → RX f i = RW f i) → (∀ f i, f = 3 ∨ f = 4 ∨ f = 5 ∨ f = 6 ∨ f = 7 ∨ f = 8 ∨ f = 9 → RX f i = R f i) := fun RX h f i hf => by
            rw [h f i (by rcases hf with h | h | h | h | h | h | h <;> rw [h] <;> decide) (by rcases hf with h | h | h | h | h | h | h <;> rw [h] <;> decide) (by rcases hf with h | h | h | h | h | h | h <;> rw [h] <;> decide) (by rcases hf with h | h | h | h | h | h | h <;> rw [h] <;> decide)]
            exact hrw f i hf
          refine lv_iconst (v := 0) hx hb d_Mo_relax_67 (by decide) ?_
          refine lv_istore_n (lv' := [(3, .int 0), (2, .int (nI rd)), (1, .int 1), (0, .ref (q 0))]) hx hb d_Mo_relax_68 rfl hl (by decide) rfl (fun ls hl => ?_)
          refine lv_iload_n hx hb d_Mo_relax_69 rfl (lv_at hl 0 rfl) ?_
          refine lv_iconst (v := 4) hx hb d_Mo_relax_70 (by decide) ?_
          refine lv_icmp_ge (tgt := 85) hx hb d_Mo_relax_71 (by decide) (fun c_16 => ?_) (fun c_16 => ?_)
          · skip
            exact absurd c_16 (by decide)
          · skip
            refine lv_aload_n hx hb d_Mo_relax_74 rfl (lv_at hl 3 rfl) ?_
            refine lv_iload_n hx hb d_Mo_relax_75 rfl (lv_at hl 0 rfl) ?_
            have hx0 : ∀ f i, f ≠ 11 → f ≠ 12 → f ≠ 14 → f ≠ 15 → (RW) f i = RW f i := fun f i h1 h2 h3 h4 => by rfl
            obtain ⟨s1, s2⟩ := hst (RW) (hsame _ hx0)
            have hR0 : ∀ k, k < sc → (RW) 3 k = nI (c 0 k) ∧ (RW) 4 k = nI (c 1 k) ∧ (RW) 5 k = nI (c 2 k) ∧ (RW) 10 k = (if zbr (zVB RW) k then 1 else 0) := fun k hk => ⟨(s1 k hk).1, (s1 k hk).2.1, (s1 k hk).2.2.1, by rw [hx0 10 k (by decide) (by decide) (by decide) (by decide)]; exact hbr k hk⟩
            have et0 : (0 : Int32) = nI 0 := by decide
            refine lv_topi (fun z ez => ?_)
            rw [et0] at ez
            subst ez
            refine zcV [.int (nI 0)] [] E (t_Mo_walk l D cs A q 0 sc lc (RW) c gp (zbr (zVB RW)) hI hR0 s2 0 (by decide)) d_Mo_relax_76 w_351 w_353 ws_Mo_walk w_2 w_354 ⟨rfl, by decide +kernel, by decide +kernel, (by decide +kernel : Option.map (fun d => d.parameters.length) (parseMethodDescriptor "(I)V") = some 1)⟩ ⟨(Nat.le_of_ble_eq_true rfl), (Nat.le_of_ble_eq_true rfl)⟩ ⟨(Nat.le_of_ble_eq_true rfl), (Nat.le_of_ble_eq_true rfl)⟩ rfl (Nat.le_of_ble_eq_true rfl) hl.1 (zrec hK hP (ci := 5) (i := 0) rfl rfl) hK ⟨hP, hD⟩ hS (fun _ h => h) (zkv fun H locs hq _ _ hS => ?_)
            have hw : zH D A (zM q cs 0 sc lc (zW1 c (zbr (zVB RW)) sc lc RW 0)) H := hq
            obtain ⟨hP, hD⟩ := id hw
            refine lv_iinc (v := 1) (lv' := [(3, .int 1), (2, .int (nI rd)), (1, .int 1), (0, .ref (q 0))]) hx hb d_Mo_relax_79 hl (k := 0) rfl (by decide) (by decide) rfl (fun ls hl => ?_)
            refine lv_goto (tgt := 69) hx hb d_Mo_relax_82 (by decide) ?_
            refine lv_iload_n hx hb d_Mo_relax_69 rfl (lv_at hl 0 rfl) ?_
            refine lv_iconst (v := 4) hx hb d_Mo_relax_70 (by decide) ?_
            refine lv_icmp_ge (tgt := 85) hx hb d_Mo_relax_71 (by decide) (fun c_17 => ?_) (fun c_17 => ?_)
            · skip
              exact absurd c_17 (by decide)
            · skip
              refine lv_aload_n hx hb d_Mo_relax_74 rfl (lv_at hl 3 rfl) ?_
              refine lv_iload_n hx hb d_Mo_relax_75 rfl (lv_at hl 0 rfl) ?_
              have hx1 : ∀ f i, f ≠ 11 → f ≠ 12 → f ≠ 14 → f ≠ 15 → (zW1 c (zbr (zVB RW)) sc lc RW 0) f i = RW f i := fun f i h1 h2 h3 h4 => by rw [zW1_o h1 h2 h3 h4]
              obtain ⟨s1, s2⟩ := hst (zW1 c (zbr (zVB RW)) sc lc RW 0) (hsame _ hx1)
              have hR1 : ∀ k, k < sc → (zW1 c (zbr (zVB RW)) sc lc RW 0) 3 k = nI (c 0 k) ∧ (zW1 c (zbr (zVB RW)) sc lc RW 0) 4 k = nI (c 1 k) ∧ (zW1 c (zbr (zVB RW)) sc lc RW 0) 5 k = nI (c 2 k) ∧ (zW1 c (zbr (zVB RW)) sc lc RW 0) 10 k = (if zbr (zVB RW) k then 1 else 0) := fun k hk => ⟨(s1 k hk).1, (s1 k hk).2.1, (s1 k hk).2.2.1, by rw [hx1 10 k (by decide) (by decide) (by decide) (by decide)]; exact hbr k hk⟩
              have et1 : (1 : Int32) = nI 1 := by decide
              refine lv_topi (fun z ez => ?_)
              rw [et1] at ez
              subst ez
              refine zcV [.int (nI 1)] [] E (t_Mo_walk l D cs A q 0 sc lc (zW1 c (zbr (zVB RW)) sc lc RW 0) c gp (zbr (zVB RW)) hI hR1 s2 1 (by decide)) d_Mo_relax_76 w_351 w_353 ws_Mo_walk w_2 w_354 ⟨rfl, by decide +kernel, by decide +kernel, (by decide +kernel : Option.map (fun d => d.parameters.length) (parseMethodDescriptor "(I)V") = some 1)⟩ ⟨(Nat.le_of_ble_eq_true rfl), (Nat.le_of_ble_eq_true rfl)⟩ ⟨(Nat.le_of_ble_eq_true rfl), (Nat.le_of_ble_eq_true rfl)⟩ rfl (Nat.le_of_ble_eq_true rfl) hl.1 (zrec hK hP (ci := 5) (i := 0) rfl rfl) hK ⟨hP, hD⟩ hS (fun _ h => h) (zkv fun H locs hq _ _ hS => ?_)
              have hw : zH D A (zM q cs 0 sc lc (zW1 c (zbr (zVB RW)) sc lc (zW1 c (zbr (zVB RW)) sc lc RW 0) 1)) H := hq
              obtain ⟨hP, hD⟩ := id hw
              refine lv_iinc (v := 2) (lv' := [(3, .int 2), (2, .int (nI rd)), (1, .int 1), (0, .ref (q 0))]) hx hb d_Mo_relax_79 hl (k := 0) rfl (by decide) (by decide) rfl (fun ls hl => ?_)
              refine lv_goto (tgt := 69) hx hb d_Mo_relax_82 (by decide) ?_
              refine lv_iload_n hx hb d_Mo_relax_69 rfl (lv_at hl 0 rfl) ?_
              refine lv_iconst (v := 4) hx hb d_Mo_relax_70 (by decide) ?_
              refine lv_icmp_ge (tgt := 85) hx hb d_Mo_relax_71 (by decide) (fun c_18 => ?_) (fun c_18 => ?_)
              · skip
                exact absurd c_18 (by decide)
              · skip
                refine lv_aload_n hx hb d_Mo_relax_74 rfl (lv_at hl 3 rfl) ?_
                refine lv_iload_n hx hb d_Mo_relax_75 rfl (lv_at hl 0 rfl) ?_
                have hx2 : ∀ f i, f ≠ 11 → f ≠ 12 → f ≠ 14 → f ≠ 15 → (zW1 c (zbr (zVB RW)) sc lc (zW1 c (zbr (zVB RW)) sc lc RW 0) 1) f i = RW f i := fun f i h1 h2 h3 h4 => by rw [zW1_o h1 h2 h3 h4, zW1_o h1 h2 h3 h4]
                obtain ⟨s1, s2⟩ := hst (zW1 c (zbr (zVB RW)) sc lc (zW1 c (zbr (zVB RW)) sc lc RW 0) 1) (hsame _ hx2)
                have hR2 : ∀ k, k < sc → (zW1 c (zbr (zVB RW)) sc lc (zW1 c (zbr (zVB RW)) sc lc RW 0) 1) 3 k = nI (c 0 k) ∧ (zW1 c (zbr (zVB RW)) sc lc (zW1 c (zbr (zVB RW)) sc lc RW 0) 1) 4 k = nI (c 1 k) ∧ (zW1 c (zbr (zVB RW)) sc lc (zW1 c (zbr (zVB RW)) sc lc RW 0) 1) 5 k = nI (c 2 k) ∧ (zW1 c (zbr (zVB RW)) sc lc (zW1 c (zbr (zVB RW)) sc lc RW 0) 1) 10 k = (if zbr (zVB RW) k then 1 else 0) := fun k hk => ⟨(s1 k hk).1, (s1 k hk).2.1, (s1 k hk).2.2.1, by rw [hx2 10 k (by decide) (by decide) (by decide) (by decide)]; exact hbr k hk⟩
                have et2 : (2 : Int32) = nI 2 := by decide
                refine lv_topi (fun z ez => ?_)
                rw [et2] at ez
                subst ez
                refine zcV [.int (nI 2)] [] E (t_Mo_walk l D cs A q 0 sc lc (zW1 c (zbr (zVB RW)) sc lc (zW1 c (zbr (zVB RW)) sc lc RW 0) 1) c gp (zbr (zVB RW)) hI hR2 s2 2 (by decide)) d_Mo_relax_76 w_351 w_353 ws_Mo_walk w_2 w_354 ⟨rfl, by decide +kernel, by decide +kernel, (by decide +kernel : Option.map (fun d => d.parameters.length) (parseMethodDescriptor "(I)V") = some 1)⟩ ⟨(Nat.le_of_ble_eq_true rfl), (Nat.le_of_ble_eq_true rfl)⟩ ⟨(Nat.le_of_ble_eq_true rfl), (Nat.le_of_ble_eq_true rfl)⟩ rfl (Nat.le_of_ble_eq_true rfl) hl.1 (zrec hK hP (ci := 5) (i := 0) rfl rfl) hK ⟨hP, hD⟩ hS (fun _ h => h) (zkv fun H locs hq _ _ hS => ?_)
                have hw : zH D A (zM q cs 0 sc lc (zW1 c (zbr (zVB RW)) sc lc (zW1 c (zbr (zVB RW)) sc lc (zW1 c (zbr (zVB RW)) sc lc RW 0) 1) 2)) H := hq
                obtain ⟨hP, hD⟩ := id hw
                refine lv_iinc (v := 3) (lv' := [(3, .int 3), (2, .int (nI rd)), (1, .int 1), (0, .ref (q 0))]) hx hb d_Mo_relax_79 hl (k := 0) rfl (by decide) (by decide) rfl (fun ls hl => ?_)
                refine lv_goto (tgt := 69) hx hb d_Mo_relax_82 (by decide) ?_
                refine lv_iload_n hx hb d_Mo_relax_69 rfl (lv_at hl 0 rfl) ?_
                refine lv_iconst (v := 4) hx hb d_Mo_relax_70 (by decide) ?_
                refine lv_icmp_ge (tgt := 85) hx hb d_Mo_relax_71 (by decide) (fun c_19 => ?_) (fun c_19 => ?_)
                · skip
                  exact absurd c_19 (by decide)
                · skip
                  refine lv_aload_n hx hb d_Mo_relax_74 rfl (lv_at hl 3 rfl) ?_
                  refine lv_iload_n hx hb d_Mo_relax_75 rfl (lv_at hl 0 rfl) ?_
                  have hx3 : ∀ f i, f ≠ 11 → f ≠ 12 → f ≠ 14 → f ≠ 15 → (zW1 c (zbr (zVB RW)) sc lc (zW1 c (zbr (zVB RW)) sc lc (zW1 c (zbr (zVB RW)) sc lc RW 0) 1) 2) f i = RW f i := fun f i h1 h2 h3 h4 => by rw [zW1_o h1 h2 h3 h4, zW1_o h1 h2 h3 h4, zW1_o h1 h2 h3 h4]
                  obtain ⟨s1, s2⟩ := hst (zW1 c (zbr (zVB RW)) sc lc (zW1 c (zbr (zVB RW)) sc lc (zW1 c (zbr (zVB RW)) sc lc RW 0) 1) 2) (hsame _ hx3)
                  have hR3 : ∀ k, k < sc → (zW1 c (zbr (zVB RW)) sc lc (zW1 c (zbr (zVB RW)) sc lc (zW1 c (zbr (zVB RW)) sc lc RW 0) 1) 2) 3 k = nI (c 0 k) ∧ (zW1 c (zbr (zVB RW)) sc lc (zW1 c (zbr (zVB RW)) sc lc (zW1 c (zbr (zVB RW)) sc lc RW 0) 1) 2) 4 k = nI (c 1 k) ∧ (zW1 c (zbr (zVB RW)) sc lc (zW1 c (zbr (zVB RW)) sc lc (zW1 c (zbr (zVB RW)) sc lc RW 0) 1) 2) 5 k = nI (c 2 k) ∧ (zW1 c (zbr (zVB RW)) sc lc (zW1 c (zbr (zVB RW)) sc lc (zW1 c (zbr (zVB RW)) sc lc RW 0) 1) 2) 10 k = (if zbr (zVB RW) k then 1 else 0) := fun k hk => ⟨(s1 k hk).1, (s1 k hk).2.1, (s1 k hk).2.2.1, by rw [hx3 10 k (by decide) (by decide) (by decide) (by decide)]; exact hbr k hk⟩
                  have et3 : (3 : Int32) = nI 3 := by decide
                  refine lv_topi (fun z ez => ?_)
                  rw [et3] at ez
                  subst ez
                  refine zcV [.int (nI 3)] [] E (t_Mo_walk l D cs A q 0 sc lc (zW1 c (zbr (zVB RW)) sc lc (zW1 c (zbr (zVB RW)) sc lc (zW1 c (zbr (zVB RW)) sc lc RW 0) 1) 2) c gp (zbr (zVB RW)) hI hR3 s2 3 (by decide)) d_Mo_relax_76 w_351 w_353 ws_Mo_walk w_2 w_354 ⟨rfl, by decide +kernel, by decide +kernel, (by decide +kernel : Option.map (fun d => d.parameters.length) (parseMethodDescriptor "(I)V") = some 1)⟩ ⟨(Nat.le_of_ble_eq_true rfl), (Nat.le_of_ble_eq_true rfl)⟩ ⟨(Nat.le_of_ble_eq_true rfl), (Nat.le_of_ble_eq_true rfl)⟩ rfl (Nat.le_of_ble_eq_true rfl) hl.1 (zrec hK hP (ci := 5) (i := 0) rfl rfl) hK ⟨hP, hD⟩ hS (fun _ h => h) (zkv fun H locs hq _ _ hS => ?_)
                  have hw : zH D A (zM q cs 0 sc lc (zW1 c (zbr (zVB RW)) sc lc (zW1 c (zbr (zVB RW)) sc lc (zW1 c (zbr (zVB RW)) sc lc (zW1 c (zbr (zVB RW)) sc lc RW 0) 1) 2) 3)) H := hq
                  obtain ⟨hP, hD⟩ := id hw
                  refine lv_iinc (v := 4) (lv' := [(3, .int 4), (2, .int (nI rd)), (1, .int 1), (0, .ref (q 0))]) hx hb d_Mo_relax_79 hl (k := 0) rfl (by decide) (by decide) rfl (fun ls hl => ?_)
                  refine lv_goto (tgt := 69) hx hb d_Mo_relax_82 (by decide) ?_
                  refine lv_iload_n hx hb d_Mo_relax_69 rfl (lv_at hl 0 rfl) ?_
                  refine lv_iconst (v := 4) hx hb d_Mo_relax_70 (by decide) ?_
                  refine lv_icmp_ge (tgt := 85) hx hb d_Mo_relax_71 (by decide) (fun c_20 => ?_) (fun c_20 => ?_)
                  · skip
                    have hw4 : zH D A (zM q cs 0 sc lc (zW4 c (zbr (zVB RW)) sc lc RW)) H := hw
                    have hx4 : ∀ f i, f ≠ 11 → f ≠ 12 → f ≠ 14 → f ≠ 15 → zW4 c (zbr (zVB RW)) sc lc RW f i = RW f i := fun f i h1 h2 h3 h4 => zW4_o h1 h2 h3 h4
                    have h10 : ∀ k, k < sc → (zW4 c (zbr (zVB RW)) sc lc RW 10 k = 0 ∨ zW4 c (zbr (zVB RW)) sc lc RW 10 k = 1) ∧ (zW4 c (zbr (zVB RW)) sc lc RW 10 k = 1 → ¬ gp k = -1) := fun k hk => by
                      rw [hx4 10 k (by decide) (by decide) (by decide) (by decide)]
                      have := hM.1 k hk
                      rw [zVB2] at this
                      exact ⟨this.1, fun q => (this.2.1 q).2⟩
                    refine lv_iconst (v := 0) hx hb d_Mo_relax_85 (by decide) ?_
                    refine lv_istore_n (lv' := [(1, .int 0), (3, .int 4), (2, .int (nI rd)), (0, .ref (q 0))]) hx hb d_Mo_relax_86 rfl hl (by decide) rfl (fun ls hl => ?_)
                    refine lv_iconst (v := 0) hx hb d_Mo_relax_87 (by decide) ?_
                    refine lv_istore_n (lv' := [(3, .int 0), (1, .int 0), (2, .int (nI rd)), (0, .ref (q 0))]) hx hb d_Mo_relax_88 rfl hl (by decide) rfl (fun ls hl => ?_)
                    refine loopD rd (zW4 c (zbr (zVB RW)) sc lc RW) (hsame _ hx4) h10 ?_ (sc + 1) 0 0 _ _ ls (Nat.zero_le _) (by omega) (Or.inl ⟨rfl, fun i hi => absurd hi (Nat.not_lt_zero i)⟩) (by rw [← zDn_0]; exact hw4) hS (by rw [nI_0]; exact lv_sub hl [0, 1, 2, 3] rfl)
                    intro x H locs ls hxx hw hS hl
                    obtain ⟨hP, hD⟩ := id hw
                    have hrw5 : ∀ f i, f = 3 ∨ f = 4 ∨ f = 5 ∨ f = 6 ∨ f = 7 ∨ f = 8 ∨ f = 9 → zDn gp mo (zW4 c (zbr (zVB RW)) sc lc RW) sc f i = R f i := fun f i hf => by
                      rw [zDn_o (by rcases hf with h | h | h | h | h | h | h <;> rw [h] <;> decide)]
                      exact hsame _ hx4 f i hf
                    refine lv_iinc (v := nI (rd + 1)) (lv' := [(2, .int (nI (rd + 1))), (1, .int x), (0, .ref (q 0))]) hx hb d_Mo_relax_148 hl (k := 1) rfl (nI_1 rd) (by decide) rfl (fun ls hl => ?_)
                    refine lv_goto (tgt := 56) hx hb d_Mo_relax_151 (by decide) ?_
                    rcases hxx with ⟨ex, hno⟩ | ⟨ex, hyes⟩
                    · skip
                      subst ex
                      have hRx := zMid_F hI hM hno
                      have hb5 : ∀ k, k < sc → zDn gp mo (zW4 c (zbr (zVB RW)) sc lc RW) sc 10 k = RW 10 k := fun k hk => by
                        have hn2 := hno k hk
                        simp only [zDn, hk, true_and, hn2, if_false]
                        exact hx4 10 k (by decide) (by decide) (by decide) (by decide)
                      have ecb : ∀ k, k ≤ sc → zcb c (zbr (zVB (zDn gp mo (zW4 c (zbr (zVB RW)) sc lc RW) sc))) k = zcb c (zbr (zVB RW)) k := fun k hk => zcb_congr k (fun j hj => by simp only [zbr, zVB2, hb5 j (by omega)])
                      refine lv_iload_n hx hb d_Mo_relax_56 rfl (lv_at hl 0 rfl) ?_
                      refine lv_sipush (v := 5000) hx hb d_Mo_relax_57 (by decide) ?_
                      have e5000 : (5000 : Int32) = nI 5000 := by decide
                      rw [e5000]
                      refine lv_icmp_ge (tgt := 154) hx hb d_Mo_relax_60 (by decide) (fun c_21 => ?_) (fun c_21 => ?_)
                      · skip
                        exact absurd ((nI_leI (by decide) (by omega)).mp c_21) (by omega)
                      · skip
                        refine lv_iload_n hx hb d_Mo_relax_63 rfl (lv_at hl 1 rfl) ?_
                        refine lv_if_eq (tgt := 154) hx hb d_Mo_relax_64 (by decide) (fun c_22 => ?_) (fun c_22 => ?_)
                        · skip
                          refine lv_iconst (v := 0) hx hb d_Mo_relax_154 (by decide) ?_
                          refine lv_istore_n (lv' := [(2, .int 0), (1, .int 0), (0, .ref (q 0))]) hx hb d_Mo_relax_155 rfl hl (by decide) rfl (fun ls hl => ?_)
                          refine lv_iconst (v := 0) hx hb d_Mo_relax_156 (by decide) ?_
                          refine lv_istore_n (lv' := [(3, .int 0), (2, .int 0), (1, .int 0), (0, .ref (q 0))]) hx hb d_Mo_relax_157 rfl hl (by decide) rfl (fun ls hl => ?_)
                          refine loopE _ hrw5 (fun k hk => ?_) (by rw [ecb sc (Nat.le_refl sc)]; exact hRx) (sc + 1) 0 _ _ ls (Nat.zero_le _) (by omega) (by rw [← zEn_0]; exact hw) hS (by show lv_has ls 4 [(3, .int (nI 0)), (2, .int (nI 0)), (0, .ref (q 0))]; rw [nI_0]; exact lv_sub hl [0, 1, 3] rfl)
                          have := hM.1 k hk
                          rw [zVB2] at this
                          rw [hb5 k hk]
                          exact ⟨this.1, fun z => (this.2.1 z).2⟩
                        · skip
                          exact absurd rfl c_22
                    · skip
                      subst ex
                      obtain ⟨hM2, hc2⟩ := zMid_B hI hM hyes
                      exact ih (rd + 1) _ _ _ ls hrw5 (by omega) (by omega) hM2 hw hS (lv_sub hl [0, 1, 2] rfl)
                  · skip
                    exact absurd (show (4 : Int32) ≤ 4 by decide) c_20
  have loopA : ∀ (n k : Nat) (H : Heap) (locs : List Loc) (ls : Array Slot), k ≤ sc → sc + 1 ≤ k + n → zH D A (zM q cs 0 sc lc (zBr c gp R k)) H → va_S A s.heap H locs → lv_has ls 4 [(1, .int (nI k)), (0, .ref (q 0))] → W p l e ({ frames := 1, cells := 0, slots := 0, locals := 25 } : Room) s m ([.ref (q 0)] : List Value).toArray below meth cd H locs 0 0 (zQ below s ([.ref (q 0)] : List Value).toArray A (zqi fun r H => ∃ V2, zRx c gp mo sc lc V2 r ∧ zRW D A q cs sc lc c gp mo V2 H) ({ frames := 1, cells := 0, slots := 0, locals := 25 } : Room)) (F0 m 7 ls []) := by
    intro n
    induction n with
    | zero => intro k H locs ls h1 h2; omega
    | succ n ih =>
      intro k H locs ls hk hn hw hS hl
      obtain ⟨hP, hD⟩ := id hw
      refine lv_iload_n hx hb d_Mo_relax_7 rfl (lv_at hl 0 rfl) ?_
      refine lv_aload_n hx hb d_Mo_relax_8 rfl (lv_at hl 1 rfl) ?_
      refine va_get (D := D) (ci := 5) (v := .int (nI sc)) (C := "BranchLayoutModel") (T := T_Mo) (N := 17) hx hb hts in_Mo hown hK.1 hP 0 rfl rfl 1 (by decide) (hts _ w_266) (fun _ h9 => h9) rfl d_Mo_relax_9 ?_
      refine lv_icmp_ge (tgt := 52) hx hb d_Mo_relax_12 (by decide) (fun c_23 => ?_) (fun c_23 => ?_)
      · skip
        have hks : k = sc := Nat.le_antisymm hk ((nI_leI (by omega) (by omega)).mp c_23)
        rw [hks] at hw
        refine lv_iconst (v := 1) hx hb d_Mo_relax_52 (by decide) ?_
        refine lv_istore_n (lv' := [(1, .int 1), (0, .ref (q 0))]) hx hb d_Mo_relax_53 rfl hl (by decide) rfl (fun ls hl => ?_)
        refine lv_iconst (v := 0) hx hb d_Mo_relax_54 (by decide) ?_
        refine lv_istore_n (lv' := [(2, .int 0), (1, .int 1), (0, .ref (q 0))]) hx hb d_Mo_relax_55 rfl hl (by decide) rfl (fun ls hl => ?_)
        have hcs := zcs_le (V := zVB (zBr c gp R sc)) sc
        exact loopB (sc + 1) 0 _ _ _ ls (fun f i hf => zBr_o (by rcases hf with h | h | h | h | h | h | h <;> rw [h] <;> decide)) (by omega) (by omega) (zMid_B0 hI) hw hS (by rw [nI_0]; exact lv_sub hl [0, 1, 2] rfl)
      · skip
        have hlt : k < sc := Nat.lt_of_not_le fun q => c_23 (nI_le q (by omega))
        obtain ⟨a1, a2, a3, a4, a5, a6, a7, a8, a9⟩ := hG.1 k hlt
        obtain ⟨g1, g2, g3, g4, g5, g6⟩ := hI.2.2.1 k hlt
        have z3 : zBr c gp R k 3 k = R 3 k := zBr_o (by decide)
        have z6 : zBr c gp R k 6 k = R 6 k := zBr_o (by decide)
        refine lv_aload_n hx hb d_Mo_relax_15 rfl (lv_at hl 1 rfl) ?_
        refine va_get (D := D) (ci := 5) (v := .ref (q 10)) (C := "BranchLayoutModel") (T := T_Mo) (N := 17) hx hb hts in_Mo hown hK.1 hP 0 rfl rfl 10 (by decide) (hts _ w_275) (fun _ h9 => h9) rfl d_Mo_relax_16 ?_
        refine lv_iload_n hx hb d_Mo_relax_19 rfl (lv_at hl 0 rfl) ?_
        refine lv_aload_n hx hb d_Mo_relax_20 rfl (lv_at hl 1 rfl) ?_
        refine va_get (D := D) (ci := 5) (v := .ref (q 3)) (C := "BranchLayoutModel") (T := T_Mo) (N := 17) hx hb hts in_Mo hown hK.1 hP 0 rfl rfl 3 (by decide) (hts _ w_268) (fun _ h9 => h9) rfl d_Mo_relax_21 ?_
        refine lv_iload_n hx hb d_Mo_relax_24 rfl (lv_at hl 0 rfl) ?_
        refine va_iald hx hb hK.1 hP 1 0 rfl rfl (vp_in_nI (show k < 4096 by omega) (by decide)) d_Mo_relax_25 ?_
        rw [nI_clamp (show k < 2 ^ 31 by omega)]
        rw [z3, a1]
        refine lv_iconst (v := 2) hx hb d_Mo_relax_26 (by decide) ?_
        have e2 : (2 : Int32) = nI 2 := by decide
        rw [e2]
        refine lv_icmp_ne (tgt := 44) hx hb d_Mo_relax_27 (by decide) (fun c_24 => ?_) (fun c_24 => ?_)
        · skip
          have hn2 : ¬ c 0 k = 2 := fun q => c_24 (by rw [q])
          have hz0 : ¬ zb0 c gp k = true := by simp [zb0, hn2]
          refine lv_iconst (v := 0) hx hb d_Mo_relax_44 (by decide) ?_
          refine va_zast hx hb hK.1 hP hD hS 8 1 rfl rfl (vp_in_nI (show k < 4096 by omega) (by decide)) d_Mo_relax_45 (fun H locs hP hD hS => ?_)
          rw [nI_clamp (show k < 2 ^ 31 by omega), zm_b0, zm_set_10] at hP hD
          have ez := zBr_s (c := c) (gp := gp) (R := R) (k := k)
          rw [if_neg hz0] at ez
          refine lv_iinc (v := nI (k + 1)) (lv' := [(1, .int (nI (k + 1))), (0, .ref (q 0))]) hx hb d_Mo_relax_46 hl (k := 0) rfl (nI_1 k) (by decide) rfl (fun ls hl => ?_)
          refine lv_goto (tgt := 7) hx hb d_Mo_relax_49 (by decide) ?_
          exact ih (k + 1) _ _ ls hlt (by omega) ⟨by rw [← ez]; exact hP, by rw [← ez]; exact hD⟩ hS (lv_sub hl [0, 1] rfl)
        · skip
          have hk2 : c 0 k = 2 := (nI_eq (by omega) (by decide)).mp c_24
          refine lv_aload_n hx hb d_Mo_relax_30 rfl (lv_at hl 1 rfl) ?_
          refine va_get (D := D) (ci := 5) (v := .ref (q 6)) (C := "BranchLayoutModel") (T := T_Mo) (N := 17) hx hb hts in_Mo hown hK.1 hP 0 rfl rfl 6 (by decide) (hts _ w_271) (fun _ h9 => h9) rfl d_Mo_relax_31 ?_
          refine lv_iload_n hx hb d_Mo_relax_34 rfl (lv_at hl 0 rfl) ?_
          refine va_iald hx hb hK.1 hP 4 0 rfl rfl (vp_in_nI (show k < 4096 by omega) (by decide)) d_Mo_relax_35 ?_
          rw [nI_clamp (show k < 2 ^ 31 by omega)]
          rw [z6, a4]
          refine lv_iconst (v := (-1)) hx hb d_Mo_relax_36 (by decide) ?_
          refine lv_icmp_eq (tgt := 44) hx hb d_Mo_relax_37 (by decide) (fun c_25 => ?_) (fun c_25 => ?_)
          · skip
            have hz0 : ¬ zb0 c gp k = true := by simp [zb0, c_25]
            refine lv_iconst (v := 0) hx hb d_Mo_relax_44 (by decide) ?_
            refine va_zast hx hb hK.1 hP hD hS 8 1 rfl rfl (vp_in_nI (show k < 4096 by omega) (by decide)) d_Mo_relax_45 (fun H locs hP hD hS => ?_)
            rw [nI_clamp (show k < 2 ^ 31 by omega), zm_b0, zm_set_10] at hP hD
            have ez := zBr_s (c := c) (gp := gp) (R := R) (k := k)
            rw [if_neg hz0] at ez
            refine lv_iinc (v := nI (k + 1)) (lv' := [(1, .int (nI (k + 1))), (0, .ref (q 0))]) hx hb d_Mo_relax_46 hl (k := 0) rfl (nI_1 k) (by decide) rfl (fun ls hl => ?_)
            refine lv_goto (tgt := 7) hx hb d_Mo_relax_49 (by decide) ?_
            exact ih (k + 1) _ _ ls hlt (by omega) ⟨by rw [← ez]; exact hP, by rw [← ez]; exact hD⟩ hS (lv_sub hl [0, 1] rfl)
          · skip
            have hz0 : zb0 c gp k = true := by simp [zb0, hk2, c_25]
            refine lv_iconst (v := 1) hx hb d_Mo_relax_40 (by decide) ?_
            refine lv_goto (tgt := 45) hx hb d_Mo_relax_41 (by decide) ?_
            refine va_zast hx hb hK.1 hP hD hS 8 1 rfl rfl (vp_in_nI (show k < 4096 by omega) (by decide)) d_Mo_relax_45 (fun H locs hP hD hS => ?_)
            rw [nI_clamp (show k < 2 ^ 31 by omega), zm_b1, zm_set_10] at hP hD
            have ez := zBr_s (c := c) (gp := gp) (R := R) (k := k)
            rw [if_pos hz0] at ez
            refine lv_iinc (v := nI (k + 1)) (lv' := [(1, .int (nI (k + 1))), (0, .ref (q 0))]) hx hb d_Mo_relax_46 hl (k := 0) rfl (nI_1 k) (by decide) rfl (fun ls hl => ?_)
            refine lv_goto (tgt := 7) hx hb d_Mo_relax_49 (by decide) ?_
            exact ih (k + 1) _ _ ls hlt (by omega) ⟨by rw [← ez]; exact hP, by rw [← ez]; exact hD⟩ hS (lv_sub hl [0, 1] rfl)
  exact loopA (sc + 1) 0 _ _ ls (Nat.zero_le _) (by omega) (by rw [← zBr_0]; exact ⟨hP, hD⟩) hS (by rw [nI_0]; exact lv_sub hl [0, 1] rfl)
end
section
theorem zRA_eq {U : State} {a b : ClassId} {ty : FieldType} (h1 : va_RA U a ty) (h2 : va_RA U b ty) : a = b := by
  cases ty with
  | object C =>
    obtain ⟨_, _, _, _, _, e1⟩ := h1
    obtain ⟨_, _, _, _, _, e2⟩ := h2
    exact Option.some.inj (e1.symm.trans e2)
  | _ => exact Option.some.inj (h1.symm.trans h2)
set_option maxHeartbeats 4000000 in
set_option maxRecDepth 100000 in
theorem t_BL_init (l : Launch) (D : va_G) (cs : ClassId × ClassId × ClassId × ClassId) (A : Nat → Prop) (b : Nat) : zMet l D cs y_BL_init c_BL_init 1 none ({ frames := 1, cells := 3, slots := 5124, locals := 12 } : Room) [.ref b] (fun H => zH D A [(b, .inr (4, [.null, .null, .null, .int 0, .int 0]))] H ∧ ∀ q, H.size ≤ q → A q) A (zqv fun H => ∃ o : Nat × Nat × Nat × Nat, o.1 = b ∧ zCW D A o cs 0 0 (fun _ _ => 0) (fun _ => 0) (fun _ => 0) (fun _ _ => 0) H) := by
  refine zmk (by decide) (Nat.le_of_ble_eq_true rfl) ?_
  intro p e s m below meth cd ls E hK hP0 hl
  have hS : va_S A s.heap s.heap [] := va_S.rf
  obtain ⟨⟨hP, hD⟩, hA⟩ := hP0
  obtain ⟨hx, hb, hr, hts, hown, hlocks, hml, hin⟩ := id E
  have hl : lv_has ls 1 [(0, .ref b)] := hl
  refine lv_aload_n hx hb d_BL_init_0 rfl (lv_at hl 0 rfl) ?_
  refine W.objInit hx hb hown (hts _ w_16) (hts _ w_17) (hts _ w_18) rfl (by rw [hml]; exact hl.1) rfl d_BL_init_1 (Nat.le_of_ble_eq_true rfl) (Nat.le_of_ble_eq_true rfl) ?_
  refine W.eq (g2 := F0 m 4 ls []) rfl ?_
  refine lv_aload_n hx hb d_BL_init_4 rfl (lv_at hl 0 rfl) ?_
  refine lv_sipush (v := 4096) hx hb d_BL_init_5 (by decide) ?_
  refine va_newq (n := 4096) (N' := 4096) hx hb hown (hts _ w_19) hK.2.2.2.2.2.2.2.2.2.1 hK.1 hP hD hS hA (by decide) (by decide) (by decide) (Nat.le_of_ble_eq_true rfl) (Nat.le_of_ble_eq_true rfl) d_BL_init_8 (fun q0 cA H hK2 hP hD hS => ?_)
  obtain rfl : cA = cs.2.2.1 := zRA_eq (hK2.2 4 _ rfl).2 (hK.1.2 2 _ rfl).2
  have hP : va_P D zcl [(b, .inr (4, [.null, .null, .null, .int 0, .int 0])), (q0, .inl (cs.2.2.1, 4096, .inr (.inr (.inr (.inr (fun _ => none))))))] H := hP
  have hD : va_D A [(b, .inr (4, [.null, .null, .null, .int 0, .int 0])), (q0, .inl (cs.2.2.1, 4096, .inr (.inr (.inr (.inr (fun _ => none))))))] := hD
  refine va_putF (D := D) (ci := 4) (v := .ref q0) (ty := .array (.object "BranchLayout$Statement")) (C := "BranchLayout") (T := T_BL) (N := 5) hx hb hts in_BL ty_BL ok_BL nm_BL hown hK.1 hP hD hS 0 rfl rfl 0 (by decide) (hts _ w_23) (fun _ h9 => h9) rfl hin rfl (by decide +kernel) rfl rfl (Nat.le_of_ble_eq_true rfl) d_BL_init_11 (fun H locs hP hD hS => ?_)
  have hP : va_P D zcl [(b, .inr (4, [.ref q0, .null, .null, .int 0, .int 0])), (q0, .inl (cs.2.2.1, 4096, .inr (.inr (.inr (.inr (fun _ => none))))))] H := hP
  have hD : va_D A [(b, .inr (4, [.ref q0, .null, .null, .int 0, .int 0])), (q0, .inl (cs.2.2.1, 4096, .inr (.inr (.inr (.inr (fun _ => none))))))] := hD
  refine lv_aload_n hx hb d_BL_init_14 rfl (lv_at hl 0 rfl) ?_
  refine lv_sipush (v := 1024) hx hb d_BL_init_15 (by decide) ?_
  refine va_newq (n := 1024) (N' := 1024) hx hb hown (hts _ w_21) hK.2.2.2.2.2.2.2.2.2.2.1 hK.1 hP hD hS hA (by decide) (by decide) (by decide) (Nat.le_of_ble_eq_true rfl) (Nat.le_of_ble_eq_true rfl) d_BL_init_18 (fun q1 cA H hK2 hP hD hS => ?_)
  obtain rfl : cA = cs.2.2.2 := zRA_eq (hK2.2 4 _ rfl).2 (hK.1.2 3 _ rfl).2
  have hP : va_P D zcl [(b, .inr (4, [.ref q0, .null, .null, .int 0, .int 0])), (q0, .inl (cs.2.2.1, 4096, .inr (.inr (.inr (.inr (fun _ => none)))))), (q1, .inl (cs.2.2.2, 1024, .inr (.inr (.inr (.inr (fun _ => none))))))] H := hP
  have hD : va_D A [(b, .inr (4, [.ref q0, .null, .null, .int 0, .int 0])), (q0, .inl (cs.2.2.1, 4096, .inr (.inr (.inr (.inr (fun _ => none)))))), (q1, .inl (cs.2.2.2, 1024, .inr (.inr (.inr (.inr (fun _ => none))))))] := hD
  refine va_putF (D := D) (ci := 4) (v := .ref q1) (ty := .array (.object "BranchLayout$Label")) (C := "BranchLayout") (T := T_BL) (N := 5) hx hb hts in_BL ty_BL ok_BL nm_BL hown hK.1 hP hD hS 0 rfl rfl 1 (by decide) (hts _ w_24) (fun _ h9 => h9) rfl hin rfl (by decide +kernel) rfl rfl (Nat.le_of_ble_eq_true rfl) d_BL_init_21 (fun H locs hP hD hS => ?_)
  have hP : va_P D zcl [(b, .inr (4, [.ref q0, .ref q1, .null, .int 0, .int 0])), (q0, .inl (cs.2.2.1, 4096, .inr (.inr (.inr (.inr (fun _ => none)))))), (q1, .inl (cs.2.2.2, 1024, .inr (.inr (.inr (.inr (fun _ => none))))))] H := hP
  have hD : va_D A [(b, .inr (4, [.ref q0, .ref q1, .null, .int 0, .int 0])), (q0, .inl (cs.2.2.1, 4096, .inr (.inr (.inr (.inr (fun _ => none)))))), (q1, .inl (cs.2.2.2, 1024, .inr (.inr (.inr (.inr (fun _ => none))))))] := hD
  refine lv_aload_n hx hb d_BL_init_24 rfl (lv_at hl 0 rfl) ?_
  refine lv_iconst (v := 4) hx hb d_BL_init_25 (by decide) ?_
  refine va_newa (atype := .int) (n := 4) (N' := 4) (a0 := (4, .inl (fun _ => 0))) (ty := .int) hx hb (hts _ w_39) rfl hK.1 hP hD hS hA (fun cA => rfl) (by decide) (by decide) (by decide) (Nat.le_of_ble_eq_true rfl) (Nat.le_of_ble_eq_true rfl) d_BL_init_26 (fun q2 cA H hK2 hP hD hS => ?_)
  obtain rfl : cA = cs.1 := zRA_eq (hK2.2 4 _ rfl).2 (hK.1.2 0 _ rfl).2
  have hP : va_P D zcl [(b, .inr (4, [.ref q0, .ref q1, .null, .int 0, .int 0])), (q0, .inl (cs.2.2.1, 4096, .inr (.inr (.inr (.inr (fun _ => none)))))), (q1, .inl (cs.2.2.2, 1024, .inr (.inr (.inr (.inr (fun _ => none)))))), (q2, .inl (cs.1, 4, .inl (fun _ => 0)))] H := hP
  have hD : va_D A [(b, .inr (4, [.ref q0, .ref q1, .null, .int 0, .int 0])), (q0, .inl (cs.2.2.1, 4096, .inr (.inr (.inr (.inr (fun _ => none)))))), (q1, .inl (cs.2.2.2, 1024, .inr (.inr (.inr (.inr (fun _ => none)))))), (q2, .inl (cs.1, 4, .inl (fun _ => 0)))] := hD
  refine va_putF (D := D) (ci := 4) (v := .ref q2) (ty := .array .int) (C := "BranchLayout") (T := T_BL) (N := 5) hx hb hts in_BL ty_BL ok_BL nm_BL hown hK.1 hP hD hS 0 rfl rfl 2 (by decide) (hts _ w_25) (fun _ h9 => h9) rfl hin rfl (by decide +kernel) rfl rfl (Nat.le_of_ble_eq_true rfl) d_BL_init_28 (fun H locs hP hD hS => ?_)
  have hP : va_P D zcl [(b, .inr (4, [.ref q0, .ref q1, .ref q2, .int 0, .int 0])), (q0, .inl (cs.2.2.1, 4096, .inr (.inr (.inr (.inr (fun _ => none)))))), (q1, .inl (cs.2.2.2, 1024, .inr (.inr (.inr (.inr (fun _ => none)))))), (q2, .inl (cs.1, 4, .inl (fun _ => 0)))] H := hP
  have hD : va_D A [(b, .inr (4, [.ref q0, .ref q1, .ref q2, .int 0, .int 0])), (q0, .inl (cs.2.2.1, 4096, .inr (.inr (.inr (.inr (fun _ => none)))))), (q1, .inl (cs.2.2.2, 1024, .inr (.inr (.inr (.inr (fun _ => none)))))), (q2, .inl (cs.1, 4, .inl (fun _ => 0)))] := hD
  have e0 : zB (b, q0, q1, q2) cs 0 0 (fun _ => none) (fun _ => none) (fun _ => 0) (fun _ => 0) (fun _ _ => 0) (fun _ => 0) (fun _ => 0) (fun _ _ => 0) = [(b, .inr (4, [.ref q0, .ref q1, .ref q2, .int 0, .int 0])), (q0, .inl (cs.2.2.1, 4096, .inr (.inr (.inr (.inr (fun _ => none)))))), (q1, .inl (cs.2.2.2, 1024, .inr (.inr (.inr (.inr (fun _ => none)))))), (q2, .inl (cs.1, 4, .inl (fun _ => 0)))] := by simp [zB, zw_ws, nI_0]
  refine zrv E d_BL_init_31 hS (Nat.le_of_ble_eq_true rfl) (Nat.le_of_ble_eq_true rfl) ?_
  exact ⟨rfl, (b, q0, q1, q2), rfl, fun _ => none, fun _ => none, fun _ => 0, fun _ => 0, fun k hk => absurd hk (Nat.not_lt_zero k), fun k hk => absurd hk (Nat.not_lt_zero k), by rw [e0]; exact ⟨hP, hD⟩⟩
set_option maxHeartbeats 4000000 in
set_option maxRecDepth 100000 in
theorem t_Mo_init (l : Launch) (D : va_G) (cs : ClassId × ClassId × ClassId × ClassId) (A : Nat → Prop) (b : Nat) : zMet l D cs y_Mo_init c_Mo_init 1 none ({ frames := 1, cells := 14, slots := 44036, locals := 12 } : Room) [.ref b] (fun H => zH D A [(b, .inr (5, [.int 0, .int 0, .int 0, .null, .null, .null, .null, .null, .null, .null, .null, .null, .null, .null, .null, .null, .null]))] H ∧ ∀ q, H.size ≤ q → A q) A (zqv fun H => ∃ q : Nat → Nat, q 0 = b ∧ zRW D A q cs 0 0 (fun _ _ => 0) (fun _ => 0) (fun _ => 0) (fun _ _ => 0) H) := by
  refine zmk (by decide) (Nat.le_of_ble_eq_true rfl) ?_
  intro p e s m below meth cd ls E hK hP0 hl
  have hS : va_S A s.heap s.heap [] := va_S.rf
  obtain ⟨⟨hP, hD⟩, hA⟩ := hP0
  obtain ⟨hx, hb, hr, hts, hown, hlocks, hml, hin⟩ := id E
  have hl : lv_has ls 1 [(0, .ref b)] := hl
  refine lv_aload_n hx hb d_Mo_init_0 rfl (lv_at hl 0 rfl) ?_
  refine W.objInit hx hb hown (hts _ w_264) (hts _ w_17) (hts _ w_18) rfl (by rw [hml]; exact hl.1) rfl d_Mo_init_1 (Nat.le_of_ble_eq_true rfl) (Nat.le_of_ble_eq_true rfl) ?_
  refine W.eq (g2 := F0 m 4 ls []) rfl ?_
  refine lv_aload_n hx hb d_Mo_init_4 rfl (lv_at hl 0 rfl) ?_
  refine lv_sipush (v := 4096) hx hb d_Mo_init_5 (by decide) ?_
  refine va_newa (atype := .int) (n := 4096) (N' := 4096) (a0 := (4096, .inl (fun _ => 0))) (ty := .int) hx hb (hts _ w_39) rfl hK.1 hP hD hS hA (fun cA => rfl) (by decide) (by decide) (by decide) (Nat.le_of_ble_eq_true rfl) (Nat.le_of_ble_eq_true rfl) d_Mo_init_8 (fun q3 cA H hK2 hP hD hS => ?_)
  obtain rfl : cA = cs.1 := zRA_eq (hK2.2 4 _ rfl).2 (hK.1.2 0 _ rfl).2
  have hP : va_P D zcl [(b, .inr (5, [.int 0, .int 0, .int 0, .null, .null, .null, .null, .null, .null, .null, .null, .null, .null, .null, .null, .null, .null])), (q3, .inl (cs.1, 4096, .inl (fun _ => 0)))] H := hP
  have hD : va_D A [(b, .inr (5, [.int 0, .int 0, .int 0, .null, .null, .null, .null, .null, .null, .null, .null, .null, .null, .null, .null, .null, .null])), (q3, .inl (cs.1, 4096, .inl (fun _ => 0)))] := hD
  refine va_putF (D := D) (ci := 5) (v := .ref q3) (ty := .array .int) (C := "BranchLayoutModel") (T := T_Mo) (N := 17) hx hb hts in_Mo ty_Mo ok_Mo nm_Mo hown hK.1 hP hD hS 0 rfl rfl 3 (by decide) (hts _ w_268) (fun _ h9 => h9) rfl hin rfl (by decide +kernel) rfl rfl (Nat.le_of_ble_eq_true rfl) d_Mo_init_10 (fun H locs hP hD hS => ?_)
  have hP : va_P D zcl [(b, .inr (5, [.int 0, .int 0, .int 0, .ref q3, .null, .null, .null, .null, .null, .null, .null, .null, .null, .null, .null, .null, .null])), (q3, .inl (cs.1, 4096, .inl (fun _ => 0)))] H := hP
  have hD : va_D A [(b, .inr (5, [.int 0, .int 0, .int 0, .ref q3, .null, .null, .null, .null, .null, .null, .null, .null, .null, .null, .null, .null, .null])), (q3, .inl (cs.1, 4096, .inl (fun _ => 0)))] := hD
  refine lv_aload_n hx hb d_Mo_init_13 rfl (lv_at hl 0 rfl) ?_
  refine lv_sipush (v := 4096) hx hb d_Mo_init_14 (by decide) ?_
  refine va_newa (atype := .int) (n := 4096) (N' := 4096) (a0 := (4096, .inl (fun _ => 0))) (ty := .int) hx hb (hts _ w_39) rfl hK.1 hP hD hS hA (fun cA => rfl) (by decide) (by decide) (by decide) (Nat.le_of_ble_eq_true rfl) (Nat.le_of_ble_eq_true rfl) d_Mo_init_17 (fun q4 cA H hK2 hP hD hS => ?_)
  obtain rfl : cA = cs.1 := zRA_eq (hK2.2 4 _ rfl).2 (hK.1.2 0 _ rfl).2
  have hP : va_P D zcl [(b, .inr (5, [.int 0, .int 0, .int 0, .ref q3, .null, .null, .null, .null, .null, .null, .null, .null, .null, .null, .null, .null, .null])), (q3, .inl (cs.1, 4096, .inl (fun _ => 0))), (q4, .inl (cs.1, 4096, .inl (fun _ => 0)))] H := hP
  have hD : va_D A [(b, .inr (5, [.int 0, .int 0, .int 0, .ref q3, .null, .null, .null, .null, .null, .null, .null, .null, .null, .null, .null, .null, .null])), (q3, .inl (cs.1, 4096, .inl (fun _ => 0))), (q4, .inl (cs.1, 4096, .inl (fun _ => 0)))] := hD
  refine va_putF (D := D) (ci := 5) (v := .ref q4) (ty := .array .int) (C := "BranchLayoutModel") (T := T_Mo) (N := 17) hx hb hts in_Mo ty_Mo ok_Mo nm_Mo hown hK.1 hP hD hS 0 rfl rfl 4 (by decide) (hts _ w_269) (fun _ h9 => h9) rfl hin rfl (by decide +kernel) rfl rfl (Nat.le_of_ble_eq_true rfl) d_Mo_init_19 (fun H locs hP hD hS => ?_)
  have hP : va_P D zcl [(b, .inr (5, [.int 0, .int 0, .int 0, .ref q3, .ref q4, .null, .null, .null, .null, .null, .null, .null, .null, .null, .null, .null, .null])), (q3, .inl (cs.1, 4096, .inl (fun _ => 0))), (q4, .inl (cs.1, 4096, .inl (fun _ => 0)))] H := hP
  have hD : va_D A [(b, .inr (5, [.int 0, .int 0, .int 0, .ref q3, .ref q4, .null, .null, .null, .null, .null, .null, .null, .null, .null, .null, .null, .null])), (q3, .inl (cs.1, 4096, .inl (fun _ => 0))), (q4, .inl (cs.1, 4096, .inl (fun _ => 0)))] := hD
  refine lv_aload_n hx hb d_Mo_init_22 rfl (lv_at hl 0 rfl) ?_
  refine lv_sipush (v := 4096) hx hb d_Mo_init_23 (by decide) ?_
  refine va_newa (atype := .int) (n := 4096) (N' := 4096) (a0 := (4096, .inl (fun _ => 0))) (ty := .int) hx hb (hts _ w_39) rfl hK.1 hP hD hS hA (fun cA => rfl) (by decide) (by decide) (by decide) (Nat.le_of_ble_eq_true rfl) (Nat.le_of_ble_eq_true rfl) d_Mo_init_26 (fun q5 cA H hK2 hP hD hS => ?_)
  obtain rfl : cA = cs.1 := zRA_eq (hK2.2 4 _ rfl).2 (hK.1.2 0 _ rfl).2
  have hP : va_P D zcl [(b, .inr (5, [.int 0, .int 0, .int 0, .ref q3, .ref q4, .null, .null, .null, .null, .null, .null, .null, .null, .null, .null, .null, .null])), (q3, .inl (cs.1, 4096, .inl (fun _ => 0))), (q4, .inl (cs.1, 4096, .inl (fun _ => 0))), (q5, .inl (cs.1, 4096, .inl (fun _ => 0)))] H := hP
  have hD : va_D A [(b, .inr (5, [.int 0, .int 0, .int 0, .ref q3, .ref q4, .null, .null, .null, .null, .null, .null, .null, .null, .null, .null, .null, .null])), (q3, .inl (cs.1, 4096, .inl (fun _ => 0))), (q4, .inl (cs.1, 4096, .inl (fun _ => 0))), (q5, .inl (cs.1, 4096, .inl (fun _ => 0)))] := hD
  refine va_putF (D := D) (ci := 5) (v := .ref q5) (ty := .array .int) (C := "BranchLayoutModel") (T := T_Mo) (N := 17) hx hb hts in_Mo ty_Mo ok_Mo nm_Mo hown hK.1 hP hD hS 0 rfl rfl 5 (by decide) (hts _ w_270) (fun _ h9 => h9) rfl hin rfl (by decide +kernel) rfl rfl (Nat.le_of_ble_eq_true rfl) d_Mo_init_28 (fun H locs hP hD hS => ?_)
  have hP : va_P D zcl [(b, .inr (5, [.int 0, .int 0, .int 0, .ref q3, .ref q4, .ref q5, .null, .null, .null, .null, .null, .null, .null, .null, .null, .null, .null])), (q3, .inl (cs.1, 4096, .inl (fun _ => 0))), (q4, .inl (cs.1, 4096, .inl (fun _ => 0))), (q5, .inl (cs.1, 4096, .inl (fun _ => 0)))] H := hP
  have hD : va_D A [(b, .inr (5, [.int 0, .int 0, .int 0, .ref q3, .ref q4, .ref q5, .null, .null, .null, .null, .null, .null, .null, .null, .null, .null, .null])), (q3, .inl (cs.1, 4096, .inl (fun _ => 0))), (q4, .inl (cs.1, 4096, .inl (fun _ => 0))), (q5, .inl (cs.1, 4096, .inl (fun _ => 0)))] := hD
  refine lv_aload_n hx hb d_Mo_init_31 rfl (lv_at hl 0 rfl) ?_
  refine lv_sipush (v := 4096) hx hb d_Mo_init_32 (by decide) ?_
  refine va_newa (atype := .int) (n := 4096) (N' := 4096) (a0 := (4096, .inl (fun _ => 0))) (ty := .int) hx hb (hts _ w_39) rfl hK.1 hP hD hS hA (fun cA => rfl) (by decide) (by decide) (by decide) (Nat.le_of_ble_eq_true rfl) (Nat.le_of_ble_eq_true rfl) d_Mo_init_35 (fun q6 cA H hK2 hP hD hS => ?_)
  obtain rfl : cA = cs.1 := zRA_eq (hK2.2 4 _ rfl).2 (hK.1.2 0 _ rfl).2
  have hP : va_P D zcl [(b, .inr (5, [.int 0, .int 0, .int 0, .ref q3, .ref q4, .ref q5, .null, .null, .null, .null, .null, .null, .null, .null, .null, .null, .null])), (q3, .inl (cs.1, 4096, .inl (fun _ => 0))), (q4, .inl (cs.1, 4096, .inl (fun _ => 0))), (q5, .inl (cs.1, 4096, .inl (fun _ => 0))), (q6, .inl (cs.1, 4096, .inl (fun _ => 0)))] H := hP
  have hD : va_D A [(b, .inr (5, [.int 0, .int 0, .int 0, .ref q3, .ref q4, .ref q5, .null, .null, .null, .null, .null, .null, .null, .null, .null, .null, .null])), (q3, .inl (cs.1, 4096, .inl (fun _ => 0))), (q4, .inl (cs.1, 4096, .inl (fun _ => 0))), (q5, .inl (cs.1, 4096, .inl (fun _ => 0))), (q6, .inl (cs.1, 4096, .inl (fun _ => 0)))] := hD
  refine va_putF (D := D) (ci := 5) (v := .ref q6) (ty := .array .int) (C := "BranchLayoutModel") (T := T_Mo) (N := 17) hx hb hts in_Mo ty_Mo ok_Mo nm_Mo hown hK.1 hP hD hS 0 rfl rfl 6 (by decide) (hts _ w_271) (fun _ h9 => h9) rfl hin rfl (by decide +kernel) rfl rfl (Nat.le_of_ble_eq_true rfl) d_Mo_init_37 (fun H locs hP hD hS => ?_)
  have hP : va_P D zcl [(b, .inr (5, [.int 0, .int 0, .int 0, .ref q3, .ref q4, .ref q5, .ref q6, .null, .null, .null, .null, .null, .null, .null, .null, .null, .null])), (q3, .inl (cs.1, 4096, .inl (fun _ => 0))), (q4, .inl (cs.1, 4096, .inl (fun _ => 0))), (q5, .inl (cs.1, 4096, .inl (fun _ => 0))), (q6, .inl (cs.1, 4096, .inl (fun _ => 0)))] H := hP
  have hD : va_D A [(b, .inr (5, [.int 0, .int 0, .int 0, .ref q3, .ref q4, .ref q5, .ref q6, .null, .null, .null, .null, .null, .null, .null, .null, .null, .null])), (q3, .inl (cs.1, 4096, .inl (fun _ => 0))), (q4, .inl (cs.1, 4096, .inl (fun _ => 0))), (q5, .inl (cs.1, 4096, .inl (fun _ => 0))), (q6, .inl (cs.1, 4096, .inl (fun _ => 0)))] := hD
  refine lv_aload_n hx hb d_Mo_init_40 rfl (lv_at hl 0 rfl) ?_
  refine lv_sipush (v := 4096) hx hb d_Mo_init_41 (by decide) ?_
  refine va_newa (atype := .int) (n := 4096) (N' := 4096) (a0 := (4096, .inl (fun _ => 0))) (ty := .int) hx hb (hts _ w_39) rfl hK.1 hP hD hS hA (fun cA => rfl) (by decide) (by decide) (by decide) (Nat.le_of_ble_eq_true rfl) (Nat.le_of_ble_eq_true rfl) d_Mo_init_44 (fun q7 cA H hK2 hP hD hS => ?_)
  obtain rfl : cA = cs.1 := zRA_eq (hK2.2 4 _ rfl).2 (hK.1.2 0 _ rfl).2
  have hP : va_P D zcl [(b, .inr (5, [.int 0, .int 0, .int 0, .ref q3, .ref q4, .ref q5, .ref q6, .null, .null, .null, .null, .null, .null, .null, .null, .null, .null])), (q3, .inl (cs.1, 4096, .inl (fun _ => 0))), (q4, .inl (cs.1, 4096, .inl (fun _ => 0))), (q5, .inl (cs.1, 4096, .inl (fun _ => 0))), (q6, .inl (cs.1, 4096, .inl (fun _ => 0))), (q7, .inl (cs.1, 4096, .inl (fun _ => 0)))] H := hP
  have hD : va_D A [(b, .inr (5, [.int 0, .int 0, .int 0, .ref q3, .ref q4, .ref q5, .ref q6, .null, .null, .null, .null, .null, .null, .null, .null, .null, .null])), (q3, .inl (cs.1, 4096, .inl (fun _ => 0))), (q4, .inl (cs.1, 4096, .inl (fun _ => 0))), (q5, .inl (cs.1, 4096, .inl (fun _ => 0))), (q6, .inl (cs.1, 4096, .inl (fun _ => 0))), (q7, .inl (cs.1, 4096, .inl (fun _ => 0)))] := hD
  refine va_putF (D := D) (ci := 5) (v := .ref q7) (ty := .array .int) (C := "BranchLayoutModel") (T := T_Mo) (N := 17) hx hb hts in_Mo ty_Mo ok_Mo nm_Mo hown hK.1 hP hD hS 0 rfl rfl 7 (by decide) (hts _ w_272) (fun _ h9 => h9) rfl hin rfl (by decide +kernel) rfl rfl (Nat.le_of_ble_eq_true rfl) d_Mo_init_46 (fun H locs hP hD hS => ?_)
  have hP : va_P D zcl [(b, .inr (5, [.int 0, .int 0, .int 0, .ref q3, .ref q4, .ref q5, .ref q6, .ref q7, .null, .null, .null, .null, .null, .null, .null, .null, .null])), (q3, .inl (cs.1, 4096, .inl (fun _ => 0))), (q4, .inl (cs.1, 4096, .inl (fun _ => 0))), (q5, .inl (cs.1, 4096, .inl (fun _ => 0))), (q6, .inl (cs.1, 4096, .inl (fun _ => 0))), (q7, .inl (cs.1, 4096, .inl (fun _ => 0)))] H := hP
  have hD : va_D A [(b, .inr (5, [.int 0, .int 0, .int 0, .ref q3, .ref q4, .ref q5, .ref q6, .ref q7, .null, .null, .null, .null, .null, .null, .null, .null, .null])), (q3, .inl (cs.1, 4096, .inl (fun _ => 0))), (q4, .inl (cs.1, 4096, .inl (fun _ => 0))), (q5, .inl (cs.1, 4096, .inl (fun _ => 0))), (q6, .inl (cs.1, 4096, .inl (fun _ => 0))), (q7, .inl (cs.1, 4096, .inl (fun _ => 0)))] := hD
  refine lv_aload_n hx hb d_Mo_init_49 rfl (lv_at hl 0 rfl) ?_
  refine lv_sipush (v := 1024) hx hb d_Mo_init_50 (by decide) ?_
  refine va_newa (atype := .int) (n := 1024) (N' := 1024) (a0 := (1024, .inl (fun _ => 0))) (ty := .int) hx hb (hts _ w_39) rfl hK.1 hP hD hS hA (fun cA => rfl) (by decide) (by decide) (by decide) (Nat.le_of_ble_eq_true rfl) (Nat.le_of_ble_eq_true rfl) d_Mo_init_53 (fun q8 cA H hK2 hP hD hS => ?_)
  obtain rfl : cA = cs.1 := zRA_eq (hK2.2 4 _ rfl).2 (hK.1.2 0 _ rfl).2
  have hP : va_P D zcl [(b, .inr (5, [.int 0, .int 0, .int 0, .ref q3, .ref q4, .ref q5, .ref q6, .ref q7, .null, .null, .null, .null, .null, .null, .null, .null, .null])), (q3, .inl (cs.1, 4096, .inl (fun _ => 0))), (q4, .inl (cs.1, 4096, .inl (fun _ => 0))), (q5, .inl (cs.1, 4096, .inl (fun _ => 0))), (q6, .inl (cs.1, 4096, .inl (fun _ => 0))), (q7, .inl (cs.1, 4096, .inl (fun _ => 0))), (q8, .inl (cs.1, 1024, .inl (fun _ => 0)))] H := hP
  have hD : va_D A [(b, .inr (5, [.int 0, .int 0, .int 0, .ref q3, .ref q4, .ref q5, .ref q6, .ref q7, .null, .null, .null, .null, .null, .null, .null, .null, .null])), (q3, .inl (cs.1, 4096, .inl (fun _ => 0))), (q4, .inl (cs.1, 4096, .inl (fun _ => 0))), (q5, .inl (cs.1, 4096, .inl (fun _ => 0))), (q6, .inl (cs.1, 4096, .inl (fun _ => 0))), (q7, .inl (cs.1, 4096, .inl (fun _ => 0))), (q8, .inl (cs.1, 1024, .inl (fun _ => 0)))] := hD
  refine va_putF (D := D) (ci := 5) (v := .ref q8) (ty := .array .int) (C := "BranchLayoutModel") (T := T_Mo) (N := 17) hx hb hts in_Mo ty_Mo ok_Mo nm_Mo hown hK.1 hP hD hS 0 rfl rfl 8 (by decide) (hts _ w_273) (fun _ h9 => h9) rfl hin rfl (by decide +kernel) rfl rfl (Nat.le_of_ble_eq_true rfl) d_Mo_init_55 (fun H locs hP hD hS => ?_)
  have hP : va_P D zcl [(b, .inr (5, [.int 0, .int 0, .int 0, .ref q3, .ref q4, .ref q5, .ref q6, .ref q7, .ref q8, .null, .null, .null, .null, .null, .null, .null, .null])), (q3, .inl (cs.1, 4096, .inl (fun _ => 0))), (q4, .inl (cs.1, 4096, .inl (fun _ => 0))), (q5, .inl (cs.1, 4096, .inl (fun _ => 0))), (q6, .inl (cs.1, 4096, .inl (fun _ => 0))), (q7, .inl (cs.1, 4096, .inl (fun _ => 0))), (q8, .inl (cs.1, 1024, .inl (fun _ => 0)))] H := hP
  have hD : va_D A [(b, .inr (5, [.int 0, .int 0, .int 0, .ref q3, .ref q4, .ref q5, .ref q6, .ref q7, .ref q8, .null, .null, .null, .null, .null, .null, .null, .null])), (q3, .inl (cs.1, 4096, .inl (fun _ => 0))), (q4, .inl (cs.1, 4096, .inl (fun _ => 0))), (q5, .inl (cs.1, 4096, .inl (fun _ => 0))), (q6, .inl (cs.1, 4096, .inl (fun _ => 0))), (q7, .inl (cs.1, 4096, .inl (fun _ => 0))), (q8, .inl (cs.1, 1024, .inl (fun _ => 0)))] := hD
  refine lv_aload_n hx hb d_Mo_init_58 rfl (lv_at hl 0 rfl) ?_
  refine lv_sipush (v := 1024) hx hb d_Mo_init_59 (by decide) ?_
  refine va_newa (atype := .int) (n := 1024) (N' := 1024) (a0 := (1024, .inl (fun _ => 0))) (ty := .int) hx hb (hts _ w_39) rfl hK.1 hP hD hS hA (fun cA => rfl) (by decide) (by decide) (by decide) (Nat.le_of_ble_eq_true rfl) (Nat.le_of_ble_eq_true rfl) d_Mo_init_62 (fun q9 cA H hK2 hP hD hS => ?_)
  obtain rfl : cA = cs.1 := zRA_eq (hK2.2 4 _ rfl).2 (hK.1.2 0 _ rfl).2
  have hP : va_P D zcl [(b, .inr (5, [.int 0, .int 0, .int 0, .ref q3, .ref q4, .ref q5, .ref q6, .ref q7, .ref q8, .null, .null, .null, .null, .null, .null, .null, .null])), (q3, .inl (cs.1, 4096, .inl (fun _ => 0))), (q4, .inl (cs.1, 4096, .inl (fun _ => 0))), (q5, .inl (cs.1, 4096, .inl (fun _ => 0))), (q6, .inl (cs.1, 4096, .inl (fun _ => 0))), (q7, .inl (cs.1, 4096, .inl (fun _ => 0))), (q8, .inl (cs.1, 1024, .inl (fun _ => 0))), (q9, .inl (cs.1, 1024, .inl (fun _ => 0)))] H := hP
  have hD : va_D A [(b, .inr (5, [.int 0, .int 0, .int 0, .ref q3, .ref q4, .ref q5, .ref q6, .ref q7, .ref q8, .null, .null, .null, .null, .null, .null, .null, .null])), (q3, .inl (cs.1, 4096, .inl (fun _ => 0))), (q4, .inl (cs.1, 4096, .inl (fun _ => 0))), (q5, .inl (cs.1, 4096, .inl (fun _ => 0))), (q6, .inl (cs.1, 4096, .inl (fun _ => 0))), (q7, .inl (cs.1, 4096, .inl (fun _ => 0))), (q8, .inl (cs.1, 1024, .inl (fun _ => 0))), (q9, .inl (cs.1, 1024, .inl (fun _ => 0)))] := hD
  refine va_putF (D := D) (ci := 5) (v := .ref q9) (ty := .array .int) (C := "BranchLayoutModel") (T := T_Mo) (N := 17) hx hb hts in_Mo ty_Mo ok_Mo nm_Mo hown hK.1 hP hD hS 0 rfl rfl 9 (by decide) (hts _ w_274) (fun _ h9 => h9) rfl hin rfl (by decide +kernel) rfl rfl (Nat.le_of_ble_eq_true rfl) d_Mo_init_64 (fun H locs hP hD hS => ?_)
  have hP : va_P D zcl [(b, .inr (5, [.int 0, .int 0, .int 0, .ref q3, .ref q4, .ref q5, .ref q6, .ref q7, .ref q8, .ref q9, .null, .null, .null, .null, .null, .null, .null])), (q3, .inl (cs.1, 4096, .inl (fun _ => 0))), (q4, .inl (cs.1, 4096, .inl (fun _ => 0))), (q5, .inl (cs.1, 4096, .inl (fun _ => 0))), (q6, .inl (cs.1, 4096, .inl (fun _ => 0))), (q7, .inl (cs.1, 4096, .inl (fun _ => 0))), (q8, .inl (cs.1, 1024, .inl (fun _ => 0))), (q9, .inl (cs.1, 1024, .inl (fun _ => 0)))] H := hP
  have hD : va_D A [(b, .inr (5, [.int 0, .int 0, .int 0, .ref q3, .ref q4, .ref q5, .ref q6, .ref q7, .ref q8, .ref q9, .null, .null, .null, .null, .null, .null, .null])), (q3, .inl (cs.1, 4096, .inl (fun _ => 0))), (q4, .inl (cs.1, 4096, .inl (fun _ => 0))), (q5, .inl (cs.1, 4096, .inl (fun _ => 0))), (q6, .inl (cs.1, 4096, .inl (fun _ => 0))), (q7, .inl (cs.1, 4096, .inl (fun _ => 0))), (q8, .inl (cs.1, 1024, .inl (fun _ => 0))), (q9, .inl (cs.1, 1024, .inl (fun _ => 0)))] := hD
  refine lv_aload_n hx hb d_Mo_init_67 rfl (lv_at hl 0 rfl) ?_
  refine lv_sipush (v := 4096) hx hb d_Mo_init_68 (by decide) ?_
  refine va_newa (atype := .boolean) (n := 4096) (N' := 4096) (a0 := (4096, .inl (fun _ => 0))) (ty := .boolean) hx hb (hts _ w_317) rfl hK.1 hP hD hS hA (fun cA => rfl) (by decide) (by decide) (by decide) (Nat.le_of_ble_eq_true rfl) (Nat.le_of_ble_eq_true rfl) d_Mo_init_71 (fun q10 cA H hK2 hP hD hS => ?_)
  obtain rfl : cA = cs.2.1 := zRA_eq (hK2.2 4 _ rfl).2 (hK.1.2 1 _ rfl).2
  have hP : va_P D zcl [(b, .inr (5, [.int 0, .int 0, .int 0, .ref q3, .ref q4, .ref q5, .ref q6, .ref q7, .ref q8, .ref q9, .null, .null, .null, .null, .null, .null, .null])), (q3, .inl (cs.1, 4096, .inl (fun _ => 0))), (q4, .inl (cs.1, 4096, .inl (fun _ => 0))), (q5, .inl (cs.1, 4096, .inl (fun _ => 0))), (q6, .inl (cs.1, 4096, .inl (fun _ => 0))), (q7, .inl (cs.1, 4096, .inl (fun _ => 0))), (q8, .inl (cs.1, 1024, .inl (fun _ => 0))), (q9, .inl (cs.1, 1024, .inl (fun _ => 0))), (q10, .inl (cs.2.1, 4096, .inl (fun _ => 0)))] H := hP
  have hD : va_D A [(b, .inr (5, [.int 0, .int 0, .int 0, .ref q3, .ref q4, .ref q5, .ref q6, .ref q7, .ref q8, .ref q9, .null, .null, .null, .null, .null, .null, .null])), (q3, .inl (cs.1, 4096, .inl (fun _ => 0))), (q4, .inl (cs.1, 4096, .inl (fun _ => 0))), (q5, .inl (cs.1, 4096, .inl (fun _ => 0))), (q6, .inl (cs.1, 4096, .inl (fun _ => 0))), (q7, .inl (cs.1, 4096, .inl (fun _ => 0))), (q8, .inl (cs.1, 1024, .inl (fun _ => 0))), (q9, .inl (cs.1, 1024, .inl (fun _ => 0))), (q10, .inl (cs.2.1, 4096, .inl (fun _ => 0)))] := hD
  refine va_putF (D := D) (ci := 5) (v := .ref q10) (ty := .array .boolean) (C := "BranchLayoutModel") (T := T_Mo) (N := 17) hx hb hts in_Mo ty_Mo ok_Mo nm_Mo hown hK.1 hP hD hS 0 rfl rfl 10 (by decide) (hts _ w_275) (fun _ h9 => h9) rfl hin rfl (by decide +kernel) rfl rfl (Nat.le_of_ble_eq_true rfl) d_Mo_init_73 (fun H locs hP hD hS => ?_)
  have hP : va_P D zcl [(b, .inr (5, [.int 0, .int 0, .int 0, .ref q3, .ref q4, .ref q5, .ref q6, .ref q7, .ref q8, .ref q9, .ref q10, .null, .null, .null, .null, .null, .null])), (q3, .inl (cs.1, 4096, .inl (fun _ => 0))), (q4, .inl (cs.1, 4096, .inl (fun _ => 0))), (q5, .inl (cs.1, 4096, .inl (fun _ => 0))), (q6, .inl (cs.1, 4096, .inl (fun _ => 0))), (q7, .inl (cs.1, 4096, .inl (fun _ => 0))), (q8, .inl (cs.1, 1024, .inl (fun _ => 0))), (q9, .inl (cs.1, 1024, .inl (fun _ => 0))), (q10, .inl (cs.2.1, 4096, .inl (fun _ => 0)))] H := hP
  have hD : va_D A [(b, .inr (5, [.int 0, .int 0, .int 0, .ref q3, .ref q4, .ref q5, .ref q6, .ref q7, .ref q8, .ref q9, .ref q10, .null, .null, .null, .null, .null, .null])), (q3, .inl (cs.1, 4096, .inl (fun _ => 0))), (q4, .inl (cs.1, 4096, .inl (fun _ => 0))), (q5, .inl (cs.1, 4096, .inl (fun _ => 0))), (q6, .inl (cs.1, 4096, .inl (fun _ => 0))), (q7, .inl (cs.1, 4096, .inl (fun _ => 0))), (q8, .inl (cs.1, 1024, .inl (fun _ => 0))), (q9, .inl (cs.1, 1024, .inl (fun _ => 0))), (q10, .inl (cs.2.1, 4096, .inl (fun _ => 0)))] := hD
  refine lv_aload_n hx hb d_Mo_init_76 rfl (lv_at hl 0 rfl) ?_
  refine lv_sipush (v := 4096) hx hb d_Mo_init_77 (by decide) ?_
  refine va_newa (atype := .int) (n := 4096) (N' := 4096) (a0 := (4096, .inl (fun _ => 0))) (ty := .int) hx hb (hts _ w_39) rfl hK.1 hP hD hS hA (fun cA => rfl) (by decide) (by decide) (by decide) (Nat.le_of_ble_eq_true rfl) (Nat.le_of_ble_eq_true rfl) d_Mo_init_80 (fun q11 cA H hK2 hP hD hS => ?_)
  obtain rfl : cA = cs.1 := zRA_eq (hK2.2 4 _ rfl).2 (hK.1.2 0 _ rfl).2
  have hP : va_P D zcl [(b, .inr (5, [.int 0, .int 0, .int 0, .ref q3, .ref q4, .ref q5, .ref q6, .ref q7, .ref q8, .ref q9, .ref q10, .null, .null, .null, .null, .null, .null])), (q3, .inl (cs.1, 4096, .inl (fun _ => 0))), (q4, .inl (cs.1, 4096, .inl (fun _ => 0))), (q5, .inl (cs.1, 4096, .inl (fun _ => 0))), (q6, .inl (cs.1, 4096, .inl (fun _ => 0))), (q7, .inl (cs.1, 4096, .inl (fun _ => 0))), (q8, .inl (cs.1, 1024, .inl (fun _ => 0))), (q9, .inl (cs.1, 1024, .inl (fun _ => 0))), (q10, .inl (cs.2.1, 4096, .inl (fun _ => 0))), (q11, .inl (cs.1, 4096, .inl (fun _ => 0)))] H := hP
  have hD : va_D A [(b, .inr (5, [.int 0, .int 0, .int 0, .ref q3, .ref q4, .ref q5, .ref q6, .ref q7, .ref q8, .ref q9, .ref q10, .null, .null, .null, .null, .null, .null])), (q3, .inl (cs.1, 4096, .inl (fun _ => 0))), (q4, .inl (cs.1, 4096, .inl (fun _ => 0))), (q5, .inl (cs.1, 4096, .inl (fun _ => 0))), (q6, .inl (cs.1, 4096, .inl (fun _ => 0))), (q7, .inl (cs.1, 4096, .inl (fun _ => 0))), (q8, .inl (cs.1, 1024, .inl (fun _ => 0))), (q9, .inl (cs.1, 1024, .inl (fun _ => 0))), (q10, .inl (cs.2.1, 4096, .inl (fun _ => 0))), (q11, .inl (cs.1, 4096, .inl (fun _ => 0)))] := hD
  refine va_putF (D := D) (ci := 5) (v := .ref q11) (ty := .array .int) (C := "BranchLayoutModel") (T := T_Mo) (N := 17) hx hb hts in_Mo ty_Mo ok_Mo nm_Mo hown hK.1 hP hD hS 0 rfl rfl 11 (by decide) (hts _ w_276) (fun _ h9 => h9) rfl hin rfl (by decide +kernel) rfl rfl (Nat.le_of_ble_eq_true rfl) d_Mo_init_82 (fun H locs hP hD hS => ?_)
  have hP : va_P D zcl [(b, .inr (5, [.int 0, .int 0, .int 0, .ref q3, .ref q4, .ref q5, .ref q6, .ref q7, .ref q8, .ref q9, .ref q10, .ref q11, .null, .null, .null, .null, .null])), (q3, .inl (cs.1, 4096, .inl (fun _ => 0))), (q4, .inl (cs.1, 4096, .inl (fun _ => 0))), (q5, .inl (cs.1, 4096, .inl (fun _ => 0))), (q6, .inl (cs.1, 4096, .inl (fun _ => 0))), (q7, .inl (cs.1, 4096, .inl (fun _ => 0))), (q8, .inl (cs.1, 1024, .inl (fun _ => 0))), (q9, .inl (cs.1, 1024, .inl (fun _ => 0))), (q10, .inl (cs.2.1, 4096, .inl (fun _ => 0))), (q11, .inl (cs.1, 4096, .inl (fun _ => 0)))] H := hP
  have hD : va_D A [(b, .inr (5, [.int 0, .int 0, .int 0, .ref q3, .ref q4, .ref q5, .ref q6, .ref q7, .ref q8, .ref q9, .ref q10, .ref q11, .null, .null, .null, .null, .null])), (q3, .inl (cs.1, 4096, .inl (fun _ => 0))), (q4, .inl (cs.1, 4096, .inl (fun _ => 0))), (q5, .inl (cs.1, 4096, .inl (fun _ => 0))), (q6, .inl (cs.1, 4096, .inl (fun _ => 0))), (q7, .inl (cs.1, 4096, .inl (fun _ => 0))), (q8, .inl (cs.1, 1024, .inl (fun _ => 0))), (q9, .inl (cs.1, 1024, .inl (fun _ => 0))), (q10, .inl (cs.2.1, 4096, .inl (fun _ => 0))), (q11, .inl (cs.1, 4096, .inl (fun _ => 0)))] := hD
  refine lv_aload_n hx hb d_Mo_init_85 rfl (lv_at hl 0 rfl) ?_
  refine lv_sipush (v := 4096) hx hb d_Mo_init_86 (by decide) ?_
  refine va_newa (atype := .int) (n := 4096) (N' := 4096) (a0 := (4096, .inl (fun _ => 0))) (ty := .int) hx hb (hts _ w_39) rfl hK.1 hP hD hS hA (fun cA => rfl) (by decide) (by decide) (by decide) (Nat.le_of_ble_eq_true rfl) (Nat.le_of_ble_eq_true rfl) d_Mo_init_89 (fun q12 cA H hK2 hP hD hS => ?_)
  obtain rfl : cA = cs.1 := zRA_eq (hK2.2 4 _ rfl).2 (hK.1.2 0 _ rfl).2
  have hP : va_P D zcl [(b, .inr (5, [.int 0, .int 0, .int 0, .ref q3, .ref q4, .ref q5, .ref q6, .ref q7, .ref q8, .ref q9, .ref q10, .ref q11, .null, .null, .null, .null, .null])), (q3, .inl (cs.1, 4096, .inl (fun _ => 0))), (q4, .inl (cs.1, 4096, .inl (fun _ => 0))), (q5, .inl (cs.1, 4096, .inl (fun _ => 0))), (q6, .inl (cs.1, 4096, .inl (fun _ => 0))), (q7, .inl (cs.1, 4096, .inl (fun _ => 0))), (q8, .inl (cs.1, 1024, .inl (fun _ => 0))), (q9, .inl (cs.1, 1024, .inl (fun _ => 0))), (q10, .inl (cs.2.1, 4096, .inl (fun _ => 0))), (q11, .inl (cs.1, 4096, .inl (fun _ => 0))), (q12, .inl (cs.1, 4096, .inl (fun _ => 0)))] H := hP
  have hD : va_D A [(b, .inr (5, [.int 0, .int 0, .int 0, .ref q3, .ref q4, .ref q5, .ref q6, .ref q7, .ref q8, .ref q9, .ref q10, .ref q11, .null, .null, .null, .null, .null])), (q3, .inl (cs.1, 4096, .inl (fun _ => 0))), (q4, .inl (cs.1, 4096, .inl (fun _ => 0))), (q5, .inl (cs.1, 4096, .inl (fun _ => 0))), (q6, .inl (cs.1, 4096, .inl (fun _ => 0))), (q7, .inl (cs.1, 4096, .inl (fun _ => 0))), (q8, .inl (cs.1, 1024, .inl (fun _ => 0))), (q9, .inl (cs.1, 1024, .inl (fun _ => 0))), (q10, .inl (cs.2.1, 4096, .inl (fun _ => 0))), (q11, .inl (cs.1, 4096, .inl (fun _ => 0))), (q12, .inl (cs.1, 4096, .inl (fun _ => 0)))] := hD
  refine va_putF (D := D) (ci := 5) (v := .ref q12) (ty := .array .int) (C := "BranchLayoutModel") (T := T_Mo) (N := 17) hx hb hts in_Mo ty_Mo ok_Mo nm_Mo hown hK.1 hP hD hS 0 rfl rfl 12 (by decide) (hts _ w_277) (fun _ h9 => h9) rfl hin rfl (by decide +kernel) rfl rfl (Nat.le_of_ble_eq_true rfl) d_Mo_init_91 (fun H locs hP hD hS => ?_)
  have hP : va_P D zcl [(b, .inr (5, [.int 0, .int 0, .int 0, .ref q3, .ref q4, .ref q5, .ref q6, .ref q7, .ref q8, .ref q9, .ref q10, .ref q11, .ref q12, .null, .null, .null, .null])), (q3, .inl (cs.1, 4096, .inl (fun _ => 0))), (q4, .inl (cs.1, 4096, .inl (fun _ => 0))), (q5, .inl (cs.1, 4096, .inl (fun _ => 0))), (q6, .inl (cs.1, 4096, .inl (fun _ => 0))), (q7, .inl (cs.1, 4096, .inl (fun _ => 0))), (q8, .inl (cs.1, 1024, .inl (fun _ => 0))), (q9, .inl (cs.1, 1024, .inl (fun _ => 0))), (q10, .inl (cs.2.1, 4096, .inl (fun _ => 0))), (q11, .inl (cs.1, 4096, .inl (fun _ => 0))), (q12, .inl (cs.1, 4096, .inl (fun _ => 0)))] H := hP
  have hD : va_D A [(b, .inr (5, [.int 0, .int 0, .int 0, .ref q3, .ref q4, .ref q5, .ref q6, .ref q7, .ref q8, .ref q9, .ref q10, .ref q11, .ref q12, .null, .null, .null, .null])), (q3, .inl (cs.1, 4096, .inl (fun _ => 0))), (q4, .inl (cs.1, 4096, .inl (fun _ => 0))), (q5, .inl (cs.1, 4096, .inl (fun _ => 0))), (q6, .inl (cs.1, 4096, .inl (fun _ => 0))), (q7, .inl (cs.1, 4096, .inl (fun _ => 0))), (q8, .inl (cs.1, 1024, .inl (fun _ => 0))), (q9, .inl (cs.1, 1024, .inl (fun _ => 0))), (q10, .inl (cs.2.1, 4096, .inl (fun _ => 0))), (q11, .inl (cs.1, 4096, .inl (fun _ => 0))), (q12, .inl (cs.1, 4096, .inl (fun _ => 0)))] := hD
  refine lv_aload_n hx hb d_Mo_init_94 rfl (lv_at hl 0 rfl) ?_
  refine lv_sipush (v := 4096) hx hb d_Mo_init_95 (by decide) ?_
  refine va_newa (atype := .int) (n := 4096) (N' := 4096) (a0 := (4096, .inl (fun _ => 0))) (ty := .int) hx hb (hts _ w_39) rfl hK.1 hP hD hS hA (fun cA => rfl) (by decide) (by decide) (by decide) (Nat.le_of_ble_eq_true rfl) (Nat.le_of_ble_eq_true rfl) d_Mo_init_98 (fun q13 cA H hK2 hP hD hS => ?_)
  obtain rfl : cA = cs.1 := zRA_eq (hK2.2 4 _ rfl).2 (hK.1.2 0 _ rfl).2
  have hP : va_P D zcl [(b, .inr (5, [.int 0, .int 0, .int 0, .ref q3, .ref q4, .ref q5, .ref q6, .ref q7, .ref q8, .ref q9, .ref q10, .ref q11, .ref q12, .null, .null, .null, .null])), (q3, .inl (cs.1, 4096, .inl (fun _ => 0))), (q4, .inl (cs.1, 4096, .inl (fun _ => 0))), (q5, .inl (cs.1, 4096, .inl (fun _ => 0))), (q6, .inl (cs.1, 4096, .inl (fun _ => 0))), (q7, .inl (cs.1, 4096, .inl (fun _ => 0))), (q8, .inl (cs.1, 1024, .inl (fun _ => 0))), (q9, .inl (cs.1, 1024, .inl (fun _ => 0))), (q10, .inl (cs.2.1, 4096, .inl (fun _ => 0))), (q11, .inl (cs.1, 4096, .inl (fun _ => 0))), (q12, .inl (cs.1, 4096, .inl (fun _ => 0))), (q13, .inl (cs.1, 4096, .inl (fun _ => 0)))] H := hP
  have hD : va_D A [(b, .inr (5, [.int 0, .int 0, .int 0, .ref q3, .ref q4, .ref q5, .ref q6, .ref q7, .ref q8, .ref q9, .ref q10, .ref q11, .ref q12, .null, .null, .null, .null])), (q3, .inl (cs.1, 4096, .inl (fun _ => 0))), (q4, .inl (cs.1, 4096, .inl (fun _ => 0))), (q5, .inl (cs.1, 4096, .inl (fun _ => 0))), (q6, .inl (cs.1, 4096, .inl (fun _ => 0))), (q7, .inl (cs.1, 4096, .inl (fun _ => 0))), (q8, .inl (cs.1, 1024, .inl (fun _ => 0))), (q9, .inl (cs.1, 1024, .inl (fun _ => 0))), (q10, .inl (cs.2.1, 4096, .inl (fun _ => 0))), (q11, .inl (cs.1, 4096, .inl (fun _ => 0))), (q12, .inl (cs.1, 4096, .inl (fun _ => 0))), (q13, .inl (cs.1, 4096, .inl (fun _ => 0)))] := hD
  refine va_putF (D := D) (ci := 5) (v := .ref q13) (ty := .array .int) (C := "BranchLayoutModel") (T := T_Mo) (N := 17) hx hb hts in_Mo ty_Mo ok_Mo nm_Mo hown hK.1 hP hD hS 0 rfl rfl 13 (by decide) (hts _ w_278) (fun _ h9 => h9) rfl hin rfl (by decide +kernel) rfl rfl (Nat.le_of_ble_eq_true rfl) d_Mo_init_100 (fun H locs hP hD hS => ?_)
  have hP : va_P D zcl [(b, .inr (5, [.int 0, .int 0, .int 0, .ref q3, .ref q4, .ref q5, .ref q6, .ref q7, .ref q8, .ref q9, .ref q10, .ref q11, .ref q12, .ref q13, .null, .null, .null])), (q3, .inl (cs.1, 4096, .inl (fun _ => 0))), (q4, .inl (cs.1, 4096, .inl (fun _ => 0))), (q5, .inl (cs.1, 4096, .inl (fun _ => 0))), (q6, .inl (cs.1, 4096, .inl (fun _ => 0))), (q7, .inl (cs.1, 4096, .inl (fun _ => 0))), (q8, .inl (cs.1, 1024, .inl (fun _ => 0))), (q9, .inl (cs.1, 1024, .inl (fun _ => 0))), (q10, .inl (cs.2.1, 4096, .inl (fun _ => 0))), (q11, .inl (cs.1, 4096, .inl (fun _ => 0))), (q12, .inl (cs.1, 4096, .inl (fun _ => 0))), (q13, .inl (cs.1, 4096, .inl (fun _ => 0)))] H := hP
  have hD : va_D A [(b, .inr (5, [.int 0, .int 0, .int 0, .ref q3, .ref q4, .ref q5, .ref q6, .ref q7, .ref q8, .ref q9, .ref q10, .ref q11, .ref q12, .ref q13, .null, .null, .null])), (q3, .inl (cs.1, 4096, .inl (fun _ => 0))), (q4, .inl (cs.1, 4096, .inl (fun _ => 0))), (q5, .inl (cs.1, 4096, .inl (fun _ => 0))), (q6, .inl (cs.1, 4096, .inl (fun _ => 0))), (q7, .inl (cs.1, 4096, .inl (fun _ => 0))), (q8, .inl (cs.1, 1024, .inl (fun _ => 0))), (q9, .inl (cs.1, 1024, .inl (fun _ => 0))), (q10, .inl (cs.2.1, 4096, .inl (fun _ => 0))), (q11, .inl (cs.1, 4096, .inl (fun _ => 0))), (q12, .inl (cs.1, 4096, .inl (fun _ => 0))), (q13, .inl (cs.1, 4096, .inl (fun _ => 0)))] := hD
  refine lv_aload_n hx hb d_Mo_init_103 rfl (lv_at hl 0 rfl) ?_
  refine lv_sipush (v := 1024) hx hb d_Mo_init_104 (by decide) ?_
  refine va_newa (atype := .int) (n := 1024) (N' := 1024) (a0 := (1024, .inl (fun _ => 0))) (ty := .int) hx hb (hts _ w_39) rfl hK.1 hP hD hS hA (fun cA => rfl) (by decide) (by decide) (by decide) (Nat.le_of_ble_eq_true rfl) (Nat.le_of_ble_eq_true rfl) d_Mo_init_107 (fun q14 cA H hK2 hP hD hS => ?_)
  obtain rfl : cA = cs.1 := zRA_eq (hK2.2 4 _ rfl).2 (hK.1.2 0 _ rfl).2
  have hP : va_P D zcl [(b, .inr (5, [.int 0, .int 0, .int 0, .ref q3, .ref q4, .ref q5, .ref q6, .ref q7, .ref q8, .ref q9, .ref q10, .ref q11, .ref q12, .ref q13, .null, .null, .null])), (q3, .inl (cs.1, 4096, .inl (fun _ => 0))), (q4, .inl (cs.1, 4096, .inl (fun _ => 0))), (q5, .inl (cs.1, 4096, .inl (fun _ => 0))), (q6, .inl (cs.1, 4096, .inl (fun _ => 0))), (q7, .inl (cs.1, 4096, .inl (fun _ => 0))), (q8, .inl (cs.1, 1024, .inl (fun _ => 0))), (q9, .inl (cs.1, 1024, .inl (fun _ => 0))), (q10, .inl (cs.2.1, 4096, .inl (fun _ => 0))), (q11, .inl (cs.1, 4096, .inl (fun _ => 0))), (q12, .inl (cs.1, 4096, .inl (fun _ => 0))), (q13, .inl (cs.1, 4096, .inl (fun _ => 0))), (q14, .inl (cs.1, 1024, .inl (fun _ => 0)))] H := hP
  have hD : va_D A [(b, .inr (5, [.int 0, .int 0, .int 0, .ref q3, .ref q4, .ref q5, .ref q6, .ref q7, .ref q8, .ref q9, .ref q10, .ref q11, .ref q12, .ref q13, .null, .null, .null])), (q3, .inl (cs.1, 4096, .inl (fun _ => 0))), (q4, .inl (cs.1, 4096, .inl (fun _ => 0))), (q5, .inl (cs.1, 4096, .inl (fun _ => 0))), (q6, .inl (cs.1, 4096, .inl (fun _ => 0))), (q7, .inl (cs.1, 4096, .inl (fun _ => 0))), (q8, .inl (cs.1, 1024, .inl (fun _ => 0))), (q9, .inl (cs.1, 1024, .inl (fun _ => 0))), (q10, .inl (cs.2.1, 4096, .inl (fun _ => 0))), (q11, .inl (cs.1, 4096, .inl (fun _ => 0))), (q12, .inl (cs.1, 4096, .inl (fun _ => 0))), (q13, .inl (cs.1, 4096, .inl (fun _ => 0))), (q14, .inl (cs.1, 1024, .inl (fun _ => 0)))] := hD
  refine va_putF (D := D) (ci := 5) (v := .ref q14) (ty := .array .int) (C := "BranchLayoutModel") (T := T_Mo) (N := 17) hx hb hts in_Mo ty_Mo ok_Mo nm_Mo hown hK.1 hP hD hS 0 rfl rfl 14 (by decide) (hts _ w_279) (fun _ h9 => h9) rfl hin rfl (by decide +kernel) rfl rfl (Nat.le_of_ble_eq_true rfl) d_Mo_init_109 (fun H locs hP hD hS => ?_)
  have hP : va_P D zcl [(b, .inr (5, [.int 0, .int 0, .int 0, .ref q3, .ref q4, .ref q5, .ref q6, .ref q7, .ref q8, .ref q9, .ref q10, .ref q11, .ref q12, .ref q13, .ref q14, .null, .null])), (q3, .inl (cs.1, 4096, .inl (fun _ => 0))), (q4, .inl (cs.1, 4096, .inl (fun _ => 0))), (q5, .inl (cs.1, 4096, .inl (fun _ => 0))), (q6, .inl (cs.1, 4096, .inl (fun _ => 0))), (q7, .inl (cs.1, 4096, .inl (fun _ => 0))), (q8, .inl (cs.1, 1024, .inl (fun _ => 0))), (q9, .inl (cs.1, 1024, .inl (fun _ => 0))), (q10, .inl (cs.2.1, 4096, .inl (fun _ => 0))), (q11, .inl (cs.1, 4096, .inl (fun _ => 0))), (q12, .inl (cs.1, 4096, .inl (fun _ => 0))), (q13, .inl (cs.1, 4096, .inl (fun _ => 0))), (q14, .inl (cs.1, 1024, .inl (fun _ => 0)))] H := hP
  have hD : va_D A [(b, .inr (5, [.int 0, .int 0, .int 0, .ref q3, .ref q4, .ref q5, .ref q6, .ref q7, .ref q8, .ref q9, .ref q10, .ref q11, .ref q12, .ref q13, .ref q14, .null, .null])), (q3, .inl (cs.1, 4096, .inl (fun _ => 0))), (q4, .inl (cs.1, 4096, .inl (fun _ => 0))), (q5, .inl (cs.1, 4096, .inl (fun _ => 0))), (q6, .inl (cs.1, 4096, .inl (fun _ => 0))), (q7, .inl (cs.1, 4096, .inl (fun _ => 0))), (q8, .inl (cs.1, 1024, .inl (fun _ => 0))), (q9, .inl (cs.1, 1024, .inl (fun _ => 0))), (q10, .inl (cs.2.1, 4096, .inl (fun _ => 0))), (q11, .inl (cs.1, 4096, .inl (fun _ => 0))), (q12, .inl (cs.1, 4096, .inl (fun _ => 0))), (q13, .inl (cs.1, 4096, .inl (fun _ => 0))), (q14, .inl (cs.1, 1024, .inl (fun _ => 0)))] := hD
  refine lv_aload_n hx hb d_Mo_init_112 rfl (lv_at hl 0 rfl) ?_
  refine lv_iconst (v := 4) hx hb d_Mo_init_113 (by decide) ?_
  refine va_newa (atype := .int) (n := 4) (N' := 4) (a0 := (4, .inl (fun _ => 0))) (ty := .int) hx hb (hts _ w_39) rfl hK.1 hP hD hS hA (fun cA => rfl) (by decide) (by decide) (by decide) (Nat.le_of_ble_eq_true rfl) (Nat.le_of_ble_eq_true rfl) d_Mo_init_114 (fun q15 cA H hK2 hP hD hS => ?_)
  obtain rfl : cA = cs.1 := zRA_eq (hK2.2 4 _ rfl).2 (hK.1.2 0 _ rfl).2
  have hP : va_P D zcl [(b, .inr (5, [.int 0, .int 0, .int 0, .ref q3, .ref q4, .ref q5, .ref q6, .ref q7, .ref q8, .ref q9, .ref q10, .ref q11, .ref q12, .ref q13, .ref q14, .null, .null])), (q3, .inl (cs.1, 4096, .inl (fun _ => 0))), (q4, .inl (cs.1, 4096, .inl (fun _ => 0))), (q5, .inl (cs.1, 4096, .inl (fun _ => 0))), (q6, .inl (cs.1, 4096, .inl (fun _ => 0))), (q7, .inl (cs.1, 4096, .inl (fun _ => 0))), (q8, .inl (cs.1, 1024, .inl (fun _ => 0))), (q9, .inl (cs.1, 1024, .inl (fun _ => 0))), (q10, .inl (cs.2.1, 4096, .inl (fun _ => 0))), (q11, .inl (cs.1, 4096, .inl (fun _ => 0))), (q12, .inl (cs.1, 4096, .inl (fun _ => 0))), (q13, .inl (cs.1, 4096, .inl (fun _ => 0))), (q14, .inl (cs.1, 1024, .inl (fun _ => 0))), (q15, .inl (cs.1, 4, .inl (fun _ => 0)))] H := hP
  have hD : va_D A [(b, .inr (5, [.int 0, .int 0, .int 0, .ref q3, .ref q4, .ref q5, .ref q6, .ref q7, .ref q8, .ref q9, .ref q10, .ref q11, .ref q12, .ref q13, .ref q14, .null, .null])), (q3, .inl (cs.1, 4096, .inl (fun _ => 0))), (q4, .inl (cs.1, 4096, .inl (fun _ => 0))), (q5, .inl (cs.1, 4096, .inl (fun _ => 0))), (q6, .inl (cs.1, 4096, .inl (fun _ => 0))), (q7, .inl (cs.1, 4096, .inl (fun _ => 0))), (q8, .inl (cs.1, 1024, .inl (fun _ => 0))), (q9, .inl (cs.1, 1024, .inl (fun _ => 0))), (q10, .inl (cs.2.1, 4096, .inl (fun _ => 0))), (q11, .inl (cs.1, 4096, .inl (fun _ => 0))), (q12, .inl (cs.1, 4096, .inl (fun _ => 0))), (q13, .inl (cs.1, 4096, .inl (fun _ => 0))), (q14, .inl (cs.1, 1024, .inl (fun _ => 0))), (q15, .inl (cs.1, 4, .inl (fun _ => 0)))] := hD
  refine va_putF (D := D) (ci := 5) (v := .ref q15) (ty := .array .int) (C := "BranchLayoutModel") (T := T_Mo) (N := 17) hx hb hts in_Mo ty_Mo ok_Mo nm_Mo hown hK.1 hP hD hS 0 rfl rfl 15 (by decide) (hts _ w_280) (fun _ h9 => h9) rfl hin rfl (by decide +kernel) rfl rfl (Nat.le_of_ble_eq_true rfl) d_Mo_init_116 (fun H locs hP hD hS => ?_)
  have hP : va_P D zcl [(b, .inr (5, [.int 0, .int 0, .int 0, .ref q3, .ref q4, .ref q5, .ref q6, .ref q7, .ref q8, .ref q9, .ref q10, .ref q11, .ref q12, .ref q13, .ref q14, .ref q15, .null])), (q3, .inl (cs.1, 4096, .inl (fun _ => 0))), (q4, .inl (cs.1, 4096, .inl (fun _ => 0))), (q5, .inl (cs.1, 4096, .inl (fun _ => 0))), (q6, .inl (cs.1, 4096, .inl (fun _ => 0))), (q7, .inl (cs.1, 4096, .inl (fun _ => 0))), (q8, .inl (cs.1, 1024, .inl (fun _ => 0))), (q9, .inl (cs.1, 1024, .inl (fun _ => 0))), (q10, .inl (cs.2.1, 4096, .inl (fun _ => 0))), (q11, .inl (cs.1, 4096, .inl (fun _ => 0))), (q12, .inl (cs.1, 4096, .inl (fun _ => 0))), (q13, .inl (cs.1, 4096, .inl (fun _ => 0))), (q14, .inl (cs.1, 1024, .inl (fun _ => 0))), (q15, .inl (cs.1, 4, .inl (fun _ => 0)))] H := hP
  have hD : va_D A [(b, .inr (5, [.int 0, .int 0, .int 0, .ref q3, .ref q4, .ref q5, .ref q6, .ref q7, .ref q8, .ref q9, .ref q10, .ref q11, .ref q12, .ref q13, .ref q14, .ref q15, .null])), (q3, .inl (cs.1, 4096, .inl (fun _ => 0))), (q4, .inl (cs.1, 4096, .inl (fun _ => 0))), (q5, .inl (cs.1, 4096, .inl (fun _ => 0))), (q6, .inl (cs.1, 4096, .inl (fun _ => 0))), (q7, .inl (cs.1, 4096, .inl (fun _ => 0))), (q8, .inl (cs.1, 1024, .inl (fun _ => 0))), (q9, .inl (cs.1, 1024, .inl (fun _ => 0))), (q10, .inl (cs.2.1, 4096, .inl (fun _ => 0))), (q11, .inl (cs.1, 4096, .inl (fun _ => 0))), (q12, .inl (cs.1, 4096, .inl (fun _ => 0))), (q13, .inl (cs.1, 4096, .inl (fun _ => 0))), (q14, .inl (cs.1, 1024, .inl (fun _ => 0))), (q15, .inl (cs.1, 4, .inl (fun _ => 0)))] := hD
  refine lv_aload_n hx hb d_Mo_init_119 rfl (lv_at hl 0 rfl) ?_
  refine lv_sipush (v := 4096) hx hb d_Mo_init_120 (by decide) ?_
  refine va_newa (atype := .boolean) (n := 4096) (N' := 4096) (a0 := (4096, .inl (fun _ => 0))) (ty := .boolean) hx hb (hts _ w_317) rfl hK.1 hP hD hS hA (fun cA => rfl) (by decide) (by decide) (by decide) (Nat.le_of_ble_eq_true rfl) (Nat.le_of_ble_eq_true rfl) d_Mo_init_123 (fun q16 cA H hK2 hP hD hS => ?_)
  obtain rfl : cA = cs.2.1 := zRA_eq (hK2.2 4 _ rfl).2 (hK.1.2 1 _ rfl).2
  have hP : va_P D zcl [(b, .inr (5, [.int 0, .int 0, .int 0, .ref q3, .ref q4, .ref q5, .ref q6, .ref q7, .ref q8, .ref q9, .ref q10, .ref q11, .ref q12, .ref q13, .ref q14, .ref q15, .null])), (q3, .inl (cs.1, 4096, .inl (fun _ => 0))), (q4, .inl (cs.1, 4096, .inl (fun _ => 0))), (q5, .inl (cs.1, 4096, .inl (fun _ => 0))), (q6, .inl (cs.1, 4096, .inl (fun _ => 0))), (q7, .inl (cs.1, 4096, .inl (fun _ => 0))), (q8, .inl (cs.1, 1024, .inl (fun _ => 0))), (q9, .inl (cs.1, 1024, .inl (fun _ => 0))), (q10, .inl (cs.2.1, 4096, .inl (fun _ => 0))), (q11, .inl (cs.1, 4096, .inl (fun _ => 0))), (q12, .inl (cs.1, 4096, .inl (fun _ => 0))), (q13, .inl (cs.1, 4096, .inl (fun _ => 0))), (q14, .inl (cs.1, 1024, .inl (fun _ => 0))), (q15, .inl (cs.1, 4, .inl (fun _ => 0))), (q16, .inl (cs.2.1, 4096, .inl (fun _ => 0)))] H := hP
  have hD : va_D A [(b, .inr (5, [.int 0, .int 0, .int 0, .ref q3, .ref q4, .ref q5, .ref q6, .ref q7, .ref q8, .ref q9, .ref q10, .ref q11, .ref q12, .ref q13, .ref q14, .ref q15, .null])), (q3, .inl (cs.1, 4096, .inl (fun _ => 0))), (q4, .inl (cs.1, 4096, .inl (fun _ => 0))), (q5, .inl (cs.1, 4096, .inl (fun _ => 0))), (q6, .inl (cs.1, 4096, .inl (fun _ => 0))), (q7, .inl (cs.1, 4096, .inl (fun _ => 0))), (q8, .inl (cs.1, 1024, .inl (fun _ => 0))), (q9, .inl (cs.1, 1024, .inl (fun _ => 0))), (q10, .inl (cs.2.1, 4096, .inl (fun _ => 0))), (q11, .inl (cs.1, 4096, .inl (fun _ => 0))), (q12, .inl (cs.1, 4096, .inl (fun _ => 0))), (q13, .inl (cs.1, 4096, .inl (fun _ => 0))), (q14, .inl (cs.1, 1024, .inl (fun _ => 0))), (q15, .inl (cs.1, 4, .inl (fun _ => 0))), (q16, .inl (cs.2.1, 4096, .inl (fun _ => 0)))] := hD
  refine va_putF (D := D) (ci := 5) (v := .ref q16) (ty := .array .boolean) (C := "BranchLayoutModel") (T := T_Mo) (N := 17) hx hb hts in_Mo ty_Mo ok_Mo nm_Mo hown hK.1 hP hD hS 0 rfl rfl 16 (by decide) (hts _ w_281) (fun _ h9 => h9) rfl hin rfl (by decide +kernel) rfl rfl (Nat.le_of_ble_eq_true rfl) d_Mo_init_125 (fun H locs hP hD hS => ?_)
  have hP : va_P D zcl [(b, .inr (5, [.int 0, .int 0, .int 0, .ref q3, .ref q4, .ref q5, .ref q6, .ref q7, .ref q8, .ref q9, .ref q10, .ref q11, .ref q12, .ref q13, .ref q14, .ref q15, .ref q16])), (q3, .inl (cs.1, 4096, .inl (fun _ => 0))), (q4, .inl (cs.1, 4096, .inl (fun _ => 0))), (q5, .inl (cs.1, 4096, .inl (fun _ => 0))), (q6, .inl (cs.1, 4096, .inl (fun _ => 0))), (q7, .inl (cs.1, 4096, .inl (fun _ => 0))), (q8, .inl (cs.1, 1024, .inl (fun _ => 0))), (q9, .inl (cs.1, 1024, .inl (fun _ => 0))), (q10, .inl (cs.2.1, 4096, .inl (fun _ => 0))), (q11, .inl (cs.1, 4096, .inl (fun _ => 0))), (q12, .inl (cs.1, 4096, .inl (fun _ => 0))), (q13, .inl (cs.1, 4096, .inl (fun _ => 0))), (q14, .inl (cs.1, 1024, .inl (fun _ => 0))), (q15, .inl (cs.1, 4, .inl (fun _ => 0))), (q16, .inl (cs.2.1, 4096, .inl (fun _ => 0)))] H := hP
  have hD : va_D A [(b, .inr (5, [.int 0, .int 0, .int 0, .ref q3, .ref q4, .ref q5, .ref q6, .ref q7, .ref q8, .ref q9, .ref q10, .ref q11, .ref q12, .ref q13, .ref q14, .ref q15, .ref q16])), (q3, .inl (cs.1, 4096, .inl (fun _ => 0))), (q4, .inl (cs.1, 4096, .inl (fun _ => 0))), (q5, .inl (cs.1, 4096, .inl (fun _ => 0))), (q6, .inl (cs.1, 4096, .inl (fun _ => 0))), (q7, .inl (cs.1, 4096, .inl (fun _ => 0))), (q8, .inl (cs.1, 1024, .inl (fun _ => 0))), (q9, .inl (cs.1, 1024, .inl (fun _ => 0))), (q10, .inl (cs.2.1, 4096, .inl (fun _ => 0))), (q11, .inl (cs.1, 4096, .inl (fun _ => 0))), (q12, .inl (cs.1, 4096, .inl (fun _ => 0))), (q13, .inl (cs.1, 4096, .inl (fun _ => 0))), (q14, .inl (cs.1, 1024, .inl (fun _ => 0))), (q15, .inl (cs.1, 4, .inl (fun _ => 0))), (q16, .inl (cs.2.1, 4096, .inl (fun _ => 0)))] := hD
  obtain ⟨q, hq⟩ : ∃ q : Nat → Nat, q = (fun k : Nat => if k = 0 then b else if k = 3 then q3 else if k = 4 then q4 else if k = 5 then q5 else if k = 6 then q6 else if k = 7 then q7 else if k = 8 then q8 else if k = 9 then q9 else if k = 10 then q10 else if k = 11 then q11 else if k = 12 then q12 else if k = 13 then q13 else if k = 14 then q14 else if k = 15 then q15 else if k = 16 then q16 else 0) := ⟨_, rfl⟩
  have e0 : zM q cs 0 0 0 (fun _ _ => 0) = [(b, .inr (5, [.int 0, .int 0, .int 0, .ref q3, .ref q4, .ref q5, .ref q6, .ref q7, .ref q8, .ref q9, .ref q10, .ref q11, .ref q12, .ref q13, .ref q14, .ref q15, .ref q16])), (q3, .inl (cs.1, 4096, .inl (fun _ => 0))), (q4, .inl (cs.1, 4096, .inl (fun _ => 0))), (q5, .inl (cs.1, 4096, .inl (fun _ => 0))), (q6, .inl (cs.1, 4096, .inl (fun _ => 0))), (q7, .inl (cs.1, 4096, .inl (fun _ => 0))), (q8, .inl (cs.1, 1024, .inl (fun _ => 0))), (q9, .inl (cs.1, 1024, .inl (fun _ => 0))), (q10, .inl (cs.2.1, 4096, .inl (fun _ => 0))), (q11, .inl (cs.1, 4096, .inl (fun _ => 0))), (q12, .inl (cs.1, 4096, .inl (fun _ => 0))), (q13, .inl (cs.1, 4096, .inl (fun _ => 0))), (q14, .inl (cs.1, 1024, .inl (fun _ => 0))), (q15, .inl (cs.1, 4, .inl (fun _ => 0))), (q16, .inl (cs.2.1, 4096, .inl (fun _ => 0)))] := by rw [hq]; simp [zM, nI_0]
  refine zrv E d_Mo_init_128 hS (Nat.le_of_ble_eq_true rfl) (Nat.le_of_ble_eq_true rfl) ?_
  exact ⟨rfl, q, by rw [hq]; simp, 0, fun _ _ => 0, ⟨fun k hk => absurd hk (Nat.not_lt_zero k), fun k hk => absurd hk (Nat.not_lt_zero k), fun i hi => rfl⟩, by rw [e0]; exact ⟨hP, hD⟩⟩
end
section
/-! THE CLAIM OUT OF ONE WALK OF THE LAW'S BODY. Your part is whole_start (and what it stands on); all else here is the same for every law, but numbers. -/
def R_law : String := "BranchLayoutLaw"
def lw_P (b : Addr) (xs : List Int32) (args : Array Value) (s : State) : Prop := args = #[.ref b] ∧ s.IntsAt b xs ∧ xs.length ≤ 2048 ∧ (Jvm.Cond.and given_1 narrow_1).before args s = true
def lw_Q (_ : Array Value) (s : State) (o : Outcome) (t : State) : Prop := o = .returned (some (.int 1)) ∧ Framed s o t [] 600000 7302250
def lw_Z (below : List Frame) (a : Array Value) (s : State) : State → Prop := fun t => ∃ o, t.status = .running ∧ Ended t below o ∧ lw_Q a s o t
/-- the law's own end, with 1 on the stack, nothing written that was there before, its room as the claim has it -/
theorem lw_ret {p : Program} {l : Launch} {e : Env} {s : State} {m : MethodId} {below : List Frame} {meth : Method} {c : Code} {b : Nat} (hx : p.tables.exec = Jvm.exec) (hb : c.code = code) (hr : meth.sig.returnType = ret) (hlocks : meth.locks = false) {pc : Nat} {H : Heap} {ls : Array Slot} (hdg : decode code pc = .ok (.ireturn, 1)) : W p l e room_1 s m #[Value.ref b] below meth c H [] 600000 7302250 (lw_Z below #[Value.ref b] s) (F0 m pc ls [.int 1]) := by
  intro T hT X
  obtain ⟨fs, hret, hrun, hended, hW, hframe⟩ := X.leave (v := some (.int 1)) (hlocks := hlocks) (fun h => by rw [hr] at h; cases h)
  have hmeth' : T.vm.method? m = some meth := X.method'
  refine ⟨T.setFrames fs, ?_, .returned (some (.int 1)), hrun, hended, rfl, ⟨_, rfl⟩, hW, hframe⟩
  jvm_step X.here [X.here.top, hx, hb, hdg, hmeth', hr, ret, narrow_b1]
  (try refine ⟨rfl, ?_⟩); (try refine ⟨rfl, ?_⟩)
  first | (intro acts; rw [hret _ acts rfl rfl rfl]) | rw [hret _ _ rfl rfl rfl]
  exact Steps.refl _
/-- what holds at the law's entry: the machine, the code, the tables' words (any of lw_tbl by 'hts w (by decide +kernel)'), the script of L ints xs at the cell b, what the Statement gives of the start (any of its parts by flat_of_before) -/
def lw_At (p : Program) (s : State) (m : MethodId) (meth : Method) (c : Code) (b L : Nat) (xs : Nat → Int32) : Prop :=
  p.tables.exec = Jvm.exec ∧ c.code = code ∧ meth.sig.returnType = ret ∧ c.maxLocals = 4 ∧ s.vm.findClass R_law = some m.cls ∧ (∀ w ∈ lw_tbl, w.before #[Value.ref b] s = true) ∧ va_X b L xs s s.heap ∧ b < s.heap.size ∧ meth.locks = false ∧ (Jvm.Cond.and given_1 narrow_1).before #[Value.ref b] s = true
def zOk (D : va_G) (Wx : (Nat → Prop) → Heap → Prop) : Prop := ∀ A H, Wx A H → ∃ ws, zH D A ws H ∧ ∀ A2 H2, zH D A2 ws H2 → Wx A2 H2
theorem zOk_C {D : va_G} {o : Nat × Nat × Nat × Nat} {cs : ClassId × ClassId × ClassId × ClassId} {sc lc : Nat} {c : Nat → Nat → Nat} {gp mo : Nat → Int32} {V : Nat → Nat → Int32} : zOk D (fun A H => zCW D A o cs sc lc c gp mo V H) := fun A H ⟨fa, fb, ad, bd, h1, h2, h3⟩ => ⟨_, h3, fun A2 H2 h => ⟨fa, fb, ad, bd, h1, h2, h⟩⟩
theorem zOk_R {D : va_G} {q : Nat → Nat} {cs : ClassId × ClassId × ClassId × ClassId} {sc lc : Nat} {c : Nat → Nat → Nat} {gp mo : Nat → Int32} {V : Nat → Nat → Int32} : zOk D (fun A H => zRW D A q cs sc lc c gp mo V H) := fun A H ⟨th, R, h1, h2⟩ => ⟨_, h2, fun A2 H2 h => ⟨th, R, h1, h⟩⟩
/-- two systems side by side -/
def zPr (s : State) (Wc Wr : (Nat → Prop) → Heap → Prop) (H : Heap) : Prop := ∃ Ac Ar : Nat → Prop, (∀ x, Ac x → ¬ Ar x) ∧ (∀ x, Ac x ∨ Ar x → s.heap.size ≤ x ∧ x < H.size) ∧ Wc Ac H ∧ Wr Ar H
theorem zPr_swap {s : State} {Wc Wr : (Nat → Prop) → Heap → Prop} {H : Heap} (h : zPr s Wc Wr H) : zPr s Wr Wc H := by
  obtain ⟨Ac, Ar, h1, h2, h3, h4⟩ := h
  exact ⟨Ar, Ac, fun x q1 q2 => h1 x q2 q1, fun x q => h2 x q.symm, h4, h3⟩
theorem zPr_C {D : va_G} {s : State} {Wc Wr : (Nat → Prop) → Heap → Prop} {H : Heap} (hs : s.heap.size ≤ H.size) (hc : zOk D Wc) (hr : zOk D Wr) (h : zPr s Wc Wr H) : ∃ A1 : Nat → Prop, Wc A1 H ∧ (∀ q, H.size ≤ q → A1 q) ∧ (∀ q, A1 q → s.heap.size ≤ q) ∧ ∀ (Wn : (Nat → Prop) → Heap → Prop) (H1 : Heap), zOk D Wn → H.size ≤ H1.size → (∀ q : Nat, q < H.size → ¬ A1 q → H1[q]? = H[q]?) → Wn A1 H1 → zPr s Wn Wr H1 := by
  obtain ⟨Ac, Ar, h1, h2, h3, h4⟩ := h
  refine ⟨fun x => Ac x ∨ H.size ≤ x, ?_, fun q hq => Or.inr hq, fun q hq => ?_, fun Wn H1 hn hz hk hw => ?_⟩
  · obtain ⟨ws, g1, g2⟩ := hc Ac H h3
    exact g2 _ H ⟨g1.1, g1.2.weaken (fun _ _ _ q => Or.inl q)⟩
  · rcases hq with q1 | q1
    · exact (h2 q (Or.inl q1)).1
    · omega
  · obtain ⟨ws, g1, g2⟩ := hn _ H1 hw
    obtain ⟨wr, k1, k2⟩ := hr Ar H h4
    refine ⟨fun x => (Ac x ∨ H.size ≤ x) ∧ x < H1.size, Ar, fun x q1 q2 => ?_, fun x q1 => ?_, g2 _ H1 ⟨g1.1, g1.2.1, fun k q hq => ⟨g1.2.2 k q hq, (g1.1 k q hq).lt⟩⟩, k2 Ar H1 ⟨k1.1.kept (fun k q hq => ?_), k1.2⟩⟩
    · rcases q1.1 with q3 | q3
      · exact h1 x q3 q2
      · have := (h2 x (Or.inr q2)).2
        omega
    · rcases q1 with ⟨q3 | q3, q4⟩ | q3
      · exact ⟨(h2 x (Or.inl q3)).1, q4⟩
      · exact ⟨by omega, q4⟩
      · have := h2 x (Or.inr q3)
        exact ⟨this.1, by omega⟩
    · have ha := k1.2.2 k q hq
      have hb := (h2 q.1 (Or.inr ha)).2
      refine hk q.1 hb (fun z => ?_)
      rcases z with z | z
      · exact h1 q.1 z ha
      · omega
theorem zCW_rec {D : va_G} {s : State} {H : Heap} {A : Nat → Prop} {o : Nat × Nat × Nat × Nat} {cs : ClassId × ClassId × ClassId × ClassId} {sc lc : Nat} {c : Nat → Nat → Nat} {gp mo : Nat → Int32} {V : Nat → Nat → Int32} (hK : zK D cs s) (h : zCW D A o cs sc lc c gp mo V H) : ∃ cell : Cell, H[o.1]? = some cell ∧ cell.vm.isStatics = false ∧ s.vm.findClass "BranchLayout" = some cell.cls := by
  obtain ⟨fa, fb, ad, bd, h1, h2, h3⟩ := h
  exact zrec (ci := 4) (i := 0) hK h3.1 rfl (zb_x rfl)
theorem zRW_rec {D : va_G} {s : State} {H : Heap} {A : Nat → Prop} {q : Nat → Nat} {cs : ClassId × ClassId × ClassId × ClassId} {sc lc : Nat} {c : Nat → Nat → Nat} {gp mo : Nat → Int32} {V : Nat → Nat → Int32} (hK : zK D cs s) (h : zRW D A q cs sc lc c gp mo V H) : ∃ cell : Cell, H[q 0]? = some cell ∧ cell.vm.isStatics = false ∧ s.vm.findClass "BranchLayoutModel" = some cell.cls := by
  obtain ⟨th, R, h1, h2⟩ := h
  exact zrec (ci := 5) (i := 0) hK h2.1 rfl rfl
theorem zI_clear {c : Nat → Nat → Nat} {gp : Nat → Int32} : zI 0 0 c gp := ⟨by decide, by decide, fun k hk => absurd hk (Nat.not_lt_zero k), fun k hk => absurd hk (Nat.not_lt_zero k), fun i j _ hj => absurd hj (Nat.not_lt_zero j)⟩
theorem zJ_clear {c : Nat → Nat → Nat} {gp : Nat → Int32} {V : Nat → Nat → Int32} : zJ 0 c gp V := fun k hk => absurd hk (Nat.not_lt_zero k)
theorem zpse_valid {sc lc u : Nat} {c : Nat → Nat → Nat} {p : Int32} (hs : sc ≤ 4096) (hl : lc ≤ 1024) (h : zpse sc lc c p = some u) : zvalid sc lc p ∧ ¬ p = -1 := by
  cases hp : zpn sc lc id id p with
  | none => rw [zpn_none hp] at h; cases h
  | some a =>
    obtain ⟨g1, g2, -⟩ := zpn_some (c := c) hs hl hp
    refine ⟨g2, fun q => ?_⟩
    rw [q] at g1
    simp [zga] at g1
theorem zI_go {sc lc : Nat} {c : Nat → Nat → Nat} {gp : Nat → Int32} {x pl : Int32} (hI : zI sc lc c gp) (h : zgoc sc lc c x pl) : zI sc lc c (upd gp x.toNatClampNeg pl) := by
  obtain ⟨h1, h2, h3⟩ := h
  obtain ⟨v1, v2⟩ := zpse_valid hI.1 hI.2.1 h3
  refine ⟨hI.1, hI.2.1, fun k hk => ?_, hI.2.2.2.1, hI.2.2.2.2⟩
  obtain ⟨a1, a2, a3, a4, a5, a6⟩ := hI.2.2.1 k hk
  refine ⟨a1, a2, a3, a4, ?_, fun q => ?_⟩
  · by_cases hx : k = x.toNatClampNeg
    · rw [upd, if_pos hx]; exact v1
    · rw [upd, if_neg hx]; exact a5
  · by_cases hx : k = x.toNatClampNeg
    · rw [hx] at q; exact absurd h2 q
    · rw [upd, if_neg hx]; exact a6 q
theorem zJ_go {sc lc : Nat} {c : Nat → Nat → Nat} {gp : Nat → Int32} {V : Nat → Nat → Int32} {x pl : Int32} (hI : zI sc lc c gp) (h : zgoc sc lc c x pl) (hJ : zJ sc c gp V) : zJ sc c (upd gp x.toNatClampNeg pl) V := by
  obtain ⟨h1, h2, h3⟩ := h
  obtain ⟨v1, v2⟩ := zpse_valid hI.1 hI.2.1 h3
  intro k hk
  obtain ⟨a1, a2, a3⟩ := hJ k hk
  refine ⟨a1, a2, fun q => ?_⟩
  by_cases hx : k = x.toNatClampNeg
  · rw [upd, if_pos hx] at q; exact absurd q v2
  · rw [upd, if_neg hx] at q; exact a3 q
set_option maxHeartbeats 4000000 in
set_option maxRecDepth 100000 in
theorem law_loop {p : Program} {l : Launch} {e : Env} {s : State} {m : MethodId} {below : List Frame} {meth : Method} {cd : Code} {D : va_G} {cs : ClassId × ClassId × ClassId × ClassId} {b L : Nat} {xs : Nat → Int32} (o : Nat × Nat × Nat × Nat) (q : Nat → Nat) (hL : L ≤ 2048) (CC : lw_At p s m meth cd b L xs) (hK : zK D cs s) :
    ∀ (n it sc lc : Nat) (c : Nat → Nat → Nat) (gp mo : Nat → Int32) (V : Nat → Nat → Int32) (H : Heap) (locs : List Loc) (ls : Array Slot), it ≤ 512 → 513 ≤ it + n → zI sc lc c gp → zJ sc c gp V → zPr s (fun A H => zCW D A o cs sc lc c gp mo V H) (fun A H => zRW D A q cs sc lc c gp mo V H) H → va_S (fun x : Nat => s.heap.size ≤ x) s.heap H locs → lv_has ls 4 [(3, .int (nI (4 * it))), (2, .ref (q 0)), (1, .ref o.1), (0, .ref b)] → W p l e room_1 s m #[Value.ref b] below meth cd H locs (19 + it) (49182 + 8 * it) (lw_Z below #[Value.ref b] s) (F0 m 18 ls []) := by
  obtain ⟨hx, hb, hr, hml, hown, hts0, hX, hbl, hlocks, hgv⟩ := CC
  have hbA : ¬ (fun x : Nat => s.heap.size ≤ x) b := Nat.not_le.mpr hbl
  have hts : ∀ w ∈ zt, w.before #[Value.ref b] s = true := fun w h => hts0 w (zt_of h)
  have E : zE p s m meth cd #[Value.ref b] "BranchLayoutLaw" meth.name c_Lw_law 4 ret := ⟨hx, hb, hr, hts, hown, hlocks, hml, rfl⟩
  intro n
  induction n with
  | zero => intro it sc lc c gp mo V H locs ls h1 h2; omega
  | succ n ih =>
    intro it sc lc c gp mo V H locs ls hit hn hI hJ hPr hS hl
    have e4 : nI (4 * it) + Int32.ofInt 4 = nI (4 * (it + 1)) := by rw [show Int32.ofInt 4 = nI 4 from by decide, nI_add]; rfl
    have ei1 : nI (4 * it) + 1 = nI (4 * it + 1) := nI_1 _
    have ei2 : nI (4 * it) + 2 = nI (4 * it + 2) := by rw [show (2 : Int32) = nI 2 from by decide, nI_add]
    have ei3 : nI (4 * it) + 3 = nI (4 * it + 3) := by rw [show (3 : Int32) = nI 3 from by decide, nI_add]
    have ecmp : nI L - 4 < nI (4 * it) ↔ L < 4 * it + 4 := by
      rw [show (4 : Int32) = nI 4 from by decide, Int32.lt_iff_toInt_lt, pk_sub_toInt (by omega) (by decide), nI_toInt (by omega)]
      omega
    refine lv_iload_n hx hb d_Lw_law_18 rfl (lv_at hl 0 rfl) ?_
    refine lv_aload_n hx hb d_Lw_law_19 rfl (lv_at hl 3 rfl) ?_
    refine va_slen hx hb hX hbl hbA hS d_Lw_law_20 ?_
    refine lv_iconst (v := 4) hx hb d_Lw_law_21 (by decide) ?_
    refine lv_isub hx hb d_Lw_law_22 ?_
    refine lv_icmp_gt (tgt := 362) hx hb d_Lw_law_23 (by decide) (fun c_1 => ?_) (fun c_1 => ?_)
    · skip
      refine lv_iconst (v := 1) hx hb d_Lw_law_362 (by decide) ?_
      refine va_forget (fun q hq => hS.2.2 q hq) ?_
      refine W.widen (k := 600000) (n := 7302250) (by omega) (by omega) ?_
      exact lw_ret hx hb hr hlocks d_Lw_law_363
    · skip
      have hlt : 4 * it + 4 ≤ L := Nat.le_of_not_lt fun q => c_1 (ecmp.mpr q)
      refine lv_aload_n hx hb d_Lw_law_26 rfl (lv_at hl 3 rfl) ?_
      refine lv_iload_n hx hb d_Lw_law_27 rfl (lv_at hl 0 rfl) ?_
      refine va_sld hx hb hX hbl hbA hS (vp_in_nI (show 4 * it < L by omega) (by omega)) d_Lw_law_28 ?_
      rw [nI_clamp (show 4 * it < 2 ^ 31 by omega)]
      refine lv_bipush (v := 15) hx hb d_Lw_law_29 (by decide) ?_
      refine lv_iand hx hb d_Lw_law_31 ?_
      obtain ⟨j, hj, ej⟩ := pk_andE (xs (4 * it)) (m := 15) 4 (by decide)
      rw [ej]
      have tl : ∀ (sc lc : Nat) (c : Nat → Nat → Nat) (gp mo : Nat → Int32) (V : Nat → Nat → Int32) (H : Heap) (locs : List Loc), zI sc lc c gp → zJ sc c gp V → zPr s (fun A H => zCW D A o cs sc lc c gp mo V H) (fun A H => zRW D A q cs sc lc c gp mo V H) H → va_S (fun x : Nat => s.heap.size ≤ x) s.heap H locs → W p l e room_1 s m #[Value.ref b] below meth cd H locs (19 + (it + 1)) (49182 + 8 * (it + 1)) (lw_Z below #[Value.ref b] s) (F0 m 356 ls []) := by
        intro sc lc c gp mo V H locs hI hJ hPr hS
        refine lv_iinc (v := nI (4 * (it + 1))) (lv' := [(3, .int (nI (4 * (it + 1)))), (2, .ref (q 0)), (1, .ref o.1), (0, .ref b)]) hx hb d_Lw_law_356 hl (k := 0) rfl e4 (by decide) rfl (fun ls hl => ?_)
        refine lv_goto (tgt := 18) hx hb d_Lw_law_359 (by decide) ?_
        exact ih (it + 1) sc lc c gp mo V _ _ ls (by omega) (by omega) hI hJ hPr hS hl
      have tle : ∀ (r1 r2 : Int32) (pc : Nat) (off : Int), r1 = r2 → decode c_Lw_law pc = .ok (.if_icmp .eq off, 3) → (pc : Int) + off = ((356 : Nat) : Int) → ∀ (sc lc : Nat) (c : Nat → Nat → Nat) (gp mo : Nat → Int32) (V : Nat → Nat → Int32) (H : Heap) (locs : List Loc), zI sc lc c gp → zJ sc c gp V → zPr s (fun A H => zCW D A o cs sc lc c gp mo V H) (fun A H => zRW D A q cs sc lc c gp mo V H) H → va_S (fun x : Nat => s.heap.size ≤ x) s.heap H locs → W p l e room_1 s m #[Value.ref b] below meth cd H locs (19 + (it + 1)) (49182 + 8 * (it + 1)) (lw_Z below #[Value.ref b] s) (F0 m pc ls [.int r2, .int r1]) := by
        intro r1 r2 pc off er hd ht sc lc c gp mo V H locs hI hJ hPr hS
        refine lv_icmp_eq (tgt := 356) hx hb hd ht (fun _ => ?_) (fun q => absurd er q)
        exact tl sc lc c gp mo V H locs hI hJ hPr hS
      have hjc : j = 0 ∨ j = 1 ∨ j = 2 ∨ j = 3 ∨ j = 4 ∨ j = 5 ∨ j = 6 ∨ j = 7 ∨ j = 8 ∨ j = 9 ∨ 10 ≤ j := by omega
      rcases hjc with rfl | rfl | rfl | rfl | rfl | rfl | rfl | rfl | rfl | rfl | hj10
      · skip
        refine lv_tableIn (tgt := 88) (off := 56) hx hb d_Lw_law_32 (by decide) (by decide) (by decide) (by decide) ?_
        refine lv_aload_n hx hb d_Lw_law_88 rfl (lv_at hl 2 rfl) ?_
        obtain ⟨A1, hW1, hA1, hA1s, hback⟩ := zPr_C (D := D) hS.1 zOk_C zOk_R hPr
        refine zcV [] [] E (t_BL_clear l D cs A1 o sc lc c gp mo V hI) d_Lw_law_89 w_40 w_41 w_42 w_1 w_43 ⟨rfl, by decide +kernel, by decide +kernel, (by decide +kernel : Option.map (fun d => d.parameters.length) (parseMethodDescriptor "()V") = some 0)⟩ ⟨(Nat.le_of_ble_eq_true rfl), (Nat.le_of_ble_eq_true rfl)⟩ ⟨by show 19 + it + 0 ≤ 600000; omega, by show 49182 + 8 * it + 0 ≤ 7302250; omega⟩ rfl (Nat.le_of_ble_eq_true rfl) hl.1 (zCW_rec hK hW1) hK hW1 hS hA1s (zkv fun H1 locs hq1 hz1 hk1 hS => ?_)
        refine W.widen (k := 19 + (it + 1)) (n := 49182 + 8 * (it + 1)) (by show 19 + it + 0 ≤ _; omega) (by show 49182 + 8 * it + 0 ≤ _; omega) ?_
        have hPr1 := hback (fun A H => zCW D A o cs 0 0 c gp mo (zfl V 0) H) H1 zOk_C hz1 hk1 hq1
        refine lv_aload_n hx hb d_Lw_law_92 rfl (lv_at hl 1 rfl) ?_
        obtain ⟨A2, hW2, hA2, hA2s, hback2⟩ := zPr_C (D := D) hS.1 zOk_R zOk_C (zPr_swap hPr1)
        refine zcV [] [] E (t_Mo_clear l D cs A2 q sc lc c gp mo V hI) d_Lw_law_93 w_318 w_319 w_320 w_2 w_321 ⟨rfl, by decide +kernel, by decide +kernel, (by decide +kernel : Option.map (fun d => d.parameters.length) (parseMethodDescriptor "()V") = some 0)⟩ ⟨(Nat.le_of_ble_eq_true rfl), (Nat.le_of_ble_eq_true rfl)⟩ ⟨by show 19 + (it + 1) + 0 ≤ 600000; omega, by show 49182 + 8 * (it + 1) + 0 ≤ 7302250; omega⟩ rfl (Nat.le_of_ble_eq_true rfl) hl.1 (zRW_rec hK hW2) hK hW2 hS hA2s (zkv fun H2 locs hq2 hz2 hk2 hS => ?_)
        refine W.widen (k := 19 + (it + 1)) (n := 49182 + 8 * (it + 1)) (by show 19 + (it + 1) + 0 ≤ _; omega) (by show 49182 + 8 * (it + 1) + 0 ≤ _; omega) ?_
        refine lv_goto (tgt := 356) hx hb d_Lw_law_96 (by decide) ?_
        exact tl 0 0 c gp mo (zfl V 0) _ _ zI_clear zJ_clear (zPr_swap (hback2 (fun A H => zRW D A q cs 0 0 c gp mo (zfl V 0) H) H2 zOk_R hz2 hk2 hq2)) hS
      · skip
        refine lv_tableIn (tgt := 99) (off := 67) hx hb d_Lw_law_32 (by decide) (by decide) (by decide) (by decide) ?_
        refine lv_aload_n hx hb d_Lw_law_99 rfl (lv_at hl 2 rfl) ?_
        refine lv_aload_n hx hb d_Lw_law_100 rfl (lv_at hl 3 rfl) ?_
        refine lv_iload_n hx hb d_Lw_law_101 rfl (lv_at hl 0 rfl) ?_
        refine lv_iconst (v := 1) hx hb d_Lw_law_102 (by decide) ?_
        refine lv_iadd hx hb d_Lw_law_103 ?_
        rw [ei1]
        refine va_sld hx hb hX hbl hbA hS (vp_in_nI (show 4 * it + 1 < L by omega) (by omega)) d_Lw_law_104 ?_
        rw [nI_clamp (show 4 * it + 1 < 2 ^ 31 by omega)]
        refine lv_aload_n hx hb d_Lw_law_105 rfl (lv_at hl 3 rfl) ?_
        refine lv_iload_n hx hb d_Lw_law_106 rfl (lv_at hl 0 rfl) ?_
        refine lv_iconst (v := 2) hx hb d_Lw_law_107 (by decide) ?_
        refine lv_iadd hx hb d_Lw_law_108 ?_
        rw [ei2]
        refine va_sld hx hb hX hbl hbA hS (vp_in_nI (show 4 * it + 2 < L by omega) (by omega)) d_Lw_law_109 ?_
        rw [nI_clamp (show 4 * it + 2 < 2 ^ 31 by omega)]
        obtain ⟨A1, hW1, hA1, hA1s, hback⟩ := zPr_C (D := D) hS.1 zOk_C zOk_R hPr
        refine zcV [.int (xs (4 * it + 1)), .int (xs (4 * it + 2))] [] E (t_BL_bytes l D cs A1 o sc lc c gp mo V hI (xs (4 * it + 1)) (xs (4 * it + 2))) d_Lw_law_110 w_47 w_48 w_49 w_1 w_50 ⟨rfl, by decide +kernel, by decide +kernel, (by decide +kernel : Option.map (fun d => d.parameters.length) (parseMethodDescriptor "(II)I") = some 2)⟩ ⟨(Nat.le_of_ble_eq_true rfl), (Nat.le_of_ble_eq_true rfl)⟩ ⟨by show 19 + it + 1 ≤ 600000; omega, by show 49182 + 8 * it + 4 ≤ 7302250; omega⟩ rfl (Nat.le_of_ble_eq_true rfl) hl.1 (zCW_rec hK hW1) hK ⟨hW1, hA1⟩ hS hA1s (zki fun r1 H1 locs hq1 hz1 hk1 hS => ?_)
        refine W.widen (k := 19 + (it + 1)) (n := 49182 + 8 * (it + 1)) (by show 19 + it + 1 ≤ _; omega) (by show 49182 + 8 * it + 4 ≤ _; omega) ?_
        rcases hq1 with ⟨g1, g2, er1, hw1⟩ | ⟨g1, er1, hw1⟩
        · skip
          have hPr1 := hback (fun A H => zCW D A o cs (sc + 1) lc (zac c sc 0 (xs (4 * it + 1)) (xs (4 * it + 2))) (upd gp sc (-1)) (upd mo sc 0) (zaV V sc) H) H1 zOk_C hz1 hk1 hw1
          refine lv_aload_n hx hb d_Lw_law_113 rfl (lv_at hl 1 rfl) ?_
          refine lv_aload_n hx hb d_Lw_law_114 rfl (lv_at hl 3 rfl) ?_
          refine lv_iload_n hx hb d_Lw_law_115 rfl (lv_at hl 0 rfl) ?_
          refine lv_iconst (v := 1) hx hb d_Lw_law_116 (by decide) ?_
          refine lv_iadd hx hb d_Lw_law_117 ?_
          rw [ei1]
          refine va_sld hx hb hX hbl hbA hS (vp_in_nI (show 4 * it + 1 < L by omega) (by omega)) d_Lw_law_118 ?_
          rw [nI_clamp (show 4 * it + 1 < 2 ^ 31 by omega)]
          refine lv_aload_n hx hb d_Lw_law_119 rfl (lv_at hl 3 rfl) ?_
          refine lv_iload_n hx hb d_Lw_law_120 rfl (lv_at hl 0 rfl) ?_
          refine lv_iconst (v := 2) hx hb d_Lw_law_121 (by decide) ?_
          refine lv_iadd hx hb d_Lw_law_122 ?_
          rw [ei2]
          refine va_sld hx hb hX hbl hbA hS (vp_in_nI (show 4 * it + 2 < L by omega) (by omega)) d_Lw_law_123 ?_
          rw [nI_clamp (show 4 * it + 2 < 2 ^ 31 by omega)]
          obtain ⟨A2, hW2, hA2, hA2s, hback2⟩ := zPr_C (D := D) hS.1 zOk_R zOk_C (zPr_swap hPr1)
          refine zcV [.int (xs (4 * it + 1)), .int (xs (4 * it + 2))] [.int r1] E (t_Mo_bytes l D cs A2 q sc lc c gp mo V hI (xs (4 * it + 1)) (xs (4 * it + 2))) d_Lw_law_124 w_322 w_323 w_324 w_2 w_325 ⟨rfl, by decide +kernel, by decide +kernel, (by decide +kernel : Option.map (fun d => d.parameters.length) (parseMethodDescriptor "(II)I") = some 2)⟩ ⟨(Nat.le_of_ble_eq_true rfl), (Nat.le_of_ble_eq_true rfl)⟩ ⟨by show 19 + (it + 1) + 0 ≤ 600000; omega, by show 49182 + 8 * (it + 1) + 0 ≤ 7302250; omega⟩ rfl (Nat.le_of_ble_eq_true rfl) hl.1 (zRW_rec hK hW2) hK hW2 hS hA2s (zki fun r2 H2 locs hq2 hz2 hk2 hS => ?_)
          refine W.widen (k := 19 + (it + 1)) (n := 49182 + 8 * (it + 1)) (by show 19 + (it + 1) + 0 ≤ _; omega) (by show 49182 + 8 * (it + 1) + 0 ≤ _; omega) ?_
          rcases hq2 with ⟨f1, f2, er2, hw2⟩ | ⟨f1, er2, hw2⟩
          · skip
            obtain ⟨o1, o2, o3, o4, o5, o6⟩ := zgd_ok g1
            exact tle _ _ 127 229 (er1.trans er2.symm) d_Lw_law_127 (by decide) (sc + 1) lc (zac c sc 0 (xs (4 * it + 1)) (xs (4 * it + 2))) (upd gp sc (-1)) (upd mo sc 0) (zaV V sc) _ _ (zI_add hI g2 o1 o3 o5 o6) (zJ_add hJ) (zPr_swap (hback2 (fun A H => zRW D A q cs (sc + 1) lc (zac c sc 0 (xs (4 * it + 1)) (xs (4 * it + 2))) (upd gp sc (-1)) (upd mo sc 0) (zaV V sc) H) H2 zOk_R hz2 hk2 hw2)) hS
          · skip
            exact absurd ⟨g1, g2⟩ f1
        · skip
          have hPr1 := hback (fun A H => zCW D A o cs sc lc c gp mo V H) H1 zOk_C hz1 hk1 hw1
          refine lv_aload_n hx hb d_Lw_law_113 rfl (lv_at hl 1 rfl) ?_
          refine lv_aload_n hx hb d_Lw_law_114 rfl (lv_at hl 3 rfl) ?_
          refine lv_iload_n hx hb d_Lw_law_115 rfl (lv_at hl 0 rfl) ?_
          refine lv_iconst (v := 1) hx hb d_Lw_law_116 (by decide) ?_
          refine lv_iadd hx hb d_Lw_law_117 ?_
          rw [ei1]
          refine va_sld hx hb hX hbl hbA hS (vp_in_nI (show 4 * it + 1 < L by omega) (by omega)) d_Lw_law_118 ?_
          rw [nI_clamp (show 4 * it + 1 < 2 ^ 31 by omega)]
          refine lv_aload_n hx hb d_Lw_law_119 rfl (lv_at hl 3 rfl) ?_
          refine lv_iload_n hx hb d_Lw_law_120 rfl (lv_at hl 0 rfl) ?_
          refine lv_iconst (v := 2) hx hb d_Lw_law_121 (by decide) ?_
          refine lv_iadd hx hb d_Lw_law_122 ?_
          rw [ei2]
          refine va_sld hx hb hX hbl hbA hS (vp_in_nI (show 4 * it + 2 < L by omega) (by omega)) d_Lw_law_123 ?_
          rw [nI_clamp (show 4 * it + 2 < 2 ^ 31 by omega)]
          obtain ⟨A2, hW2, hA2, hA2s, hback2⟩ := zPr_C (D := D) hS.1 zOk_R zOk_C (zPr_swap hPr1)
          refine zcV [.int (xs (4 * it + 1)), .int (xs (4 * it + 2))] [.int r1] E (t_Mo_bytes l D cs A2 q sc lc c gp mo V hI (xs (4 * it + 1)) (xs (4 * it + 2))) d_Lw_law_124 w_322 w_323 w_324 w_2 w_325 ⟨rfl, by decide +kernel, by decide +kernel, (by decide +kernel : Option.map (fun d => d.parameters.length) (parseMethodDescriptor "(II)I") = some 2)⟩ ⟨(Nat.le_of_ble_eq_true rfl), (Nat.le_of_ble_eq_true rfl)⟩ ⟨by show 19 + (it + 1) + 0 ≤ 600000; omega, by show 49182 + 8 * (it + 1) + 0 ≤ 7302250; omega⟩ rfl (Nat.le_of_ble_eq_true rfl) hl.1 (zRW_rec hK hW2) hK hW2 hS hA2s (zki fun r2 H2 locs hq2 hz2 hk2 hS => ?_)
          refine W.widen (k := 19 + (it + 1)) (n := 49182 + 8 * (it + 1)) (by show 19 + (it + 1) + 0 ≤ _; omega) (by show 49182 + 8 * (it + 1) + 0 ≤ _; omega) ?_
          rcases hq2 with ⟨f1, f2, er2, hw2⟩ | ⟨f1, er2, hw2⟩
          · skip
            exact absurd ⟨f1, f2⟩ g1
          · skip
            exact tle _ _ 127 229 (er1.trans er2.symm) d_Lw_law_127 (by decide) sc lc c gp mo V _ _ hI hJ (zPr_swap (hback2 (fun A H => zRW D A q cs sc lc c gp mo V H) H2 zOk_R hz2 hk2 hw2)) hS
      · skip
        refine lv_tableIn (tgt := 132) (off := 100) hx hb d_Lw_law_32 (by decide) (by decide) (by decide) (by decide) ?_
        refine lv_aload_n hx hb d_Lw_law_132 rfl (lv_at hl 2 rfl) ?_
        refine lv_aload_n hx hb d_Lw_law_133 rfl (lv_at hl 3 rfl) ?_
        refine lv_iload_n hx hb d_Lw_law_134 rfl (lv_at hl 0 rfl) ?_
        refine lv_iconst (v := 1) hx hb d_Lw_law_135 (by decide) ?_
        refine lv_iadd hx hb d_Lw_law_136 ?_
        rw [ei1]
        refine va_sld hx hb hX hbl hbA hS (vp_in_nI (show 4 * it + 1 < L by omega) (by omega)) d_Lw_law_137 ?_
        rw [nI_clamp (show 4 * it + 1 < 2 ^ 31 by omega)]
        refine lv_aload_n hx hb d_Lw_law_138 rfl (lv_at hl 3 rfl) ?_
        refine lv_iload_n hx hb d_Lw_law_139 rfl (lv_at hl 0 rfl) ?_
        refine lv_iconst (v := 2) hx hb d_Lw_law_140 (by decide) ?_
        refine lv_iadd hx hb d_Lw_law_141 ?_
        rw [ei2]
        refine va_sld hx hb hX hbl hbA hS (vp_in_nI (show 4 * it + 2 < L by omega) (by omega)) d_Lw_law_142 ?_
        rw [nI_clamp (show 4 * it + 2 < 2 ^ 31 by omega)]
        obtain ⟨A1, hW1, hA1, hA1s, hback⟩ := zPr_C (D := D) hS.1 zOk_C zOk_R hPr
        refine zcV [.int (xs (4 * it + 1)), .int (xs (4 * it + 2))] [] E (t_BL_align l D cs A1 o sc lc c gp mo V hI (xs (4 * it + 1)) (xs (4 * it + 2))) d_Lw_law_143 w_101 w_102 w_103 w_1 w_104 ⟨rfl, by decide +kernel, by decide +kernel, (by decide +kernel : Option.map (fun d => d.parameters.length) (parseMethodDescriptor "(II)I") = some 2)⟩ ⟨(Nat.le_of_ble_eq_true rfl), (Nat.le_of_ble_eq_true rfl)⟩ ⟨by show 19 + it + 1 ≤ 600000; omega, by show 49182 + 8 * it + 4 ≤ 7302250; omega⟩ rfl (Nat.le_of_ble_eq_true rfl) hl.1 (zCW_rec hK hW1) hK ⟨hW1, hA1⟩ hS hA1s (zki fun r1 H1 locs hq1 hz1 hk1 hS => ?_)
        refine W.widen (k := 19 + (it + 1)) (n := 49182 + 8 * (it + 1)) (by show 19 + it + 1 ≤ _; omega) (by show 49182 + 8 * it + 4 ≤ _; omega) ?_
        rcases hq1 with ⟨g1, g2, er1, hw1⟩ | ⟨g1, er1, hw1⟩
        · skip
          have hPr1 := hback (fun A H => zCW D A o cs (sc + 1) lc (zac c sc 1 (xs (4 * it + 1)) (xs (4 * it + 2))) (upd gp sc (-1)) (upd mo sc 0) (zaV V sc) H) H1 zOk_C hz1 hk1 hw1
          refine lv_aload_n hx hb d_Lw_law_146 rfl (lv_at hl 1 rfl) ?_
          refine lv_aload_n hx hb d_Lw_law_147 rfl (lv_at hl 3 rfl) ?_
          refine lv_iload_n hx hb d_Lw_law_148 rfl (lv_at hl 0 rfl) ?_
          refine lv_iconst (v := 1) hx hb d_Lw_law_149 (by decide) ?_
          refine lv_iadd hx hb d_Lw_law_150 ?_
          rw [ei1]
          refine va_sld hx hb hX hbl hbA hS (vp_in_nI (show 4 * it + 1 < L by omega) (by omega)) d_Lw_law_151 ?_
          rw [nI_clamp (show 4 * it + 1 < 2 ^ 31 by omega)]
          refine lv_aload_n hx hb d_Lw_law_152 rfl (lv_at hl 3 rfl) ?_
          refine lv_iload_n hx hb d_Lw_law_153 rfl (lv_at hl 0 rfl) ?_
          refine lv_iconst (v := 2) hx hb d_Lw_law_154 (by decide) ?_
          refine lv_iadd hx hb d_Lw_law_155 ?_
          rw [ei2]
          refine va_sld hx hb hX hbl hbA hS (vp_in_nI (show 4 * it + 2 < L by omega) (by omega)) d_Lw_law_156 ?_
          rw [nI_clamp (show 4 * it + 2 < 2 ^ 31 by omega)]
          obtain ⟨A2, hW2, hA2, hA2s, hback2⟩ := zPr_C (D := D) hS.1 zOk_R zOk_C (zPr_swap hPr1)
          refine zcV [.int (xs (4 * it + 1)), .int (xs (4 * it + 2))] [.int r1] E (t_Mo_align l D cs A2 q sc lc c gp mo V hI (xs (4 * it + 1)) (xs (4 * it + 2))) d_Lw_law_157 w_331 w_332 w_333 w_2 w_334 ⟨rfl, by decide +kernel, by decide +kernel, (by decide +kernel : Option.map (fun d => d.parameters.length) (parseMethodDescriptor "(II)I") = some 2)⟩ ⟨(Nat.le_of_ble_eq_true rfl), (Nat.le_of_ble_eq_true rfl)⟩ ⟨by show 19 + (it + 1) + 0 ≤ 600000; omega, by show 49182 + 8 * (it + 1) + 0 ≤ 7302250; omega⟩ rfl (Nat.le_of_ble_eq_true rfl) hl.1 (zRW_rec hK hW2) hK hW2 hS hA2s (zki fun r2 H2 locs hq2 hz2 hk2 hS => ?_)
          refine W.widen (k := 19 + (it + 1)) (n := 49182 + 8 * (it + 1)) (by show 19 + (it + 1) + 0 ≤ _; omega) (by show 49182 + 8 * (it + 1) + 0 ≤ _; omega) ?_
          rcases hq2 with ⟨f1, f2, er2, hw2⟩ | ⟨f1, er2, hw2⟩
          · skip
            obtain ⟨o1, o2, o3, o4, o5, o6⟩ := zgd_ok g1
            exact tle _ _ 160 196 (er1.trans er2.symm) d_Lw_law_160 (by decide) (sc + 1) lc (zac c sc 1 (xs (4 * it + 1)) (xs (4 * it + 2))) (upd gp sc (-1)) (upd mo sc 0) (zaV V sc) _ _ (zI_add hI g2 o1 o3 o5 o6) (zJ_add hJ) (zPr_swap (hback2 (fun A H => zRW D A q cs (sc + 1) lc (zac c sc 1 (xs (4 * it + 1)) (xs (4 * it + 2))) (upd gp sc (-1)) (upd mo sc 0) (zaV V sc) H) H2 zOk_R hz2 hk2 hw2)) hS
          · skip
            exact absurd ⟨g1, g2⟩ f1
        · skip
          have hPr1 := hback (fun A H => zCW D A o cs sc lc c gp mo V H) H1 zOk_C hz1 hk1 hw1
          refine lv_aload_n hx hb d_Lw_law_146 rfl (lv_at hl 1 rfl) ?_
          refine lv_aload_n hx hb d_Lw_law_147 rfl (lv_at hl 3 rfl) ?_
          refine lv_iload_n hx hb d_Lw_law_148 rfl (lv_at hl 0 rfl) ?_
          refine lv_iconst (v := 1) hx hb d_Lw_law_149 (by decide) ?_
          refine lv_iadd hx hb d_Lw_law_150 ?_
          rw [ei1]
          refine va_sld hx hb hX hbl hbA hS (vp_in_nI (show 4 * it + 1 < L by omega) (by omega)) d_Lw_law_151 ?_
          rw [nI_clamp (show 4 * it + 1 < 2 ^ 31 by omega)]
          refine lv_aload_n hx hb d_Lw_law_152 rfl (lv_at hl 3 rfl) ?_
          refine lv_iload_n hx hb d_Lw_law_153 rfl (lv_at hl 0 rfl) ?_
          refine lv_iconst (v := 2) hx hb d_Lw_law_154 (by decide) ?_
          refine lv_iadd hx hb d_Lw_law_155 ?_
          rw [ei2]
          refine va_sld hx hb hX hbl hbA hS (vp_in_nI (show 4 * it + 2 < L by omega) (by omega)) d_Lw_law_156 ?_
          rw [nI_clamp (show 4 * it + 2 < 2 ^ 31 by omega)]
          obtain ⟨A2, hW2, hA2, hA2s, hback2⟩ := zPr_C (D := D) hS.1 zOk_R zOk_C (zPr_swap hPr1)
          refine zcV [.int (xs (4 * it + 1)), .int (xs (4 * it + 2))] [.int r1] E (t_Mo_align l D cs A2 q sc lc c gp mo V hI (xs (4 * it + 1)) (xs (4 * it + 2))) d_Lw_law_157 w_331 w_332 w_333 w_2 w_334 ⟨rfl, by decide +kernel, by decide +kernel, (by decide +kernel : Option.map (fun d => d.parameters.length) (parseMethodDescriptor "(II)I") = some 2)⟩ ⟨(Nat.le_of_ble_eq_true rfl), (Nat.le_of_ble_eq_true rfl)⟩ ⟨by show 19 + (it + 1) + 0 ≤ 600000; omega, by show 49182 + 8 * (it + 1) + 0 ≤ 7302250; omega⟩ rfl (Nat.le_of_ble_eq_true rfl) hl.1 (zRW_rec hK hW2) hK hW2 hS hA2s (zki fun r2 H2 locs hq2 hz2 hk2 hS => ?_)
          refine W.widen (k := 19 + (it + 1)) (n := 49182 + 8 * (it + 1)) (by show 19 + (it + 1) + 0 ≤ _; omega) (by show 49182 + 8 * (it + 1) + 0 ≤ _; omega) ?_
          rcases hq2 with ⟨f1, f2, er2, hw2⟩ | ⟨f1, er2, hw2⟩
          · skip
            exact absurd ⟨f1, f2⟩ g1
          · skip
            exact tle _ _ 160 196 (er1.trans er2.symm) d_Lw_law_160 (by decide) sc lc c gp mo V _ _ hI hJ (zPr_swap (hback2 (fun A H => zRW D A q cs sc lc c gp mo V H) H2 zOk_R hz2 hk2 hw2)) hS
      · skip
        refine lv_tableIn (tgt := 165) (off := 133) hx hb d_Lw_law_32 (by decide) (by decide) (by decide) (by decide) ?_
        refine lv_aload_n hx hb d_Lw_law_165 rfl (lv_at hl 2 rfl) ?_
        refine lv_aload_n hx hb d_Lw_law_166 rfl (lv_at hl 3 rfl) ?_
        refine lv_iload_n hx hb d_Lw_law_167 rfl (lv_at hl 0 rfl) ?_
        refine lv_iconst (v := 1) hx hb d_Lw_law_168 (by decide) ?_
        refine lv_iadd hx hb d_Lw_law_169 ?_
        rw [ei1]
        refine va_sld hx hb hX hbl hbA hS (vp_in_nI (show 4 * it + 1 < L by omega) (by omega)) d_Lw_law_170 ?_
        rw [nI_clamp (show 4 * it + 1 < 2 ^ 31 by omega)]
        refine lv_aload_n hx hb d_Lw_law_171 rfl (lv_at hl 3 rfl) ?_
        refine lv_iload_n hx hb d_Lw_law_172 rfl (lv_at hl 0 rfl) ?_
        refine lv_iconst (v := 2) hx hb d_Lw_law_173 (by decide) ?_
        refine lv_iadd hx hb d_Lw_law_174 ?_
        rw [ei2]
        refine va_sld hx hb hX hbl hbA hS (vp_in_nI (show 4 * it + 2 < L by omega) (by omega)) d_Lw_law_175 ?_
        rw [nI_clamp (show 4 * it + 2 < 2 ^ 31 by omega)]
        obtain ⟨A1, hW1, hA1, hA1s, hback⟩ := zPr_C (D := D) hS.1 zOk_C zOk_R hPr
        refine zcV [.int (xs (4 * it + 1)), .int (xs (4 * it + 2))] [] E (t_BL_branch l D cs A1 o sc lc c gp mo V hI (xs (4 * it + 1)) (xs (4 * it + 2))) d_Lw_law_176 w_127 w_128 w_129 w_1 w_130 ⟨rfl, by decide +kernel, by decide +kernel, (by decide +kernel : Option.map (fun d => d.parameters.length) (parseMethodDescriptor "(II)I") = some 2)⟩ ⟨(Nat.le_of_ble_eq_true rfl), (Nat.le_of_ble_eq_true rfl)⟩ ⟨by show 19 + it + 1 ≤ 600000; omega, by show 49182 + 8 * it + 8 ≤ 7302250; omega⟩ rfl (Nat.le_of_ble_eq_true rfl) hl.1 (zCW_rec hK hW1) hK ⟨hW1, hA1⟩ hS hA1s (zki fun r1 H1 locs hq1 hz1 hk1 hS => ?_)
        refine W.widen (k := 19 + (it + 1)) (n := 49182 + 8 * (it + 1)) (by show 19 + it + 1 ≤ _; omega) (by show 49182 + 8 * it + 8 ≤ _; omega) ?_
        rcases hq1 with ⟨g1, g2, er1, hw1⟩ | ⟨g1, er1, hw1⟩
        · skip
          have hPr1 := hback (fun A H => zCW D A o cs (sc + 1) lc (zac c sc 2 (xs (4 * it + 1)) (xs (4 * it + 2))) (upd gp sc (-1)) (upd mo sc 0) (zaV V sc) H) H1 zOk_C hz1 hk1 hw1
          refine lv_aload_n hx hb d_Lw_law_179 rfl (lv_at hl 1 rfl) ?_
          refine lv_aload_n hx hb d_Lw_law_180 rfl (lv_at hl 3 rfl) ?_
          refine lv_iload_n hx hb d_Lw_law_181 rfl (lv_at hl 0 rfl) ?_
          refine lv_iconst (v := 1) hx hb d_Lw_law_182 (by decide) ?_
          refine lv_iadd hx hb d_Lw_law_183 ?_
          rw [ei1]
          refine va_sld hx hb hX hbl hbA hS (vp_in_nI (show 4 * it + 1 < L by omega) (by omega)) d_Lw_law_184 ?_
          rw [nI_clamp (show 4 * it + 1 < 2 ^ 31 by omega)]
          refine lv_aload_n hx hb d_Lw_law_185 rfl (lv_at hl 3 rfl) ?_
          refine lv_iload_n hx hb d_Lw_law_186 rfl (lv_at hl 0 rfl) ?_
          refine lv_iconst (v := 2) hx hb d_Lw_law_187 (by decide) ?_
          refine lv_iadd hx hb d_Lw_law_188 ?_
          rw [ei2]
          refine va_sld hx hb hX hbl hbA hS (vp_in_nI (show 4 * it + 2 < L by omega) (by omega)) d_Lw_law_189 ?_
          rw [nI_clamp (show 4 * it + 2 < 2 ^ 31 by omega)]
          obtain ⟨A2, hW2, hA2, hA2s, hback2⟩ := zPr_C (D := D) hS.1 zOk_R zOk_C (zPr_swap hPr1)
          refine zcV [.int (xs (4 * it + 1)), .int (xs (4 * it + 2))] [.int r1] E (t_Mo_branch l D cs A2 q sc lc c gp mo V hI (xs (4 * it + 1)) (xs (4 * it + 2))) d_Lw_law_190 w_335 w_336 w_337 w_2 w_338 ⟨rfl, by decide +kernel, by decide +kernel, (by decide +kernel : Option.map (fun d => d.parameters.length) (parseMethodDescriptor "(II)I") = some 2)⟩ ⟨(Nat.le_of_ble_eq_true rfl), (Nat.le_of_ble_eq_true rfl)⟩ ⟨by show 19 + (it + 1) + 0 ≤ 600000; omega, by show 49182 + 8 * (it + 1) + 0 ≤ 7302250; omega⟩ rfl (Nat.le_of_ble_eq_true rfl) hl.1 (zRW_rec hK hW2) hK hW2 hS hA2s (zki fun r2 H2 locs hq2 hz2 hk2 hS => ?_)
          refine W.widen (k := 19 + (it + 1)) (n := 49182 + 8 * (it + 1)) (by show 19 + (it + 1) + 0 ≤ _; omega) (by show 49182 + 8 * (it + 1) + 0 ≤ _; omega) ?_
          rcases hq2 with ⟨f1, f2, er2, hw2⟩ | ⟨f1, er2, hw2⟩
          · skip
            obtain ⟨o1, o2, o3, o4, o5, o6⟩ := zgd_ok g1
            exact tle _ _ 193 163 (er1.trans er2.symm) d_Lw_law_193 (by decide) (sc + 1) lc (zac c sc 2 (xs (4 * it + 1)) (xs (4 * it + 2))) (upd gp sc (-1)) (upd mo sc 0) (zaV V sc) _ _ (zI_add hI g2 o1 o3 o5 o6) (zJ_add hJ) (zPr_swap (hback2 (fun A H => zRW D A q cs (sc + 1) lc (zac c sc 2 (xs (4 * it + 1)) (xs (4 * it + 2))) (upd gp sc (-1)) (upd mo sc 0) (zaV V sc) H) H2 zOk_R hz2 hk2 hw2)) hS
          · skip
            exact absurd ⟨g1, g2⟩ f1
        · skip
          have hPr1 := hback (fun A H => zCW D A o cs sc lc c gp mo V H) H1 zOk_C hz1 hk1 hw1
          refine lv_aload_n hx hb d_Lw_law_179 rfl (lv_at hl 1 rfl) ?_
          refine lv_aload_n hx hb d_Lw_law_180 rfl (lv_at hl 3 rfl) ?_
          refine lv_iload_n hx hb d_Lw_law_181 rfl (lv_at hl 0 rfl) ?_
          refine lv_iconst (v := 1) hx hb d_Lw_law_182 (by decide) ?_
          refine lv_iadd hx hb d_Lw_law_183 ?_
          rw [ei1]
          refine va_sld hx hb hX hbl hbA hS (vp_in_nI (show 4 * it + 1 < L by omega) (by omega)) d_Lw_law_184 ?_
          rw [nI_clamp (show 4 * it + 1 < 2 ^ 31 by omega)]
          refine lv_aload_n hx hb d_Lw_law_185 rfl (lv_at hl 3 rfl) ?_
          refine lv_iload_n hx hb d_Lw_law_186 rfl (lv_at hl 0 rfl) ?_
          refine lv_iconst (v := 2) hx hb d_Lw_law_187 (by decide) ?_
          refine lv_iadd hx hb d_Lw_law_188 ?_
          rw [ei2]
          refine va_sld hx hb hX hbl hbA hS (vp_in_nI (show 4 * it + 2 < L by omega) (by omega)) d_Lw_law_189 ?_
          rw [nI_clamp (show 4 * it + 2 < 2 ^ 31 by omega)]
          obtain ⟨A2, hW2, hA2, hA2s, hback2⟩ := zPr_C (D := D) hS.1 zOk_R zOk_C (zPr_swap hPr1)
          refine zcV [.int (xs (4 * it + 1)), .int (xs (4 * it + 2))] [.int r1] E (t_Mo_branch l D cs A2 q sc lc c gp mo V hI (xs (4 * it + 1)) (xs (4 * it + 2))) d_Lw_law_190 w_335 w_336 w_337 w_2 w_338 ⟨rfl, by decide +kernel, by decide +kernel, (by decide +kernel : Option.map (fun d => d.parameters.length) (parseMethodDescriptor "(II)I") = some 2)⟩ ⟨(Nat.le_of_ble_eq_true rfl), (Nat.le_of_ble_eq_true rfl)⟩ ⟨by show 19 + (it + 1) + 0 ≤ 600000; omega, by show 49182 + 8 * (it + 1) + 0 ≤ 7302250; omega⟩ rfl (Nat.le_of_ble_eq_true rfl) hl.1 (zRW_rec hK hW2) hK hW2 hS hA2s (zki fun r2 H2 locs hq2 hz2 hk2 hS => ?_)
          refine W.widen (k := 19 + (it + 1)) (n := 49182 + 8 * (it + 1)) (by show 19 + (it + 1) + 0 ≤ _; omega) (by show 49182 + 8 * (it + 1) + 0 ≤ _; omega) ?_
          rcases hq2 with ⟨f1, f2, er2, hw2⟩ | ⟨f1, er2, hw2⟩
          · skip
            exact absurd ⟨f1, f2⟩ g1
          · skip
            exact tle _ _ 193 163 (er1.trans er2.symm) d_Lw_law_193 (by decide) sc lc c gp mo V _ _ hI hJ (zPr_swap (hback2 (fun A H => zRW D A q cs sc lc c gp mo V H) H2 zOk_R hz2 hk2 hw2)) hS
      · skip
        refine lv_tableIn (tgt := 198) (off := 166) hx hb d_Lw_law_32 (by decide) (by decide) (by decide) (by decide) ?_
        refine lv_aload_n hx hb d_Lw_law_198 rfl (lv_at hl 2 rfl) ?_
        refine lv_aload_n hx hb d_Lw_law_199 rfl (lv_at hl 3 rfl) ?_
        refine lv_iload_n hx hb d_Lw_law_200 rfl (lv_at hl 0 rfl) ?_
        refine lv_iconst (v := 1) hx hb d_Lw_law_201 (by decide) ?_
        refine lv_iadd hx hb d_Lw_law_202 ?_
        rw [ei1]
        refine va_sld hx hb hX hbl hbA hS (vp_in_nI (show 4 * it + 1 < L by omega) (by omega)) d_Lw_law_203 ?_
        rw [nI_clamp (show 4 * it + 1 < 2 ^ 31 by omega)]
        obtain ⟨A1, hW1, hA1, hA1s, hback⟩ := zPr_C (D := D) hS.1 zOk_C zOk_R hPr
        refine zcV [.int (xs (4 * it + 1))] [] E (t_BL_label l D cs A1 o sc lc c gp mo V hI (xs (4 * it + 1))) d_Lw_law_204 w_159 w_160 w_161 w_1 w_162 ⟨rfl, by decide +kernel, by decide +kernel, (by decide +kernel : Option.map (fun d => d.parameters.length) (parseMethodDescriptor "(I)I") = some 1)⟩ ⟨(Nat.le_of_ble_eq_true rfl), (Nat.le_of_ble_eq_true rfl)⟩ ⟨by show 19 + it + 1 ≤ 600000; omega, by show 49182 + 8 * it + 3 ≤ 7302250; omega⟩ rfl (Nat.le_of_ble_eq_true rfl) hl.1 (zCW_rec hK hW1) hK ⟨hW1, hA1⟩ hS hA1s (zki fun r1 H1 locs hq1 hz1 hk1 hS => ?_)
        refine W.widen (k := 19 + (it + 1)) (n := 49182 + 8 * (it + 1)) (by show 19 + it + 1 ≤ _; omega) (by show 49182 + 8 * it + 3 ≤ _; omega) ?_
        rcases hq1 with ⟨g1, g2, er1, hw1⟩ | ⟨g1, er1, hw1⟩
        · skip
          have hPr1 := hback (fun A H => zCW D A o cs sc (lc + 1) (zlc c lc sc (xs (4 * it + 1))) gp mo (zu V 4 lc 0) H) H1 zOk_C hz1 hk1 hw1
          refine lv_aload_n hx hb d_Lw_law_207 rfl (lv_at hl 1 rfl) ?_
          refine lv_aload_n hx hb d_Lw_law_208 rfl (lv_at hl 3 rfl) ?_
          refine lv_iload_n hx hb d_Lw_law_209 rfl (lv_at hl 0 rfl) ?_
          refine lv_iconst (v := 1) hx hb d_Lw_law_210 (by decide) ?_
          refine lv_iadd hx hb d_Lw_law_211 ?_
          rw [ei1]
          refine va_sld hx hb hX hbl hbA hS (vp_in_nI (show 4 * it + 1 < L by omega) (by omega)) d_Lw_law_212 ?_
          rw [nI_clamp (show 4 * it + 1 < 2 ^ 31 by omega)]
          obtain ⟨A2, hW2, hA2, hA2s, hback2⟩ := zPr_C (D := D) hS.1 zOk_R zOk_C (zPr_swap hPr1)
          refine zcV [.int (xs (4 * it + 1))] [.int r1] E (t_Mo_label l D cs A2 q sc lc c gp mo V hI (xs (4 * it + 1))) d_Lw_law_213 w_339 w_340 w_341 w_2 w_342 ⟨rfl, by decide +kernel, by decide +kernel, (by decide +kernel : Option.map (fun d => d.parameters.length) (parseMethodDescriptor "(I)I") = some 1)⟩ ⟨(Nat.le_of_ble_eq_true rfl), (Nat.le_of_ble_eq_true rfl)⟩ ⟨by show 19 + (it + 1) + 0 ≤ 600000; omega, by show 49182 + 8 * (it + 1) + 0 ≤ 7302250; omega⟩ rfl (Nat.le_of_ble_eq_true rfl) hl.1 (zRW_rec hK hW2) hK hW2 hS hA2s (zki fun r2 H2 locs hq2 hz2 hk2 hS => ?_)
          refine W.widen (k := 19 + (it + 1)) (n := 49182 + 8 * (it + 1)) (by show 19 + (it + 1) + 0 ≤ _; omega) (by show 49182 + 8 * (it + 1) + 0 ≤ _; omega) ?_
          rcases hq2 with ⟨f1, f2, er2, hw2⟩ | ⟨f1, er2, hw2⟩
          · skip
            have hx4 : (xs (4 * it + 1)).toNatClampNeg < 4 := by
              obtain ⟨-, i4, hi4, e4i⟩ := zin (n := 4) (N := 4) (by decide) (by decide) (of_decide_eq_true g1).1 (Int32.not_le.mpr (of_decide_eq_true g1).2)
              rw [e4i, nI_clamp (by omega)]; exact hi4
            exact tle _ _ 216 140 (er1.trans er2.symm) d_Lw_law_216 (by decide) sc (lc + 1) (zlc c lc sc (xs (4 * it + 1))) gp mo (zu V 4 lc 0) _ _ (zI_lab hI g2 hx4) (zJ_lab hJ) (zPr_swap (hback2 (fun A H => zRW D A q cs sc (lc + 1) (zlc c lc sc (xs (4 * it + 1))) gp mo (zu V 4 lc 0) H) H2 zOk_R hz2 hk2 hw2)) hS
          · skip
            exact absurd ⟨g1, g2⟩ f1
        · skip
          have hPr1 := hback (fun A H => zCW D A o cs sc lc c gp mo V H) H1 zOk_C hz1 hk1 hw1
          refine lv_aload_n hx hb d_Lw_law_207 rfl (lv_at hl 1 rfl) ?_
          refine lv_aload_n hx hb d_Lw_law_208 rfl (lv_at hl 3 rfl) ?_
          refine lv_iload_n hx hb d_Lw_law_209 rfl (lv_at hl 0 rfl) ?_
          refine lv_iconst (v := 1) hx hb d_Lw_law_210 (by decide) ?_
          refine lv_iadd hx hb d_Lw_law_211 ?_
          rw [ei1]
          refine va_sld hx hb hX hbl hbA hS (vp_in_nI (show 4 * it + 1 < L by omega) (by omega)) d_Lw_law_212 ?_
          rw [nI_clamp (show 4 * it + 1 < 2 ^ 31 by omega)]
          obtain ⟨A2, hW2, hA2, hA2s, hback2⟩ := zPr_C (D := D) hS.1 zOk_R zOk_C (zPr_swap hPr1)
          refine zcV [.int (xs (4 * it + 1))] [.int r1] E (t_Mo_label l D cs A2 q sc lc c gp mo V hI (xs (4 * it + 1))) d_Lw_law_213 w_339 w_340 w_341 w_2 w_342 ⟨rfl, by decide +kernel, by decide +kernel, (by decide +kernel : Option.map (fun d => d.parameters.length) (parseMethodDescriptor "(I)I") = some 1)⟩ ⟨(Nat.le_of_ble_eq_true rfl), (Nat.le_of_ble_eq_true rfl)⟩ ⟨by show 19 + (it + 1) + 0 ≤ 600000; omega, by show 49182 + 8 * (it + 1) + 0 ≤ 7302250; omega⟩ rfl (Nat.le_of_ble_eq_true rfl) hl.1 (zRW_rec hK hW2) hK hW2 hS hA2s (zki fun r2 H2 locs hq2 hz2 hk2 hS => ?_)
          refine W.widen (k := 19 + (it + 1)) (n := 49182 + 8 * (it + 1)) (by show 19 + (it + 1) + 0 ≤ _; omega) (by show 49182 + 8 * (it + 1) + 0 ≤ _; omega) ?_
          rcases hq2 with ⟨f1, f2, er2, hw2⟩ | ⟨f1, er2, hw2⟩
          · skip
            exact absurd ⟨f1, f2⟩ g1
          · skip
            exact tle _ _ 216 140 (er1.trans er2.symm) d_Lw_law_216 (by decide) sc lc c gp mo V _ _ hI hJ (zPr_swap (hback2 (fun A H => zRW D A q cs sc lc c gp mo V H) H2 zOk_R hz2 hk2 hw2)) hS
      · skip
        refine lv_tableIn (tgt := 221) (off := 189) hx hb d_Lw_law_32 (by decide) (by decide) (by decide) (by decide) ?_
        refine lv_aload_n hx hb d_Lw_law_221 rfl (lv_at hl 2 rfl) ?_
        refine lv_aload_n hx hb d_Lw_law_222 rfl (lv_at hl 3 rfl) ?_
        refine lv_iload_n hx hb d_Lw_law_223 rfl (lv_at hl 0 rfl) ?_
        refine lv_iconst (v := 1) hx hb d_Lw_law_224 (by decide) ?_
        refine lv_iadd hx hb d_Lw_law_225 ?_
        rw [ei1]
        refine va_sld hx hb hX hbl hbA hS (vp_in_nI (show 4 * it + 1 < L by omega) (by omega)) d_Lw_law_226 ?_
        rw [nI_clamp (show 4 * it + 1 < 2 ^ 31 by omega)]
        refine lv_aload_n hx hb d_Lw_law_227 rfl (lv_at hl 3 rfl) ?_
        refine lv_iload_n hx hb d_Lw_law_228 rfl (lv_at hl 0 rfl) ?_
        refine lv_iconst (v := 2) hx hb d_Lw_law_229 (by decide) ?_
        refine lv_iadd hx hb d_Lw_law_230 ?_
        rw [ei2]
        refine va_sld hx hb hX hbl hbA hS (vp_in_nI (show 4 * it + 2 < L by omega) (by omega)) d_Lw_law_231 ?_
        rw [nI_clamp (show 4 * it + 2 < 2 ^ 31 by omega)]
        refine lv_aload_n hx hb d_Lw_law_232 rfl (lv_at hl 3 rfl) ?_
        refine lv_iload_n hx hb d_Lw_law_233 rfl (lv_at hl 0 rfl) ?_
        refine lv_iconst (v := 3) hx hb d_Lw_law_234 (by decide) ?_
        refine lv_iadd hx hb d_Lw_law_235 ?_
        rw [ei3]
        refine va_sld hx hb hX hbl hbA hS (vp_in_nI (show 4 * it + 3 < L by omega) (by omega)) d_Lw_law_236 ?_
        rw [nI_clamp (show 4 * it + 3 < 2 ^ 31 by omega)]
        obtain ⟨A1, hW1, hA1, hA1s, hback⟩ := zPr_C (D := D) hS.1 zOk_C zOk_R hPr
        refine zcV [.int (xs (4 * it + 1)), .int (xs (4 * it + 2)), .int (xs (4 * it + 3))] [] E (t_BL_go l D cs A1 o sc lc c gp mo V hI (xs (4 * it + 1)) (xs (4 * it + 2)) (xs (4 * it + 3))) d_Lw_law_237 w_175 w_176 w_177 w_1 w_178 ⟨rfl, by decide +kernel, by decide +kernel, (by decide +kernel : Option.map (fun d => d.parameters.length) (parseMethodDescriptor "(III)Z") = some 3)⟩ ⟨(Nat.le_of_ble_eq_true rfl), (Nat.le_of_ble_eq_true rfl)⟩ ⟨by show 19 + it + 0 ≤ 600000; omega, by show 49182 + 8 * it + 0 ≤ 7302250; omega⟩ rfl (Nat.le_of_ble_eq_true rfl) hl.1 (zCW_rec hK hW1) hK hW1 hS hA1s (zki fun r1 H1 locs hq1 hz1 hk1 hS => ?_)
        refine W.widen (k := 19 + (it + 1)) (n := 49182 + 8 * (it + 1)) (by show 19 + it + 0 ≤ _; omega) (by show 49182 + 8 * it + 0 ≤ _; omega) ?_
        rcases hq1 with ⟨g1, er1, hw1⟩ | ⟨g1, er1, hw1⟩
        · skip
          have hPr1 := hback (fun A H => zCW D A o cs sc lc c (upd gp (xs (4 * it + 1)).toNatClampNeg (xs (4 * it + 2))) (upd mo (xs (4 * it + 1)).toNatClampNeg (xs (4 * it + 3))) V H) H1 zOk_C hz1 hk1 hw1
          refine lv_aload_n hx hb d_Lw_law_240 rfl (lv_at hl 1 rfl) ?_
          refine lv_aload_n hx hb d_Lw_law_241 rfl (lv_at hl 3 rfl) ?_
          refine lv_iload_n hx hb d_Lw_law_242 rfl (lv_at hl 0 rfl) ?_
          refine lv_iconst (v := 1) hx hb d_Lw_law_243 (by decide) ?_
          refine lv_iadd hx hb d_Lw_law_244 ?_
          rw [ei1]
          refine va_sld hx hb hX hbl hbA hS (vp_in_nI (show 4 * it + 1 < L by omega) (by omega)) d_Lw_law_245 ?_
          rw [nI_clamp (show 4 * it + 1 < 2 ^ 31 by omega)]
          refine lv_aload_n hx hb d_Lw_law_246 rfl (lv_at hl 3 rfl) ?_
          refine lv_iload_n hx hb d_Lw_law_247 rfl (lv_at hl 0 rfl) ?_
          refine lv_iconst (v := 2) hx hb d_Lw_law_248 (by decide) ?_
          refine lv_iadd hx hb d_Lw_law_249 ?_
          rw [ei2]
          refine va_sld hx hb hX hbl hbA hS (vp_in_nI (show 4 * it + 2 < L by omega) (by omega)) d_Lw_law_250 ?_
          rw [nI_clamp (show 4 * it + 2 < 2 ^ 31 by omega)]
          refine lv_aload_n hx hb d_Lw_law_251 rfl (lv_at hl 3 rfl) ?_
          refine lv_iload_n hx hb d_Lw_law_252 rfl (lv_at hl 0 rfl) ?_
          refine lv_iconst (v := 3) hx hb d_Lw_law_253 (by decide) ?_
          refine lv_iadd hx hb d_Lw_law_254 ?_
          rw [ei3]
          refine va_sld hx hb hX hbl hbA hS (vp_in_nI (show 4 * it + 3 < L by omega) (by omega)) d_Lw_law_255 ?_
          rw [nI_clamp (show 4 * it + 3 < 2 ^ 31 by omega)]
          obtain ⟨A2, hW2, hA2, hA2s, hback2⟩ := zPr_C (D := D) hS.1 zOk_R zOk_C (zPr_swap hPr1)
          refine zcV [.int (xs (4 * it + 1)), .int (xs (4 * it + 2)), .int (xs (4 * it + 3))] [.int r1] E (t_Mo_go l D cs A2 q sc lc c gp mo V hI (xs (4 * it + 1)) (xs (4 * it + 2)) (xs (4 * it + 3))) d_Lw_law_256 w_343 w_344 w_345 w_2 w_346 ⟨rfl, by decide +kernel, by decide +kernel, (by decide +kernel : Option.map (fun d => d.parameters.length) (parseMethodDescriptor "(III)Z") = some 3)⟩ ⟨(Nat.le_of_ble_eq_true rfl), (Nat.le_of_ble_eq_true rfl)⟩ ⟨by show 19 + (it + 1) + 0 ≤ 600000; omega, by show 49182 + 8 * (it + 1) + 0 ≤ 7302250; omega⟩ rfl (Nat.le_of_ble_eq_true rfl) hl.1 (zRW_rec hK hW2) hK hW2 hS hA2s (zki fun r2 H2 locs hq2 hz2 hk2 hS => ?_)
          refine W.widen (k := 19 + (it + 1)) (n := 49182 + 8 * (it + 1)) (by show 19 + (it + 1) + 0 ≤ _; omega) (by show 49182 + 8 * (it + 1) + 0 ≤ _; omega) ?_
          rcases hq2 with ⟨f1, er2, hw2⟩ | ⟨f1, er2, hw2⟩
          · skip
            exact tle _ _ 259 97 (er1.trans er2.symm) d_Lw_law_259 (by decide) sc lc c (upd gp (xs (4 * it + 1)).toNatClampNeg (xs (4 * it + 2))) (upd mo (xs (4 * it + 1)).toNatClampNeg (xs (4 * it + 3))) V _ _ (zI_go hI g1) (zJ_go hI g1 hJ) (zPr_swap (hback2 (fun A H => zRW D A q cs sc lc c (upd gp (xs (4 * it + 1)).toNatClampNeg (xs (4 * it + 2))) (upd mo (xs (4 * it + 1)).toNatClampNeg (xs (4 * it + 3))) V H) H2 zOk_R hz2 hk2 hw2)) hS
          · skip
            exact absurd g1 f1
        · skip
          have hPr1 := hback (fun A H => zCW D A o cs sc lc c gp mo V H) H1 zOk_C hz1 hk1 hw1
          refine lv_aload_n hx hb d_Lw_law_240 rfl (lv_at hl 1 rfl) ?_
          refine lv_aload_n hx hb d_Lw_law_241 rfl (lv_at hl 3 rfl) ?_
          refine lv_iload_n hx hb d_Lw_law_242 rfl (lv_at hl 0 rfl) ?_
          refine lv_iconst (v := 1) hx hb d_Lw_law_243 (by decide) ?_
          refine lv_iadd hx hb d_Lw_law_244 ?_
          rw [ei1]
          refine va_sld hx hb hX hbl hbA hS (vp_in_nI (show 4 * it + 1 < L by omega) (by omega)) d_Lw_law_245 ?_
          rw [nI_clamp (show 4 * it + 1 < 2 ^ 31 by omega)]
          refine lv_aload_n hx hb d_Lw_law_246 rfl (lv_at hl 3 rfl) ?_
          refine lv_iload_n hx hb d_Lw_law_247 rfl (lv_at hl 0 rfl) ?_
          refine lv_iconst (v := 2) hx hb d_Lw_law_248 (by decide) ?_
          refine lv_iadd hx hb d_Lw_law_249 ?_
          rw [ei2]
          refine va_sld hx hb hX hbl hbA hS (vp_in_nI (show 4 * it + 2 < L by omega) (by omega)) d_Lw_law_250 ?_
          rw [nI_clamp (show 4 * it + 2 < 2 ^ 31 by omega)]
          refine lv_aload_n hx hb d_Lw_law_251 rfl (lv_at hl 3 rfl) ?_
          refine lv_iload_n hx hb d_Lw_law_252 rfl (lv_at hl 0 rfl) ?_
          refine lv_iconst (v := 3) hx hb d_Lw_law_253 (by decide) ?_
          refine lv_iadd hx hb d_Lw_law_254 ?_
          rw [ei3]
          refine va_sld hx hb hX hbl hbA hS (vp_in_nI (show 4 * it + 3 < L by omega) (by omega)) d_Lw_law_255 ?_
          rw [nI_clamp (show 4 * it + 3 < 2 ^ 31 by omega)]
          obtain ⟨A2, hW2, hA2, hA2s, hback2⟩ := zPr_C (D := D) hS.1 zOk_R zOk_C (zPr_swap hPr1)
          refine zcV [.int (xs (4 * it + 1)), .int (xs (4 * it + 2)), .int (xs (4 * it + 3))] [.int r1] E (t_Mo_go l D cs A2 q sc lc c gp mo V hI (xs (4 * it + 1)) (xs (4 * it + 2)) (xs (4 * it + 3))) d_Lw_law_256 w_343 w_344 w_345 w_2 w_346 ⟨rfl, by decide +kernel, by decide +kernel, (by decide +kernel : Option.map (fun d => d.parameters.length) (parseMethodDescriptor "(III)Z") = some 3)⟩ ⟨(Nat.le_of_ble_eq_true rfl), (Nat.le_of_ble_eq_true rfl)⟩ ⟨by show 19 + (it + 1) + 0 ≤ 600000; omega, by show 49182 + 8 * (it + 1) + 0 ≤ 7302250; omega⟩ rfl (Nat.le_of_ble_eq_true rfl) hl.1 (zRW_rec hK hW2) hK hW2 hS hA2s (zki fun r2 H2 locs hq2 hz2 hk2 hS => ?_)
          refine W.widen (k := 19 + (it + 1)) (n := 49182 + 8 * (it + 1)) (by show 19 + (it + 1) + 0 ≤ _; omega) (by show 49182 + 8 * (it + 1) + 0 ≤ _; omega) ?_
          rcases hq2 with ⟨f1, er2, hw2⟩ | ⟨f1, er2, hw2⟩
          · skip
            exact absurd f1 g1
          · skip
            exact tle _ _ 259 97 (er1.trans er2.symm) d_Lw_law_259 (by decide) sc lc c gp mo V _ _ hI hJ (zPr_swap (hback2 (fun A H => zRW D A q cs sc lc c gp mo V H) H2 zOk_R hz2 hk2 hw2)) hS
      · skip
        refine lv_tableIn (tgt := 264) (off := 232) hx hb d_Lw_law_32 (by decide) (by decide) (by decide) (by decide) ?_
        refine lv_aload_n hx hb d_Lw_law_264 rfl (lv_at hl 2 rfl) ?_
        obtain ⟨A1, hW1, hA1, hA1s, hback⟩ := zPr_C (D := D) hS.1 zOk_C zOk_R hPr
        refine zcV [] [] E (t_BL_relax l D cs A1 o sc lc c gp mo V hI hJ) d_Lw_law_265 w_191 w_192 w_193 w_1 w_194 ⟨rfl, by decide +kernel, by decide +kernel, (by decide +kernel : Option.map (fun d => d.parameters.length) (parseMethodDescriptor "()I") = some 0)⟩ ⟨(Nat.le_of_ble_eq_true rfl), (Nat.le_of_ble_eq_true rfl)⟩ ⟨by show 19 + it + 0 ≤ 600000; omega, by show 49182 + 8 * it + 0 ≤ 7302250; omega⟩ rfl (Nat.le_of_ble_eq_true rfl) hl.1 (zCW_rec hK hW1) hK hW1 hS hA1s (zki fun r1 H1 locs hq1 hz1 hk1 hS => ?_)
        refine W.widen (k := 19 + (it + 1)) (n := 49182 + 8 * (it + 1)) (by show 19 + it + 0 ≤ _; omega) (by show 49182 + 8 * it + 0 ≤ _; omega) ?_
        obtain ⟨V2, hx1, hw1⟩ := hq1
        have hPr1 := hback (fun A H => zCW D A o cs sc lc c gp mo V2 H) H1 zOk_C hz1 hk1 hw1
        refine lv_aload_n hx hb d_Lw_law_268 rfl (lv_at hl 1 rfl) ?_
        obtain ⟨A2, hW2, hA2, hA2s, hback2⟩ := zPr_C (D := D) hS.1 zOk_R zOk_C (zPr_swap hPr1)
        refine zcV [] [.int r1] E (t_Mo_relax l D cs A2 q sc lc c gp mo V hI) d_Lw_law_269 w_347 w_348 w_349 w_2 w_350 ⟨rfl, by decide +kernel, by decide +kernel, (by decide +kernel : Option.map (fun d => d.parameters.length) (parseMethodDescriptor "()I") = some 0)⟩ ⟨(Nat.le_of_ble_eq_true rfl), (Nat.le_of_ble_eq_true rfl)⟩ ⟨by show 19 + (it + 1) + 0 ≤ 600000; omega, by show 49182 + 8 * (it + 1) + 0 ≤ 7302250; omega⟩ rfl (Nat.le_of_ble_eq_true rfl) hl.1 (zRW_rec hK hW2) hK hW2 hS hA2s (zki fun r2 H2 locs hq2 hz2 hk2 hS => ?_)
        refine W.widen (k := 19 + (it + 1)) (n := 49182 + 8 * (it + 1)) (by show 19 + (it + 1) + 0 ≤ _; omega) (by show 49182 + 8 * (it + 1) + 0 ≤ _; omega) ?_
        obtain ⟨V3, hx2, hw2⟩ := hq2
        obtain ⟨er, k1, k2, k3⟩ := zRx_same hI hx2 hx1
        have hw3 : zRW D A2 q cs sc lc c gp mo V2 H2 := by
          obtain ⟨th, R, z1, z2⟩ := hw2
          exact ⟨th, R, zAg_V z1 k1 k2 k3, z2⟩
        exact tle _ _ 272 84 er.symm d_Lw_law_272 (by decide) sc lc c gp mo V2 _ _ hI (zRx_J hx1) (zPr_swap (hback2 (fun A H => zRW D A q cs sc lc c gp mo V2 H) H2 zOk_R hz2 hk2 hw3)) hS
      · skip
        refine lv_tableIn (tgt := 277) (off := 245) hx hb d_Lw_law_32 (by decide) (by decide) (by decide) (by decide) ?_
        refine lv_aload_n hx hb d_Lw_law_277 rfl (lv_at hl 2 rfl) ?_
        refine lv_aload_n hx hb d_Lw_law_278 rfl (lv_at hl 3 rfl) ?_
        refine lv_iload_n hx hb d_Lw_law_279 rfl (lv_at hl 0 rfl) ?_
        refine lv_iconst (v := 1) hx hb d_Lw_law_280 (by decide) ?_
        refine lv_iadd hx hb d_Lw_law_281 ?_
        rw [ei1]
        refine va_sld hx hb hX hbl hbA hS (vp_in_nI (show 4 * it + 1 < L by omega) (by omega)) d_Lw_law_282 ?_
        rw [nI_clamp (show 4 * it + 1 < 2 ^ 31 by omega)]
        refine lv_aload_n hx hb d_Lw_law_283 rfl (lv_at hl 3 rfl) ?_
        refine lv_iload_n hx hb d_Lw_law_284 rfl (lv_at hl 0 rfl) ?_
        refine lv_iconst (v := 2) hx hb d_Lw_law_285 (by decide) ?_
        refine lv_iadd hx hb d_Lw_law_286 ?_
        rw [ei2]
        refine va_sld hx hb hX hbl hbA hS (vp_in_nI (show 4 * it + 2 < L by omega) (by omega)) d_Lw_law_287 ?_
        rw [nI_clamp (show 4 * it + 2 < 2 ^ 31 by omega)]
        obtain ⟨Ac, Ar, hd1, hd2, hWc, hWr⟩ := id hPr
        obtain ⟨fa, fb, ad, bd, hfa, hfb, hwz⟩ := id hWc
        refine zcV [.int (xs (4 * it + 1)), .int (xs (4 * it + 2))] [] E (t_BL_statement l D cs Ac o sc lc fa fb ad bd c gp mo V hI hJ hfa (xs (4 * it + 1)) (xs (4 * it + 2)) _ hwz) d_Lw_law_288 w_237 w_238 w_239 w_1 w_240 ⟨rfl, by decide +kernel, by decide +kernel, (by decide +kernel : Option.map (fun d => d.parameters.length) (parseMethodDescriptor "(II)I") = some 2)⟩ ⟨(Nat.le_of_ble_eq_true rfl), (Nat.le_of_ble_eq_true rfl)⟩ ⟨by show 19 + it + 0 ≤ 600000; omega, by show 49182 + 8 * it + 0 ≤ 7302250; omega⟩ rfl (Nat.le_of_ble_eq_true rfl) hl.1 (zCW_rec hK hWc) hK rfl hS (fun _ h => h.elim) (zki fun r1 H1 locs1 hq1 hz1 hk1 hS1 => ?_)
        refine W.widen (k := 19 + (it + 1)) (n := 49182 + 8 * (it + 1)) (by show 19 + it + 0 ≤ _; omega) (by show 49182 + 8 * it + 0 ≤ _; omega) ?_
        obtain ⟨e8, er1⟩ := hq1
        subst e8
        have hS := hS1
        refine lv_aload_n hx hb d_Lw_law_291 rfl (lv_at hl 1 rfl) ?_
        refine lv_aload_n hx hb d_Lw_law_292 rfl (lv_at hl 3 rfl) ?_
        refine lv_iload_n hx hb d_Lw_law_293 rfl (lv_at hl 0 rfl) ?_
        refine lv_iconst (v := 1) hx hb d_Lw_law_294 (by decide) ?_
        refine lv_iadd hx hb d_Lw_law_295 ?_
        rw [ei1]
        refine va_sld hx hb hX hbl hbA hS (vp_in_nI (show 4 * it + 1 < L by omega) (by omega)) d_Lw_law_296 ?_
        rw [nI_clamp (show 4 * it + 1 < 2 ^ 31 by omega)]
        refine lv_aload_n hx hb d_Lw_law_297 rfl (lv_at hl 3 rfl) ?_
        refine lv_iload_n hx hb d_Lw_law_298 rfl (lv_at hl 0 rfl) ?_
        refine lv_iconst (v := 2) hx hb d_Lw_law_299 (by decide) ?_
        refine lv_iadd hx hb d_Lw_law_300 ?_
        rw [ei2]
        refine va_sld hx hb hX hbl hbA hS (vp_in_nI (show 4 * it + 2 < L by omega) (by omega)) d_Lw_law_301 ?_
        rw [nI_clamp (show 4 * it + 2 < 2 ^ 31 by omega)]
        obtain ⟨A2, hW2, hA2, hA2s, hback2⟩ := zPr_C (D := D) hS.1 zOk_R zOk_C (zPr_swap hPr)
        refine zcV [.int (xs (4 * it + 1)), .int (xs (4 * it + 2))] [.int r1] E (t_Mo_statement l D cs A2 q sc lc c gp mo V hI hJ (xs (4 * it + 1)) (xs (4 * it + 2))) d_Lw_law_302 w_361 w_362 w_363 w_2 w_364 ⟨rfl, by decide +kernel, by decide +kernel, (by decide +kernel : Option.map (fun d => d.parameters.length) (parseMethodDescriptor "(II)I") = some 2)⟩ ⟨(Nat.le_of_ble_eq_true rfl), (Nat.le_of_ble_eq_true rfl)⟩ ⟨by show 19 + (it + 1) + 0 ≤ 600000; omega, by show 49182 + 8 * (it + 1) + 0 ≤ 7302250; omega⟩ rfl (Nat.le_of_ble_eq_true rfl) hl.1 (zRW_rec hK hW2) hK hW2 hS hA2s (zki fun r2 H2 locs hq2 hz2 hk2 hS => ?_)
        refine W.widen (k := 19 + (it + 1)) (n := 49182 + 8 * (it + 1)) (by show 19 + (it + 1) + 0 ≤ _; omega) (by show 49182 + 8 * (it + 1) + 0 ≤ _; omega) ?_
        exact tle _ _ 305 51 (er1.trans hq2.1.symm) d_Lw_law_305 (by decide) sc lc c gp mo V _ _ hI hJ (zPr_swap (hback2 (fun A H => zRW D A q cs sc lc c gp mo V H) H2 zOk_R hz2 hk2 hq2.2)) hS
      · skip
        refine lv_tableIn (tgt := 310) (off := 278) hx hb d_Lw_law_32 (by decide) (by decide) (by decide) (by decide) ?_
        refine lv_aload_n hx hb d_Lw_law_310 rfl (lv_at hl 2 rfl) ?_
        refine lv_aload_n hx hb d_Lw_law_311 rfl (lv_at hl 3 rfl) ?_
        refine lv_iload_n hx hb d_Lw_law_312 rfl (lv_at hl 0 rfl) ?_
        refine lv_iconst (v := 1) hx hb d_Lw_law_313 (by decide) ?_
        refine lv_iadd hx hb d_Lw_law_314 ?_
        rw [ei1]
        refine va_sld hx hb hX hbl hbA hS (vp_in_nI (show 4 * it + 1 < L by omega) (by omega)) d_Lw_law_315 ?_
        rw [nI_clamp (show 4 * it + 1 < 2 ^ 31 by omega)]
        obtain ⟨Ac, Ar, hd1, hd2, hWc, hWr⟩ := id hPr
        obtain ⟨fa, fb, ad, bd, hfa, hfb, hwz⟩ := id hWc
        refine zcV [.int (xs (4 * it + 1))] [] E (t_BL_place l D cs Ac o sc lc fa fb ad bd c gp mo V hI.2.1 hfb (xs (4 * it + 1)) _ hwz) d_Lw_law_316 w_251 w_252 w_253 w_1 w_254 ⟨rfl, by decide +kernel, by decide +kernel, (by decide +kernel : Option.map (fun d => d.parameters.length) (parseMethodDescriptor "(I)I") = some 1)⟩ ⟨(Nat.le_of_ble_eq_true rfl), (Nat.le_of_ble_eq_true rfl)⟩ ⟨by show 19 + it + 0 ≤ 600000; omega, by show 49182 + 8 * it + 0 ≤ 7302250; omega⟩ rfl (Nat.le_of_ble_eq_true rfl) hl.1 (zCW_rec hK hWc) hK rfl hS (fun _ h => h.elim) (zki fun r1 H1 locs1 hq1 hz1 hk1 hS1 => ?_)
        refine W.widen (k := 19 + (it + 1)) (n := 49182 + 8 * (it + 1)) (by show 19 + it + 0 ≤ _; omega) (by show 49182 + 8 * it + 0 ≤ _; omega) ?_
        obtain ⟨e8, er1⟩ := hq1
        subst e8
        have hS := hS1
        refine lv_aload_n hx hb d_Lw_law_319 rfl (lv_at hl 1 rfl) ?_
        refine lv_aload_n hx hb d_Lw_law_320 rfl (lv_at hl 3 rfl) ?_
        refine lv_iload_n hx hb d_Lw_law_321 rfl (lv_at hl 0 rfl) ?_
        refine lv_iconst (v := 1) hx hb d_Lw_law_322 (by decide) ?_
        refine lv_iadd hx hb d_Lw_law_323 ?_
        rw [ei1]
        refine va_sld hx hb hX hbl hbA hS (vp_in_nI (show 4 * it + 1 < L by omega) (by omega)) d_Lw_law_324 ?_
        rw [nI_clamp (show 4 * it + 1 < 2 ^ 31 by omega)]
        obtain ⟨A2, hW2, hA2, hA2s, hback2⟩ := zPr_C (D := D) hS.1 zOk_R zOk_C (zPr_swap hPr)
        refine zcV [.int (xs (4 * it + 1))] [.int r1] E (t_Mo_place l D cs A2 q sc lc c gp mo V hI (xs (4 * it + 1))) d_Lw_law_325 w_365 w_366 w_367 w_2 w_368 ⟨rfl, by decide +kernel, by decide +kernel, (by decide +kernel : Option.map (fun d => d.parameters.length) (parseMethodDescriptor "(I)I") = some 1)⟩ ⟨(Nat.le_of_ble_eq_true rfl), (Nat.le_of_ble_eq_true rfl)⟩ ⟨by show 19 + (it + 1) + 0 ≤ 600000; omega, by show 49182 + 8 * (it + 1) + 0 ≤ 7302250; omega⟩ rfl (Nat.le_of_ble_eq_true rfl) hl.1 (zRW_rec hK hW2) hK hW2 hS hA2s (zki fun r2 H2 locs hq2 hz2 hk2 hS => ?_)
        refine W.widen (k := 19 + (it + 1)) (n := 49182 + 8 * (it + 1)) (by show 19 + (it + 1) + 0 ≤ _; omega) (by show 49182 + 8 * (it + 1) + 0 ≤ _; omega) ?_
        exact tle _ _ 328 28 (er1.trans hq2.1.symm) d_Lw_law_328 (by decide) sc lc c gp mo V _ _ hI hJ (zPr_swap (hback2 (fun A H => zRW D A q cs sc lc c gp mo V H) H2 zOk_R hz2 hk2 hq2.2)) hS
      · skip
        refine lv_tableIn (tgt := 333) (off := 301) hx hb d_Lw_law_32 (by decide) (by decide) (by decide) (by decide) ?_
        refine lv_aload_n hx hb d_Lw_law_333 rfl (lv_at hl 2 rfl) ?_
        refine lv_aload_n hx hb d_Lw_law_334 rfl (lv_at hl 3 rfl) ?_
        refine lv_iload_n hx hb d_Lw_law_335 rfl (lv_at hl 0 rfl) ?_
        refine lv_iconst (v := 1) hx hb d_Lw_law_336 (by decide) ?_
        refine lv_iadd hx hb d_Lw_law_337 ?_
        rw [ei1]
        refine va_sld hx hb hX hbl hbA hS (vp_in_nI (show 4 * it + 1 < L by omega) (by omega)) d_Lw_law_338 ?_
        rw [nI_clamp (show 4 * it + 1 < 2 ^ 31 by omega)]
        obtain ⟨Ac, Ar, hd1, hd2, hWc, hWr⟩ := id hPr
        obtain ⟨fa, fb, ad, bd, hfa, hfb, hwz⟩ := id hWc
        refine zcV [.int (xs (4 * it + 1))] [] E (t_BL_size l D cs Ac o sc lc fa fb ad bd c gp mo V (xs (4 * it + 1)) _ hwz) d_Lw_law_339 w_255 w_256 w_257 w_1 w_258 ⟨rfl, by decide +kernel, by decide +kernel, (by decide +kernel : Option.map (fun d => d.parameters.length) (parseMethodDescriptor "(I)I") = some 1)⟩ ⟨(Nat.le_of_ble_eq_true rfl), (Nat.le_of_ble_eq_true rfl)⟩ ⟨by show 19 + it + 0 ≤ 600000; omega, by show 49182 + 8 * it + 0 ≤ 7302250; omega⟩ rfl (Nat.le_of_ble_eq_true rfl) hl.1 (zCW_rec hK hWc) hK rfl hS (fun _ h => h.elim) (zki fun r1 H1 locs1 hq1 hz1 hk1 hS1 => ?_)
        refine W.widen (k := 19 + (it + 1)) (n := 49182 + 8 * (it + 1)) (by show 19 + it + 0 ≤ _; omega) (by show 49182 + 8 * it + 0 ≤ _; omega) ?_
        obtain ⟨e8, er1⟩ := hq1
        subst e8
        have hS := hS1
        refine lv_aload_n hx hb d_Lw_law_342 rfl (lv_at hl 1 rfl) ?_
        refine lv_aload_n hx hb d_Lw_law_343 rfl (lv_at hl 3 rfl) ?_
        refine lv_iload_n hx hb d_Lw_law_344 rfl (lv_at hl 0 rfl) ?_
        refine lv_iconst (v := 1) hx hb d_Lw_law_345 (by decide) ?_
        refine lv_iadd hx hb d_Lw_law_346 ?_
        rw [ei1]
        refine va_sld hx hb hX hbl hbA hS (vp_in_nI (show 4 * it + 1 < L by omega) (by omega)) d_Lw_law_347 ?_
        rw [nI_clamp (show 4 * it + 1 < 2 ^ 31 by omega)]
        obtain ⟨A2, hW2, hA2, hA2s, hback2⟩ := zPr_C (D := D) hS.1 zOk_R zOk_C (zPr_swap hPr)
        refine zcV [.int (xs (4 * it + 1))] [.int r1] E (t_Mo_size l D cs A2 q sc lc c gp mo V hI (xs (4 * it + 1))) d_Lw_law_348 w_369 w_370 w_371 w_2 w_372 ⟨rfl, by decide +kernel, by decide +kernel, (by decide +kernel : Option.map (fun d => d.parameters.length) (parseMethodDescriptor "(I)I") = some 1)⟩ ⟨(Nat.le_of_ble_eq_true rfl), (Nat.le_of_ble_eq_true rfl)⟩ ⟨by show 19 + (it + 1) + 0 ≤ 600000; omega, by show 49182 + 8 * (it + 1) + 0 ≤ 7302250; omega⟩ rfl (Nat.le_of_ble_eq_true rfl) hl.1 (zRW_rec hK hW2) hK hW2 hS hA2s (zki fun r2 H2 locs hq2 hz2 hk2 hS => ?_)
        refine W.widen (k := 19 + (it + 1)) (n := 49182 + 8 * (it + 1)) (by show 19 + (it + 1) + 0 ≤ _; omega) (by show 49182 + 8 * (it + 1) + 0 ≤ _; omega) ?_
        exact tle _ _ 351 5 (er1.trans hq2.1.symm) d_Lw_law_351 (by decide) sc lc c gp mo V _ _ hI hJ (zPr_swap (hback2 (fun A H => zRW D A q cs sc lc c gp mo V H) H2 zOk_R hz2 hk2 hq2.2)) hS
      · skip
        refine lv_tableOut (tgt := 356) hx hb d_Lw_law_32 (Or.inr (by rw [nI_toInt (by omega)]; omega)) (by decide) ?_
        refine W.widen (k := 19 + (it + 1)) (n := 49182 + 8 * (it + 1)) (by omega) (by omega) ?_
        exact tl sc lc c gp mo V _ _ hI hJ hPr hS
end
section
theorem zPr_split {D : va_G} {s : State} {H : Heap} {ws : va_W} {b : Nat} {e : va_E} {Wc : (Nat → Prop) → Heap → Prop} (h : zH D (fun x : Nat => s.heap.size ≤ x) (ws ++ [(b, e)]) H) (back : ∀ A2 H2, zH D A2 ws H2 → Wc A2 H2) : zPr s Wc (fun A H => zH D A [(b, e)] H) H := by
  have hpre : ∀ (k : Nat) (q : Nat × va_E), ws[k]? = some q → (ws ++ [(b, e)])[k]? = some q := fun k q hk => by
    rw [List.getElem?_append_left (List.getElem?_eq_some_iff.mp hk).1]
    exact hk
  have hlast : (ws ++ [(b, e)])[ws.length]? = some (b, e) := by rw [List.getElem?_append_right (Nat.le_refl _), Nat.sub_self]; rfl
  refine ⟨fun x => ∃ (k : Nat) (e : va_E), ws[k]? = some (x, e), fun x => x = b, fun x hx hb => ?_, fun x hx => ?_, ?_, zat h hlast⟩
  · obtain ⟨k, e2, hk⟩ := hx
    have h1 := h.2.1 k ws.length _ _ (hpre k _ hk) hlast hb
    have h2 := (List.getElem?_eq_some_iff.mp hk).1
    omega
  · rcases hx with ⟨k, e2, hk⟩ | rfl
    · exact ⟨h.2.2 k _ (hpre k _ hk), (h.1 k _ (hpre k _ hk)).lt⟩
    · exact ⟨h.2.2 _ _ hlast, (h.1 _ _ hlast).lt⟩
  · exact back _ _ ⟨fun k q hk => h.1 k q (hpre k q hk), fun i j p q hi hj => h.2.1 i j p q (hpre i p hi) (hpre j q hj), fun k q hk => ⟨k, q.2, hk⟩⟩
theorem zOk_T {D : va_G} : zOk D (fun _ _ => True) := fun A H _ => ⟨[], ⟨fun k q h => by simp at h, fun i j p q h => by simp at h, fun k q h => by simp at h⟩, fun _ _ _ => trivial⟩
theorem zOk_1 {D : va_G} {ws : va_W} : zOk D (fun A H => zH D A ws H) := fun A H h => ⟨ws, h, fun _ _ h2 => h2⟩
set_option maxHeartbeats 4000000 in
set_option maxRecDepth 100000 in
/-- the tables' facts at the law's entry -/
theorem law_known {s : State} {b : Nat} (hts0 : ∀ w ∈ lw_tbl, w.before #[Value.ref b] s = true) (hgv : (Jvm.Cond.and given_1 narrow_1).before #[Value.ref b] s = true) : ∃ (D : va_G) (cs : ClassId × ClassId × ClassId × ClassId), zK D cs s := by
  have hts : ∀ w ∈ zt, w.before #[Value.ref b] s = true := fun w h => hts0 w (zt_of h)
  have hs := flat_of_before _ hgv
  obtain ⟨c0, iS0, hKn0⟩ := u_known (C := "BranchLayout$Alignment") (T := T_Al) (N := 4) (n := 4) hts in_Al (hts _ w_115)
  obtain ⟨c1, iS1, hKn1⟩ := u_known (C := "BranchLayout$Branch") (T := T_Br) (N := 8) (n := 8) hts in_Br (hts _ w_132)
  obtain ⟨c2, iS2, hKn2⟩ := u_known (C := "BranchLayout$Bytes") (T := T_By) (N := 4) (n := 4) hts in_By (hts _ w_56)
  obtain ⟨c3, iS3, hKn3⟩ := u_known (C := "BranchLayout$Label") (T := T_La) (N := 3) (n := 3) hts in_La (hts _ w_163)
  obtain ⟨c4, iS4, hKn4⟩ := u_known (C := "BranchLayout") (T := T_BL) (N := 5) (n := 5) hts in_BL (hts _ w_12)
  obtain ⟨c5, iS5, hKn5⟩ := u_known (C := "BranchLayoutModel") (T := T_Mo) (N := 17) (n := 17) hts in_Mo (hts _ w_260)
  obtain ⟨cI, kI, compI, hI1, hI2, hI3⟩ := Cond.arrayClass_spec (hts _ w_39)
  obtain ⟨cZ, kZ, compZ, hZ1, hZ2, hZ3⟩ := Cond.arrayClass_spec (hts _ w_317)
  obtain ⟨compS, cS, kS, hS1, -, hS2, hS3, hS4⟩ := Cond.arrayOver_spec (hts0 _ w_20)
  obtain ⟨compL, cL, kL, hL1, -, hL2, hL3, hL4⟩ := Cond.arrayOver_spec (hts0 _ w_22)
  refine ⟨(fun k => if k = 0 then c0 else if k = 1 then c1 else if k = 2 then c2 else if k = 3 then c3 else if k = 4 then c4 else c5, fun k => if k = 0 then iS0 else if k = 1 then iS1 else if k = 2 then iS2 else if k = 3 then iS3 else if k = 4 then iS4 else iS5), (cI, cZ, cS, cL), ⟨?_, ?_⟩, ?_⟩
  · intro k q hq
    match k, hq with
    | 0, hq => cases hq; exact hKn0
    | 1, hq => cases hq; exact hKn1
    | 2, hq => cases hq; exact hKn2
    | 3, hq => cases hq; exact hKn3
    | 4, hq => cases hq; exact hKn4
    | 5, hq => cases hq; exact hKn5
    | k + 6, hq => simp [zcl] at hq
  · intro k q hq
    match k, hq with
    | 0, hq => cases hq; exact ⟨fun n z => ⟨fun k h => (by cases h), kI, hI2, compI, hI3⟩, hI1⟩
    | 1, hq => cases hq; exact ⟨fun n z => ⟨fun k h => (by cases h), kZ, hZ2, compZ, hZ3⟩, hZ1⟩
    | 2, hq => cases hq; exact ⟨fun n z => ⟨fun k h => (by cases h), kS, hS2, compS, hS3⟩, kS, compS, hS2, hS3, hS1, hS4⟩
    | 3, hq => cases hq; exact ⟨fun n z => ⟨fun k h => (by cases h), kL, hL2, compL, hL3⟩, kL, compL, hL2, hL3, hL1, hL4⟩
    | k + 4, hq => simp [zty] at hq
  · exact ⟨va_Nw.of rfl (hts0 _ w_139), va_Nw.of rfl (hts0 _ w_141), va_Nw.of rfl (hts0 _ w_143), va_Nw.of rfl (hts0 _ w_212), va_Nw.of rfl (hts0 _ w_373), va_Nw.of rfl (hts0 _ w_374), va_Nw.of rfl (hts0 _ w_375), va_Nw.of rfl (hts0 _ w_376), va_AO.of (hts0 _ w_20), va_AO.of (hts0 _ w_22), va_Nc.of (hs (.not (.castable "BranchLayout$Alignment" "BranchLayout$Branch")) (by decide +kernel)), va_Nc.of (hs (.not (.castable "BranchLayout$Bytes" "BranchLayout$Branch")) (by decide +kernel))⟩
set_option maxHeartbeats 4000000 in
set_option maxRecDepth 100000 in
/-- THE LAW, from its entry -/
theorem whole_start {p : Program} {e : Env} {s : State} {m : MethodId} {below : List Frame} {meth : Method} {c : Code} (l : Launch) {b L : Nat} {xs : Nat → Int32} (hL : L ≤ 2048) (C0 : lw_At p s m meth c b L xs) : W p l e room_1 s m #[Value.ref b] below meth c s.heap [] 0 0 (lw_Z below #[Value.ref b] s) (entryFrame m ([Value.ref b] : List Value).toArray 4) := by
  obtain ⟨hx, hb, hr, hml, hown, hts0, hX, hbl, hlocks, hgv⟩ := id C0
  have hts : ∀ w ∈ zt, w.before #[Value.ref b] s = true := fun w h => hts0 w (zt_of h)
  have E : zE p s m meth c #[Value.ref b] "BranchLayoutLaw" meth.name c_Lw_law 4 ret := ⟨hx, hb, hr, hts, hown, hlocks, hml, rfl⟩
  obtain ⟨D, cs, hK⟩ := law_known hts0 hgv
  have hA : ∀ q : Nat, s.heap.size ≤ q → (fun q : Nat => s.heap.size ≤ q) q := fun _ h => h
  have hS : va_S (fun q : Nat => s.heap.size ≤ q) s.heap s.heap [] := va_S.rf
  have hP : va_P D zcl [] s.heap := fun k q h => by simp at h
  have hD : va_D (fun q : Nat => s.heap.size ≤ q) [] := ⟨fun i j p q h => by simp at h, fun k q h => by simp at h⟩
  have hl := lv_entry ([.ref b]) (n := 4) (Nat.le_of_ble_eq_true rfl)
  rw [lg_entry_eq]
  generalize (lg_sl ([.ref b]) ++ List.replicate (4 - (lg_sl ([.ref b])).length) Slot.unset).toArray = ls at hl ⊢
  have hl : lv_has ls 4 [(0, .ref b)] := hl
  refine va_new (ws := []) (ci := 4) (fs := [.null, .null, .null, .int 0, .int 0]) (C := "BranchLayout") (T := T_BL) (N := 5) hx hb hts in_BL ty_BL ok_BL hown (hts _ w_11) (hts _ w_12) (hts _ w_1) hK.1 hP hD hS hA rfl (fun j hj => by rcases (show j = 0 ∨ j = 1 ∨ j = 2 ∨ j = 3 ∨ j = 4 by omega) with rfl | rfl | rfl | rfl | rfl <;> rfl) (by show 0 + 1 ≤ 600000; omega) (by show 0 + 5 ≤ 7302250; omega) d_Lw_law_0 (fun q1 H hP hD hS => ?_)
  refine W.widen (k := 1) (n := 5) (by omega) (by omega) ?_
  have hPr0 := zPr_split (Wc := fun _ _ => True) ⟨hP, hD⟩ (fun _ _ _ => trivial)
  obtain ⟨A1, hW1, hA1, hA1s, hback⟩ := zPr_C (D := D) hS.1 zOk_1 zOk_T (zPr_swap hPr0)
  refine lv_dup hx hb d_Lw_law_3 rfl ?_
  refine zcI [] [.ref q1] E (t_BL_init l D cs A1 q1) d_Lw_law_4 w_13 w_14 w_1 w_15 rfl ⟨by decide +kernel, by decide +kernel, (by decide +kernel : Option.map (fun d => d.parameters.length) (parseMethodDescriptor "()V") = some 0)⟩ ⟨(Nat.le_of_ble_eq_true rfl), (Nat.le_of_ble_eq_true rfl)⟩ ⟨by show 1 + 3 ≤ 600000; omega, by show 5 + 5124 ≤ 7302250; omega⟩ rfl (Nat.le_of_ble_eq_true rfl) hl.1 hK ⟨hW1, hA1⟩ hS hA1s (zkv fun H1 locs hq1 hz1 hk1 hS => ?_)
  refine W.widen (k := 4) (n := 5129) (by show 1 + 3 ≤ _; omega) (by show 5 + 5124 ≤ _; omega) ?_
  obtain ⟨o, rfl, hw1⟩ := hq1
  have hPr1 := hback (fun A H => zCW D A o cs 0 0 (fun _ _ => 0) (fun _ => 0) (fun _ => 0) (fun _ _ => 0) H) H1 zOk_C hz1 hk1 hw1
  refine lv_astore_n (lv' := [(1, .ref o.1), (0, .ref b)]) hx hb d_Lw_law_7 rfl hl (by decide) rfl (fun ls hl => ?_)
  obtain ⟨Ac, Ar, hd1, hd2, hWc, -⟩ := hPr1
  obtain ⟨ws, hz, back⟩ := zOk_C Ac H1 hWc
  have hP := hz.1
  have hD : va_D (fun q : Nat => s.heap.size ≤ q) ws := hz.2.weaken (fun _ q _ h => (hd2 q.1 (Or.inl h)).1)
  refine va_new (ws := ws) (ci := 5) (fs := [.int 0, .int 0, .int 0, .null, .null, .null, .null, .null, .null, .null, .null, .null, .null, .null, .null, .null, .null]) (C := "BranchLayoutModel") (T := T_Mo) (N := 17) hx hb hts in_Mo ty_Mo ok_Mo hown (hts _ w_259) (hts _ w_260) (hts _ w_2) hK.1 hP hD hS hA rfl (fun j hj => by rcases (show j = 0 ∨ j = 1 ∨ j = 2 ∨ j = 3 ∨ j = 4 ∨ j = 5 ∨ j = 6 ∨ j = 7 ∨ j = 8 ∨ j = 9 ∨ j = 10 ∨ j = 11 ∨ j = 12 ∨ j = 13 ∨ j = 14 ∨ j = 15 ∨ j = 16 by omega) with rfl | rfl | rfl | rfl | rfl | rfl | rfl | rfl | rfl | rfl | rfl | rfl | rfl | rfl | rfl | rfl | rfl <;> rfl) (by show 4 + 1 ≤ 600000; omega) (by show 5129 + 17 ≤ 7302250; omega) d_Lw_law_8 (fun q2 H hP hD hS => ?_)
  refine W.widen (k := 5) (n := 5146) (by show 4 + 1 ≤ _; omega) (by show 5129 + 17 ≤ _; omega) ?_
  have hPr2 := zPr_split (Wc := fun A H => zCW D A o cs 0 0 (fun _ _ => 0) (fun _ => 0) (fun _ => 0) (fun _ _ => 0) H) ⟨hP, hD⟩ back
  obtain ⟨A2, hW2, hA2, hA2s, hback2⟩ := zPr_C (D := D) hS.1 zOk_1 zOk_C (zPr_swap hPr2)
  refine lv_dup hx hb d_Lw_law_11 rfl ?_
  refine zcI [] [.ref q2] E (t_Mo_init l D cs A2 q2) d_Lw_law_12 w_261 w_262 w_2 w_263 rfl ⟨by decide +kernel, by decide +kernel, (by decide +kernel : Option.map (fun d => d.parameters.length) (parseMethodDescriptor "()V") = some 0)⟩ ⟨(Nat.le_of_ble_eq_true rfl), (Nat.le_of_ble_eq_true rfl)⟩ ⟨by show 5 + 14 ≤ 600000; omega, by show 5146 + 44036 ≤ 7302250; omega⟩ rfl (Nat.le_of_ble_eq_true rfl) hl.1 hK ⟨hW2, hA2⟩ hS hA2s (zkv fun H2 locs hq2 hz2 hk2 hS => ?_)
  refine W.widen (k := 19) (n := 49182) (by show 5 + 14 ≤ _; omega) (by show 5146 + 44036 ≤ _; omega) ?_
  obtain ⟨q, rfl, hw2⟩ := hq2
  have hPr3 := zPr_swap (hback2 (fun A H => zRW D A q cs 0 0 (fun _ _ => 0) (fun _ => 0) (fun _ => 0) (fun _ _ => 0) H) H2 zOk_R hz2 hk2 hw2)
  refine lv_astore_n (lv' := [(2, .ref (q 0)), (1, .ref o.1), (0, .ref b)]) hx hb d_Lw_law_15 rfl hl (by decide) rfl (fun ls hl => ?_)
  refine lv_iconst (v := 0) hx hb d_Lw_law_16 (by decide) ?_
  refine lv_istore_n (lv' := [(3, .int 0), (2, .ref (q 0)), (1, .ref o.1), (0, .ref b)]) hx hb d_Lw_law_17 rfl hl (by decide) rfl (fun ls hl => ?_)
  refine W.widen (k := 19 + 0) (n := 49182 + 8 * 0) (by omega) (by omega) ?_
  exact law_loop o q hL C0 hK 513 0 0 0 _ _ _ _ _ _ ls (by omega) (by omega) zI_clear zJ_clear hPr3 hS (by show lv_has ls 4 [(3, .int (nI 0)), (2, .ref (q 0)), (1, .ref o.1), (0, .ref b)]; rw [nI_0]; exact lv_sub hl [0, 1, 2, 3] rfl)
end
section
set_option maxHeartbeats 4000000 in
theorem lw_walk (l : Launch) (b : Addr) (xs : List Int32) : MetFree l x (headSpec (Jvm.Cond.code x code maxLocals ret :: tables_1) room_1) (lw_P b xs) (fun _ _ _ _ _ => True) lw_Q := by
  refine MetFree.of_bodyS (code := code) (maxLocals := maxLocals) (ret := ret) (by decide) ?_ ?_
  · intro args s m h hn
    obtain ⟨meth, c, h1, h2, h3, h4, h5, h6, -, -⟩ := Cond.code_spec hn (atoms_spec (ws := Jvm.Cond.code x code maxLocals ret :: tables_1) h _ List.mem_cons_self)
    exact ⟨meth, c, h1, h2, h3, h4, h5, h6⟩
  · intro p e s m args below meth c s₁ B hml0 hP _
    obtain ⟨rfl, hx, hbd, hgv⟩ := hP
    obtain ⟨scr, harrAt, hlist, hof, hsmall⟩ := hx
    obtain ⟨hcb, hkn, -, -⟩ := State.arrayAt?_spec harrAt
    have hown : s.vm.findClass R_law = some m.cls := findClass_of_methodNamed B.named
    have hts0 : ∀ c ∈ (Jvm.Cond.code x code maxLocals ret :: tables_1), c.before #[Value.ref b] s = true := atoms_spec (ws := Jvm.Cond.code x code maxLocals ret :: tables_1) B.pre
    have hts : ∀ w ∈ lw_tbl, w.before #[Value.ref b] s = true := k2_hts_sels lw_privs (fun w hw => hts0 w (List.mem_cons_of_mem _ hw)) lw_privs_ok
    have hml : c.maxLocals = 4 := B.maxLocals_eq (hts0 _ List.mem_cons_self)
    have X₀ : Stand p l e room_1 s m #[Value.ref b] below meth c s₁ [] 0 0 := Stand.of_body B
    have hh0 : s₁.heap = s.heap := by rw [B.state]; rfl
    have hsz : scr.slots.size = xs.length := by rw [← Array.length_toList, hlist, List.length_map]
    have hval : ∀ j : Nat, j < xs.length → scr.slots[j]? = some (.int (xs.getD j 0)) := fun j hj => by
      rw [← Array.getElem?_toList, hlist]
      simp [hj]
    have hbl : b < s.heap.size := (Array.getElem?_eq_some_iff.mp hcb).1
    have hX : va_X b xs.length (fun j => xs.getD j 0) s s.heap := ⟨scr, hcb, hof, hkn, hsz, hval⟩
    have K : W p l e room_1 s m #[Value.ref b] below meth c s₁.heap [] 0 0 (lw_Z below #[Value.ref b] s) (entryFrame m ([Value.ref b] : List Value).toArray 4) := by
      rw [hh0]
      exact whole_start l hbd ⟨B.exec, B.bytes, B.returns, hml, hown, hts, hX, hbl, B.notSynchronized, hgv⟩
    obtain ⟨t, a1, o, b1, b2, b3⟩ := K s₁ rfl X₀
    exact ⟨t, o, a1, b1, b2, b3⟩
theorem lw_pre_spec {args : Array Value} {s : State} (h : (Jvm.Cond.and given_1 narrow_1).before args s = true) (hr : rest_1_c.before args s = true) : ∃ (b : Addr) (xs : List Int32), lw_P b xs args s := by
  have hs := flat_of_before _ h
  have hq := flat_of_before _ hr
  have hc : (Cond.count 1).before args s = true := hs _ (by decide +kernel)
  have harr : (Cond.arrayOf (.arg 0) .int).before args s = true := hs _ (by decide +kernel)
  have hle : (Cond.le (.length (.arg 0)) (.int 2048)).before args s = true := hs _ (by decide +kernel)
  have hlen : (Cond.isInt (.length (.arg 0))).before args s = true := hq _ (by decide +kernel)
  have hall : (Cond.all (.arg 0) (.isInt (.elem (.arg 0) (.index 0)))).before args s = true := hq _ (by decide +kernel)
  obtain ⟨b, xs, hb, hx⟩ := State.ints_of_pre rfl harr hlen hall
  have hsm : xs.length < 2 ^ 31 := hx.choose_spec.2.2.2
  have hev : (Term.length (.arg 0)).eval args s none [] s = some (.int xs.length.toInt32) := hx.length_eval hb
  have hv := Cond.le_ints hev (show (Term.int 2048).eval args s none [] s = some (.int 2048) from rfl)
  have hd : xs.length.toInt32 ≤ 2048 := by
    simpa [Cond.before, Cond.holds, hv] using hle
  have hN : xs.length ≤ 2048 := (Int32.ofNat_le_ofNat hsm (by decide)).mp (show Int32.ofNat xs.length ≤ Int32.ofNat 2048 from hd)
  exact ⟨b, xs, Cond.one_arg hc (show args[0]? = some (.ref b) from hb), hx, hN, h⟩
theorem lw_comes (l : Launch) : Comes l x (Jvm.Cond.code x code maxLocals ret :: tables_1) room_1 (fun tb e args s => Calls_1 tb e args s ∧ rest_1 tb e args s ∧ Pre_1 tb e args s)
    (fun _ _ args s o t => lw_Q args s o t) := by
  intro p e ha hc hk s m args below hf hfit hheap happ hpre
  obtain ⟨b, xs, hP⟩ := lw_pre_spec hpre.2.2 hpre.2.1
  obtain ⟨k, o, h1, h2, h3, hQ⟩ := lw_walk l b xs p e ha hc hk s m args below hf ((Spec.applies_iff_loose hf).mp happ).1 hP trivial
  exact ⟨k, o, h1, h2, h3, hQ⟩
theorem lw_frame {s t : State} {o : Outcome} {args : Array Value} (h : Framed s o t [] 600000 7302250) :
    Framed s o t (fieldLocs frame_1_writes args s ++ arrayLocs frame_1_arrays args s ++ staticLocs frame_1_statics s) 600000 7302250 := h
theorem lw_limb (L : Cond) (hL : ∀ (args : Array Value) (s t : State), L.after args s (.returned (some (.int 1))) t = true) :
    ArmFor flags0 classFile x code maxLocals ret World_1 tables_1 room_1 Calls_1 rest_1 Pre_1
      (fun tb e a s o t => postC L tb e a s o t ∧ Framed s o t (fieldLocs frame_1_writes a s ++ arrayLocs frame_1_arrays a s ++ staticLocs frame_1_statics s) 600000 7302250) := by
  intro l _ _ _ p e ha hc hk s m args below hf hfit hheap happ hpre
  obtain ⟨k, o, h1, h2, h3, rfl, hF⟩ := lw_comes l p e ha hc hk s m args below hf hfit hheap happ hpre
  exact ⟨k, _, h1, h2, h3, hL args s _, lw_frame hF⟩
theorem i_vc : Claimed_1_1 ∧ Claimed_1_2 := ⟨lw_limb limb_1_1 (fun args s t => by simp [limb_1_1, Cond.after, Cond.holds, Cond.value]), lw_limb limb_1_2 (fun args s t => Cond.after_iff.mpr (by
  first | (rw [show limb_1_2 = Cond.eq .result (.int 1) from rfl, Cond.eq_ints (x := 1) (y := 1) rfl rfl]; simp; done) | (simp [limb_1_2, Cond.value, Term.eval]; done)))⟩
end
