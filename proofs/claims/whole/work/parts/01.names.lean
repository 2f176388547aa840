-- ===== PART A: goes FIRST, ahead of the names: the tables' words, and 'selects' of the private methods out of them =====
/-- a private method of a class that the tables say can be made, by its rows of tables_1 -/
def lw_okq (q : MethodName × Nat) : Prop := (q.1.cls ≠ "java/lang/invoke/MethodHandle" ∧ q.1.cls ≠ "java/lang/invoke/VarHandle") ∧ Cond.instantiable q.1.cls q.2 ∈ tables_1 ∧ Cond.privateMethod q.1 ∈ tables_1 ∧ Cond.instanceMethod q.1 ∈ tables_1
theorem lw_p0 : lw_okq (⟨"BranchLayout", "addStatement", "(LBranchLayout$Statement;)I"⟩, 5) := ⟨⟨by decide +kernel, by decide +kernel⟩, List.mem_of_getElem? (i := 12) (by decide +kernel), List.mem_of_getElem? (i := 98) (by decide +kernel), List.mem_of_getElem? (i := 99) (by decide +kernel)⟩
theorem lw_p1 : lw_okq (⟨"BranchLayout", "statementNumbered", "(I)LBranchLayout$Statement;"⟩, 5) := ⟨⟨by decide +kernel, by decide +kernel⟩, List.mem_of_getElem? (i := 12) (by decide +kernel), List.mem_of_getElem? (i := 180) (by decide +kernel), List.mem_of_getElem? (i := 181) (by decide +kernel)⟩
theorem lw_p2 : lw_okq (⟨"BranchLayout", "placeNamed", "(I)LBranchLayout$Place;"⟩, 5) := ⟨⟨by decide +kernel, by decide +kernel⟩, List.mem_of_getElem? (i := 12) (by decide +kernel), List.mem_of_getElem? (i := 184) (by decide +kernel), List.mem_of_getElem? (i := 185) (by decide +kernel)⟩
theorem lw_p3 : lw_okq (⟨"BranchLayout", "labelNumbered", "(I)LBranchLayout$Label;"⟩, 5) := ⟨⟨by decide +kernel, by decide +kernel⟩, List.mem_of_getElem? (i := 12) (by decide +kernel), List.mem_of_getElem? (i := 188) (by decide +kernel), List.mem_of_getElem? (i := 189) (by decide +kernel)⟩
theorem lw_p4 : lw_okq (⟨"BranchLayout", "shortenAllThatGo", "()V"⟩, 5) := ⟨⟨by decide +kernel, by decide +kernel⟩, List.mem_of_getElem? (i := 12) (by decide +kernel), List.mem_of_getElem? (i := 196) (by decide +kernel), List.mem_of_getElem? (i := 197) (by decide +kernel)⟩
theorem lw_p5 : lw_okq (⟨"BranchLayout", "tellPlaces", "()V"⟩, 5) := ⟨⟨by decide +kernel, by decide +kernel⟩, List.mem_of_getElem? (i := 12) (by decide +kernel), List.mem_of_getElem? (i := 200) (by decide +kernel), List.mem_of_getElem? (i := 201) (by decide +kernel)⟩
theorem lw_p6 : lw_okq (⟨"BranchLayout", "tellLabelsBefore", "(II)I"⟩, 5) := ⟨⟨by decide +kernel, by decide +kernel⟩, List.mem_of_getElem? (i := 12) (by decide +kernel), List.mem_of_getElem? (i := 204) (by decide +kernel), List.mem_of_getElem? (i := 205) (by decide +kernel)⟩
theorem lw_p7 : lw_okq (⟨"BranchLayout", "tellStatement", "(LBranchLayout$Statement;)V"⟩, 5) := ⟨⟨by decide +kernel, by decide +kernel⟩, List.mem_of_getElem? (i := 12) (by decide +kernel), List.mem_of_getElem? (i := 208) (by decide +kernel), List.mem_of_getElem? (i := 209) (by decide +kernel)⟩
theorem lw_p8 : lw_okq (⟨"BranchLayout", "lengthenAllTooFar", "()Z"⟩, 5) := ⟨⟨by decide +kernel, by decide +kernel⟩, List.mem_of_getElem? (i := 12) (by decide +kernel), List.mem_of_getElem? (i := 224) (by decide +kernel), List.mem_of_getElem? (i := 225) (by decide +kernel)⟩
theorem lw_p9 : lw_okq (⟨"BranchLayout", "countLong", "()I"⟩, 5) := ⟨⟨by decide +kernel, by decide +kernel⟩, List.mem_of_getElem? (i := 12) (by decide +kernel), List.mem_of_getElem? (i := 234) (by decide +kernel), List.mem_of_getElem? (i := 235) (by decide +kernel)⟩
theorem lw_p10 : lw_okq (⟨"BranchLayoutModel", "add", "(IIIZ)I"⟩, 17) := ⟨⟨by decide +kernel, by decide +kernel⟩, List.mem_of_getElem? (i := 260) (by decide +kernel), List.mem_of_getElem? (i := 328) (by decide +kernel), List.mem_of_getElem? (i := 329) (by decide +kernel)⟩
theorem lw_p11 : lw_okq (⟨"BranchLayoutModel", "walk", "(I)V"⟩, 17) := ⟨⟨by decide +kernel, by decide +kernel⟩, List.mem_of_getElem? (i := 260) (by decide +kernel), List.mem_of_getElem? (i := 352) (by decide +kernel), List.mem_of_getElem? (i := 353) (by decide +kernel)⟩
theorem lw_p12 : lw_okq (⟨"BranchLayoutModel", "distance", "(I)J"⟩, 17) := ⟨⟨by decide +kernel, by decide +kernel⟩, List.mem_of_getElem? (i := 260) (by decide +kernel), List.mem_of_getElem? (i := 356) (by decide +kernel), List.mem_of_getElem? (i := 357) (by decide +kernel)⟩
def lw_privs_1 : List (MethodName × Nat) := [(⟨"BranchLayout", "addStatement", "(LBranchLayout$Statement;)I"⟩, 5), (⟨"BranchLayout", "statementNumbered", "(I)LBranchLayout$Statement;"⟩, 5), (⟨"BranchLayout", "placeNamed", "(I)LBranchLayout$Place;"⟩, 5), (⟨"BranchLayout", "labelNumbered", "(I)LBranchLayout$Label;"⟩, 5), (⟨"BranchLayout", "shortenAllThatGo", "()V"⟩, 5), (⟨"BranchLayout", "tellPlaces", "()V"⟩, 5), (⟨"BranchLayout", "tellLabelsBefore", "(II)I"⟩, 5), (⟨"BranchLayout", "tellStatement", "(LBranchLayout$Statement;)V"⟩, 5), (⟨"BranchLayout", "lengthenAllTooFar", "()Z"⟩, 5), (⟨"BranchLayout", "countLong", "()I"⟩, 5), (⟨"BranchLayoutModel", "add", "(IIIZ)I"⟩, 17), (⟨"BranchLayoutModel", "walk", "(I)V"⟩, 17), (⟨"BranchLayoutModel", "distance", "(I)J"⟩, 17)]
theorem lw_r1 : ∀ q ∈ lw_privs_1, lw_okq q := List.forall_mem_cons.mpr ⟨lw_p0, List.forall_mem_cons.mpr ⟨lw_p1, List.forall_mem_cons.mpr ⟨lw_p2, List.forall_mem_cons.mpr ⟨lw_p3, List.forall_mem_cons.mpr ⟨lw_p4, List.forall_mem_cons.mpr ⟨lw_p5, List.forall_mem_cons.mpr ⟨lw_p6, List.forall_mem_cons.mpr ⟨lw_p7, List.forall_mem_cons.mpr ⟨lw_p8, List.forall_mem_cons.mpr ⟨lw_p9, List.forall_mem_cons.mpr ⟨lw_p10, List.forall_mem_cons.mpr ⟨lw_p11, List.forall_mem_cons.mpr ⟨lw_p12, fun _ h => absurd h List.not_mem_nil⟩⟩⟩⟩⟩⟩⟩⟩⟩⟩⟩⟩⟩
def lw_privs : List (MethodName × Nat) := lw_privs_1
def lw_tbl : List Cond := k2_sels lw_privs ++ tables_1
theorem lw_privs_ok : ∀ q ∈ lw_privs, lw_okq q := lw_r1
-- ===== end of PART A =====
def zt : List Cond := lw_tbl.filter goodWord
theorem zt_good : ∀ w ∈ zt, goodWord w = true := fun w h => (List.mem_filter.mp h).2
theorem zt_in {w : Cond} (h : w ∈ lw_tbl) (hg : goodWord w = true) : w ∈ zt := List.mem_filter.mpr ⟨h, hg⟩
theorem zt_of {w : Cond} (h : w ∈ zt) : w ∈ lw_tbl := (List.mem_filter.mp h).1
theorem zt_all {ws : List Cond} (h : ∀ w ∈ ws, w ∈ zt) : GoodIn zt ws := fun w hw => ⟨h w hw, good_of_word (zt_good w (h w hw))⟩
abbrev c_BL_init : ByteArray := prog_1_method_1_code
abbrev y_BL_init : MethodName := ⟨"BranchLayout", "<init>", "()V"⟩
abbrev c_Ob_init : ByteArray := object_method_1_code
abbrev y_Ob_init : MethodName := ⟨"java/lang/Object", "<init>", "()V"⟩
abbrev c_BL_clear : ByteArray := prog_1_method_2_code
abbrev y_BL_clear : MethodName := ⟨"BranchLayout", "clear", "()V"⟩
abbrev c_Ar_fill : ByteArray := prog_11_method_103_code
abbrev y_Ar_fill : MethodName := ⟨"java/util/Arrays", "fill", "([II)V"⟩
abbrev c_BL_bytes : ByteArray := prog_1_method_3_code
abbrev y_BL_bytes : MethodName := ⟨"BranchLayout", "bytes", "(II)I"⟩
abbrev c_BL_isSection : ByteArray := prog_1_method_12_code
abbrev y_BL_isSection : MethodName := ⟨"BranchLayout", "isSection", "(I)Z"⟩
abbrev c_By_init : ByteArray := prog_4_method_1_code
abbrev y_By_init : MethodName := ⟨"BranchLayout$Bytes", "<init>", "(II)V"⟩
abbrev c_St_init : ByteArray := prog_7_method_1_code
abbrev y_St_init : MethodName := ⟨"BranchLayout$Statement", "<init>", "(I)V"⟩
abbrev c_Pl_init : ByteArray := prog_6_method_1_code
abbrev y_Pl_init : MethodName := ⟨"BranchLayout$Place", "<init>", "(I)V"⟩
abbrev c_BL_addStatement : ByteArray := prog_1_method_14_code
abbrev y_BL_addStatement : MethodName := ⟨"BranchLayout", "addStatement", "(LBranchLayout$Statement;)I"⟩
abbrev c_BL_align : ByteArray := prog_1_method_4_code
abbrev y_BL_align : MethodName := ⟨"BranchLayout", "align", "(II)I"⟩
abbrev c_BL_isAlignment : ByteArray := prog_1_method_13_code
abbrev y_BL_isAlignment : MethodName := ⟨"BranchLayout", "isAlignment", "(I)Z"⟩
abbrev c_In_bitCount : ByteArray := prog_10_method_49_code
abbrev y_In_bitCount : MethodName := ⟨"java/lang/Integer", "bitCount", "(I)I"⟩
abbrev c_Al_init : ByteArray := prog_2_method_1_code
abbrev y_Al_init : MethodName := ⟨"BranchLayout$Alignment", "<init>", "(II)V"⟩
abbrev c_BL_branch : ByteArray := prog_1_method_5_code
abbrev y_BL_branch : MethodName := ⟨"BranchLayout", "branch", "(II)I"⟩
abbrev c_Br_init : ByteArray := prog_3_method_1_code
abbrev y_Br_init : MethodName := ⟨"BranchLayout$Branch", "<init>", "(II)V"⟩
abbrev c_BL_label : ByteArray := prog_1_method_6_code
abbrev y_BL_label : MethodName := ⟨"BranchLayout", "label", "(I)I"⟩
abbrev c_La_init : ByteArray := prog_5_method_1_code
abbrev y_La_init : MethodName := ⟨"BranchLayout$Label", "<init>", "(II)V"⟩
abbrev c_BL_go : ByteArray := prog_1_method_7_code
abbrev y_BL_go : MethodName := ⟨"BranchLayout", "go", "(III)Z"⟩
abbrev c_BL_statementNumbered : ByteArray := prog_1_method_15_code
abbrev y_BL_statementNumbered : MethodName := ⟨"BranchLayout", "statementNumbered", "(I)LBranchLayout$Statement;"⟩
abbrev c_BL_placeNamed : ByteArray := prog_1_method_17_code
abbrev y_BL_placeNamed : MethodName := ⟨"BranchLayout", "placeNamed", "(I)LBranchLayout$Place;"⟩
abbrev c_BL_labelNumbered : ByteArray := prog_1_method_16_code
abbrev y_BL_labelNumbered : MethodName := ⟨"BranchLayout", "labelNumbered", "(I)LBranchLayout$Label;"⟩
abbrev c_BL_relax : ByteArray := prog_1_method_8_code
abbrev y_BL_relax : MethodName := ⟨"BranchLayout", "relax", "()I"⟩
abbrev c_BL_shortenAllThatGo : ByteArray := prog_1_method_18_code
abbrev y_BL_shortenAllThatGo : MethodName := ⟨"BranchLayout", "shortenAllThatGo", "()V"⟩
abbrev c_BL_tellPlaces : ByteArray := prog_1_method_19_code
abbrev y_BL_tellPlaces : MethodName := ⟨"BranchLayout", "tellPlaces", "()V"⟩
abbrev c_BL_tellLabelsBefore : ByteArray := prog_1_method_21_code
abbrev y_BL_tellLabelsBefore : MethodName := ⟨"BranchLayout", "tellLabelsBefore", "(II)I"⟩
abbrev c_BL_tellStatement : ByteArray := prog_1_method_20_code
abbrev y_BL_tellStatement : MethodName := ⟨"BranchLayout", "tellStatement", "(LBranchLayout$Statement;)V"⟩
abbrev c_Al_lengthFrom : ByteArray := prog_2_method_2_code
abbrev y_Al_lengthFrom : MethodName := ⟨"BranchLayout$Alignment", "lengthFrom", "(I)I"⟩
abbrev c_Br_lengthFrom : ByteArray := prog_3_method_2_code
abbrev y_Br_lengthFrom : MethodName := ⟨"BranchLayout$Branch", "lengthFrom", "(I)I"⟩
abbrev c_By_lengthFrom : ByteArray := prog_4_method_2_code
abbrev y_By_lengthFrom : MethodName := ⟨"BranchLayout$Bytes", "lengthFrom", "(I)I"⟩
abbrev c_BL_lengthenAllTooFar : ByteArray := prog_1_method_22_code
abbrev y_BL_lengthenAllTooFar : MethodName := ⟨"BranchLayout", "lengthenAllTooFar", "()Z"⟩
abbrev c_Br_lengthenIfTooFar : ByteArray := prog_3_method_4_code
abbrev y_Br_lengthenIfTooFar : MethodName := ⟨"BranchLayout$Branch", "lengthenIfTooFar", "()Z"⟩
abbrev c_BL_countLong : ByteArray := prog_1_method_23_code
abbrev y_BL_countLong : MethodName := ⟨"BranchLayout", "countLong", "()I"⟩
abbrev c_BL_statement : ByteArray := prog_1_method_9_code
abbrev y_BL_statement : MethodName := ⟨"BranchLayout", "statement", "(II)I"⟩
abbrev c_Br_fact : ByteArray := prog_3_method_3_code
abbrev y_Br_fact : MethodName := ⟨"BranchLayout$Branch", "fact", "(I)I"⟩
abbrev c_St_fact : ByteArray := prog_7_method_3_code
abbrev y_St_fact : MethodName := ⟨"BranchLayout$Statement", "fact", "(I)I"⟩
abbrev c_BL_place : ByteArray := prog_1_method_10_code
abbrev y_BL_place : MethodName := ⟨"BranchLayout", "place", "(I)I"⟩
abbrev c_BL_size : ByteArray := prog_1_method_11_code
abbrev y_BL_size : MethodName := ⟨"BranchLayout", "size", "(I)I"⟩
abbrev c_Mo_init : ByteArray := prog_9_method_1_code
abbrev y_Mo_init : MethodName := ⟨"BranchLayoutModel", "<init>", "()V"⟩
abbrev c_Mo_clear : ByteArray := prog_9_method_3_code
abbrev y_Mo_clear : MethodName := ⟨"BranchLayoutModel", "clear", "()V"⟩
abbrev c_Mo_bytes : ByteArray := prog_9_method_5_code
abbrev y_Mo_bytes : MethodName := ⟨"BranchLayoutModel", "bytes", "(II)I"⟩
abbrev c_Mo_add : ByteArray := prog_9_method_4_code
abbrev y_Mo_add : MethodName := ⟨"BranchLayoutModel", "add", "(IIIZ)I"⟩
abbrev c_Mo_align : ByteArray := prog_9_method_6_code
abbrev y_Mo_align : MethodName := ⟨"BranchLayoutModel", "align", "(II)I"⟩
abbrev c_Mo_branch : ByteArray := prog_9_method_7_code
abbrev y_Mo_branch : MethodName := ⟨"BranchLayoutModel", "branch", "(II)I"⟩
abbrev c_Mo_label : ByteArray := prog_9_method_8_code
abbrev y_Mo_label : MethodName := ⟨"BranchLayoutModel", "label", "(I)I"⟩
abbrev c_Mo_go : ByteArray := prog_9_method_9_code
abbrev y_Mo_go : MethodName := ⟨"BranchLayoutModel", "go", "(III)Z"⟩
abbrev c_Mo_relax : ByteArray := prog_9_method_12_code
abbrev y_Mo_relax : MethodName := ⟨"BranchLayoutModel", "relax", "()I"⟩
abbrev c_Mo_walk : ByteArray := prog_9_method_10_code
abbrev y_Mo_walk : MethodName := ⟨"BranchLayoutModel", "walk", "(I)V"⟩
abbrev c_Mo_distance : ByteArray := prog_9_method_11_code
abbrev y_Mo_distance : MethodName := ⟨"BranchLayoutModel", "distance", "(I)J"⟩
abbrev c_Mo_statement : ByteArray := prog_9_method_13_code
abbrev y_Mo_statement : MethodName := ⟨"BranchLayoutModel", "statement", "(II)I"⟩
abbrev c_Mo_place : ByteArray := prog_9_method_14_code
abbrev y_Mo_place : MethodName := ⟨"BranchLayoutModel", "place", "(I)I"⟩
abbrev c_Mo_size : ByteArray := prog_9_method_15_code
abbrev y_Mo_size : MethodName := ⟨"BranchLayoutModel", "size", "(I)I"⟩
abbrev c_Lw_law : ByteArray := code
abbrev y_Lw_law : MethodName := ⟨"BranchLayoutLaw", "law", "([I)Z"⟩
theorem ws_BL_addStatement : Cond.selects "BranchLayout" ⟨"BranchLayout", "addStatement", "(LBranchLayout$Statement;)I"⟩ ⟨"BranchLayout", "addStatement", "(LBranchLayout$Statement;)I"⟩ ∈ zt := zt_in (List.mem_append_left _ (List.mem_of_getElem? (i := 0) (by decide +kernel))) rfl
theorem ws_BL_statementNumbered : Cond.selects "BranchLayout" ⟨"BranchLayout", "statementNumbered", "(I)LBranchLayout$Statement;"⟩ ⟨"BranchLayout", "statementNumbered", "(I)LBranchLayout$Statement;"⟩ ∈ zt := zt_in (List.mem_append_left _ (List.mem_of_getElem? (i := 1) (by decide +kernel))) rfl
theorem ws_BL_placeNamed : Cond.selects "BranchLayout" ⟨"BranchLayout", "placeNamed", "(I)LBranchLayout$Place;"⟩ ⟨"BranchLayout", "placeNamed", "(I)LBranchLayout$Place;"⟩ ∈ zt := zt_in (List.mem_append_left _ (List.mem_of_getElem? (i := 2) (by decide +kernel))) rfl
theorem ws_BL_labelNumbered : Cond.selects "BranchLayout" ⟨"BranchLayout", "labelNumbered", "(I)LBranchLayout$Label;"⟩ ⟨"BranchLayout", "labelNumbered", "(I)LBranchLayout$Label;"⟩ ∈ zt := zt_in (List.mem_append_left _ (List.mem_of_getElem? (i := 3) (by decide +kernel))) rfl
theorem ws_BL_shortenAllThatGo : Cond.selects "BranchLayout" ⟨"BranchLayout", "shortenAllThatGo", "()V"⟩ ⟨"BranchLayout", "shortenAllThatGo", "()V"⟩ ∈ zt := zt_in (List.mem_append_left _ (List.mem_of_getElem? (i := 4) (by decide +kernel))) rfl
theorem ws_BL_tellPlaces : Cond.selects "BranchLayout" ⟨"BranchLayout", "tellPlaces", "()V"⟩ ⟨"BranchLayout", "tellPlaces", "()V"⟩ ∈ zt := zt_in (List.mem_append_left _ (List.mem_of_getElem? (i := 5) (by decide +kernel))) rfl
theorem ws_BL_tellLabelsBefore : Cond.selects "BranchLayout" ⟨"BranchLayout", "tellLabelsBefore", "(II)I"⟩ ⟨"BranchLayout", "tellLabelsBefore", "(II)I"⟩ ∈ zt := zt_in (List.mem_append_left _ (List.mem_of_getElem? (i := 6) (by decide +kernel))) rfl
theorem ws_BL_tellStatement : Cond.selects "BranchLayout" ⟨"BranchLayout", "tellStatement", "(LBranchLayout$Statement;)V"⟩ ⟨"BranchLayout", "tellStatement", "(LBranchLayout$Statement;)V"⟩ ∈ zt := zt_in (List.mem_append_left _ (List.mem_of_getElem? (i := 7) (by decide +kernel))) rfl
theorem ws_BL_lengthenAllTooFar : Cond.selects "BranchLayout" ⟨"BranchLayout", "lengthenAllTooFar", "()Z"⟩ ⟨"BranchLayout", "lengthenAllTooFar", "()Z"⟩ ∈ zt := zt_in (List.mem_append_left _ (List.mem_of_getElem? (i := 8) (by decide +kernel))) rfl
theorem ws_BL_countLong : Cond.selects "BranchLayout" ⟨"BranchLayout", "countLong", "()I"⟩ ⟨"BranchLayout", "countLong", "()I"⟩ ∈ zt := zt_in (List.mem_append_left _ (List.mem_of_getElem? (i := 9) (by decide +kernel))) rfl
theorem ws_Mo_add : Cond.selects "BranchLayoutModel" ⟨"BranchLayoutModel", "add", "(IIIZ)I"⟩ ⟨"BranchLayoutModel", "add", "(IIIZ)I"⟩ ∈ zt := zt_in (List.mem_append_left _ (List.mem_of_getElem? (i := 10) (by decide +kernel))) rfl
theorem ws_Mo_walk : Cond.selects "BranchLayoutModel" ⟨"BranchLayoutModel", "walk", "(I)V"⟩ ⟨"BranchLayoutModel", "walk", "(I)V"⟩ ∈ zt := zt_in (List.mem_append_left _ (List.mem_of_getElem? (i := 11) (by decide +kernel))) rfl
theorem ws_Mo_distance : Cond.selects "BranchLayoutModel" ⟨"BranchLayoutModel", "distance", "(I)J"⟩ ⟨"BranchLayoutModel", "distance", "(I)J"⟩ ∈ zt := zt_in (List.mem_append_left _ (List.mem_of_getElem? (i := 12) (by decide +kernel))) rfl
theorem w_0 : Cond.initialized "BranchLayoutLaw" ∈ zt := zt_in (List.mem_append_right _ (List.mem_of_getElem? (i := 0) (by decide +kernel))) rfl
theorem w_1 : Cond.initialized "BranchLayout" ∈ zt := zt_in (List.mem_append_right _ (List.mem_of_getElem? (i := 1) (by decide +kernel))) rfl
theorem w_2 : Cond.initialized "BranchLayoutModel" ∈ zt := zt_in (List.mem_append_right _ (List.mem_of_getElem? (i := 2) (by decide +kernel))) rfl
theorem w_3 : Cond.initialized "java/util/Arrays" ∈ zt := zt_in (List.mem_append_right _ (List.mem_of_getElem? (i := 3) (by decide +kernel))) rfl
theorem w_4 : Cond.initialized "BranchLayout$Place" ∈ zt := zt_in (List.mem_append_right _ (List.mem_of_getElem? (i := 4) (by decide +kernel))) rfl
theorem w_5 : Cond.initialized "BranchLayout$Statement" ∈ zt := zt_in (List.mem_append_right _ (List.mem_of_getElem? (i := 5) (by decide +kernel))) rfl
theorem w_6 : Cond.initialized "BranchLayout$Bytes" ∈ zt := zt_in (List.mem_append_right _ (List.mem_of_getElem? (i := 6) (by decide +kernel))) rfl
theorem w_7 : Cond.initialized "java/lang/Integer" ∈ zt := zt_in (List.mem_append_right _ (List.mem_of_getElem? (i := 7) (by decide +kernel))) rfl
theorem w_8 : Cond.initialized "BranchLayout$Alignment" ∈ zt := zt_in (List.mem_append_right _ (List.mem_of_getElem? (i := 8) (by decide +kernel))) rfl
theorem w_9 : Cond.initialized "BranchLayout$Branch" ∈ zt := zt_in (List.mem_append_right _ (List.mem_of_getElem? (i := 9) (by decide +kernel))) rfl
theorem w_10 : Cond.initialized "BranchLayout$Label" ∈ zt := zt_in (List.mem_append_right _ (List.mem_of_getElem? (i := 10) (by decide +kernel))) rfl
theorem w_11 : Cond.classLink "BranchLayoutLaw" 7 "BranchLayout" ∈ zt := zt_in (List.mem_append_right _ (List.mem_of_getElem? (i := 11) (by decide +kernel))) rfl
theorem w_12 : Cond.instantiable "BranchLayout" 5 ∈ zt := zt_in (List.mem_append_right _ (List.mem_of_getElem? (i := 12) (by decide +kernel))) rfl
theorem w_13 : Cond.methodLink "BranchLayoutLaw" 9 ⟨"BranchLayout", "<init>", "()V"⟩ ∈ zt := zt_in (List.mem_append_right _ (List.mem_of_getElem? (i := 13) (by decide +kernel))) rfl
theorem w_14 : Cond.instanceMethod ⟨"BranchLayout", "<init>", "()V"⟩ ∈ zt := zt_in (List.mem_append_right _ (List.mem_of_getElem? (i := 14) (by decide +kernel))) rfl
theorem w_15 : Cond.code ⟨"BranchLayout", "<init>", "()V"⟩ prog_1_method_1_code 1 none ∈ zt := zt_in (List.mem_append_right _ (List.mem_of_getElem? (i := 15) (by decide +kernel))) rfl
theorem w_16 : Cond.methodLink "BranchLayout" 1 ⟨"java/lang/Object", "<init>", "()V"⟩ ∈ zt := zt_in (List.mem_append_right _ (List.mem_of_getElem? (i := 16) (by decide +kernel))) rfl
theorem w_17 : Cond.instanceMethod ⟨"java/lang/Object", "<init>", "()V"⟩ ∈ zt := zt_in (List.mem_append_right _ (List.mem_of_getElem? (i := 17) (by decide +kernel))) rfl
theorem w_18 : Cond.code ⟨"java/lang/Object", "<init>", "()V"⟩ object_method_1_code 1 none ∈ zt := zt_in (List.mem_append_right _ (List.mem_of_getElem? (i := 18) (by decide +kernel))) rfl
theorem w_19 : Cond.classLink "BranchLayout" 9 "BranchLayout$Statement" ∈ zt := zt_in (List.mem_append_right _ (List.mem_of_getElem? (i := 19) (by decide +kernel))) rfl
theorem w_20 : Cond.arrayOver (FieldType.object "BranchLayout$Statement") ∈ lw_tbl := List.mem_append_right _ (List.mem_of_getElem? (i := 20) (by decide +kernel))
theorem w_21 : Cond.classLink "BranchLayout" 15 "BranchLayout$Label" ∈ zt := zt_in (List.mem_append_right _ (List.mem_of_getElem? (i := 21) (by decide +kernel))) rfl
theorem w_22 : Cond.arrayOver (FieldType.object "BranchLayout$Label") ∈ lw_tbl := List.mem_append_right _ (List.mem_of_getElem? (i := 22) (by decide +kernel))
theorem w_23 : Cond.fieldLink "BranchLayout" 11 "BranchLayout" "statements" "[LBranchLayout$Statement;" ∈ zt := zt_in (List.mem_append_right _ (List.mem_of_getElem? (i := 23) (by decide +kernel))) rfl
theorem w_24 : Cond.fieldLink "BranchLayout" 17 "BranchLayout" "labels" "[LBranchLayout$Label;" ∈ zt := zt_in (List.mem_append_right _ (List.mem_of_getElem? (i := 24) (by decide +kernel))) rfl
theorem w_25 : Cond.fieldLink "BranchLayout" 21 "BranchLayout" "sizes" "[I" ∈ zt := zt_in (List.mem_append_right _ (List.mem_of_getElem? (i := 25) (by decide +kernel))) rfl
theorem w_26 : Cond.fieldLink "BranchLayout" 25 "BranchLayout" "statementCount" "I" ∈ zt := zt_in (List.mem_append_right _ (List.mem_of_getElem? (i := 26) (by decide +kernel))) rfl
theorem w_27 : Cond.fieldLink "BranchLayout" 29 "BranchLayout" "labelCount" "I" ∈ zt := zt_in (List.mem_append_right _ (List.mem_of_getElem? (i := 27) (by decide +kernel))) rfl
theorem w_28 : Cond.laysFinal "BranchLayout" "BranchLayout" "statements" "[LBranchLayout$Statement;" ∈ zt := zt_in (List.mem_append_right _ (List.mem_of_getElem? (i := 28) (by decide +kernel))) rfl
theorem w_29 : Cond.soleField "BranchLayout" "statements" ∈ zt := zt_in (List.mem_append_right _ (List.mem_of_getElem? (i := 29) (by decide +kernel))) rfl
theorem w_30 : Cond.laysFinal "BranchLayout" "BranchLayout" "labels" "[LBranchLayout$Label;" ∈ zt := zt_in (List.mem_append_right _ (List.mem_of_getElem? (i := 30) (by decide +kernel))) rfl
theorem w_31 : Cond.soleField "BranchLayout" "labels" ∈ zt := zt_in (List.mem_append_right _ (List.mem_of_getElem? (i := 31) (by decide +kernel))) rfl
theorem w_32 : Cond.laysFinal "BranchLayout" "BranchLayout" "sizes" "[I" ∈ zt := zt_in (List.mem_append_right _ (List.mem_of_getElem? (i := 32) (by decide +kernel))) rfl
theorem w_33 : Cond.soleField "BranchLayout" "sizes" ∈ zt := zt_in (List.mem_append_right _ (List.mem_of_getElem? (i := 33) (by decide +kernel))) rfl
theorem w_34 : Cond.lays "BranchLayout" "BranchLayout" "statementCount" "I" ∈ zt := zt_in (List.mem_append_right _ (List.mem_of_getElem? (i := 34) (by decide +kernel))) rfl
theorem w_35 : Cond.soleField "BranchLayout" "statementCount" ∈ zt := zt_in (List.mem_append_right _ (List.mem_of_getElem? (i := 35) (by decide +kernel))) rfl
theorem w_36 : Cond.lays "BranchLayout" "BranchLayout" "labelCount" "I" ∈ zt := zt_in (List.mem_append_right _ (List.mem_of_getElem? (i := 36) (by decide +kernel))) rfl
theorem w_37 : Cond.soleField "BranchLayout" "labelCount" ∈ zt := zt_in (List.mem_append_right _ (List.mem_of_getElem? (i := 37) (by decide +kernel))) rfl
theorem w_38 : Cond.superclass "BranchLayout" "java/lang/Object" ∈ zt := zt_in (List.mem_append_right _ (List.mem_of_getElem? (i := 38) (by decide +kernel))) rfl
theorem w_39 : Cond.arrayClass FieldType.int ∈ zt := zt_in (List.mem_append_right _ (List.mem_of_getElem? (i := 39) (by decide +kernel))) rfl
theorem w_40 : Cond.methodLink "BranchLayoutLaw" 13 ⟨"BranchLayout", "clear", "()V"⟩ ∈ zt := zt_in (List.mem_append_right _ (List.mem_of_getElem? (i := 40) (by decide +kernel))) rfl
theorem w_41 : Cond.instanceMethod ⟨"BranchLayout", "clear", "()V"⟩ ∈ zt := zt_in (List.mem_append_right _ (List.mem_of_getElem? (i := 41) (by decide +kernel))) rfl
theorem w_42 : Cond.selects "BranchLayout" ⟨"BranchLayout", "clear", "()V"⟩ ⟨"BranchLayout", "clear", "()V"⟩ ∈ zt := zt_in (List.mem_append_right _ (List.mem_of_getElem? (i := 42) (by decide +kernel))) rfl
theorem w_43 : Cond.code ⟨"BranchLayout", "clear", "()V"⟩ prog_1_method_2_code 1 none ∈ zt := zt_in (List.mem_append_right _ (List.mem_of_getElem? (i := 43) (by decide +kernel))) rfl
theorem w_44 : Cond.methodLink "BranchLayout" 32 ⟨"java/util/Arrays", "fill", "([II)V"⟩ ∈ zt := zt_in (List.mem_append_right _ (List.mem_of_getElem? (i := 44) (by decide +kernel))) rfl
theorem w_45 : Cond.static ⟨"java/util/Arrays", "fill", "([II)V"⟩ ∈ zt := zt_in (List.mem_append_right _ (List.mem_of_getElem? (i := 45) (by decide +kernel))) rfl
theorem w_46 : Cond.code ⟨"java/util/Arrays", "fill", "([II)V"⟩ prog_11_method_103_code 4 none ∈ zt := zt_in (List.mem_append_right _ (List.mem_of_getElem? (i := 46) (by decide +kernel))) rfl
theorem w_47 : Cond.methodLink "BranchLayoutLaw" 17 ⟨"BranchLayout", "bytes", "(II)I"⟩ ∈ zt := zt_in (List.mem_append_right _ (List.mem_of_getElem? (i := 47) (by decide +kernel))) rfl
theorem w_48 : Cond.instanceMethod ⟨"BranchLayout", "bytes", "(II)I"⟩ ∈ zt := zt_in (List.mem_append_right _ (List.mem_of_getElem? (i := 48) (by decide +kernel))) rfl
theorem w_49 : Cond.selects "BranchLayout" ⟨"BranchLayout", "bytes", "(II)I"⟩ ⟨"BranchLayout", "bytes", "(II)I"⟩ ∈ zt := zt_in (List.mem_append_right _ (List.mem_of_getElem? (i := 49) (by decide +kernel))) rfl
theorem w_50 : Cond.code ⟨"BranchLayout", "bytes", "(II)I"⟩ prog_1_method_3_code 3 (some FieldType.int) ∈ zt := zt_in (List.mem_append_right _ (List.mem_of_getElem? (i := 50) (by decide +kernel))) rfl
theorem w_51 : Cond.methodLink "BranchLayout" 38 ⟨"BranchLayout", "isSection", "(I)Z"⟩ ∈ zt := zt_in (List.mem_append_right _ (List.mem_of_getElem? (i := 51) (by decide +kernel))) rfl
theorem w_52 : Cond.static ⟨"BranchLayout", "isSection", "(I)Z"⟩ ∈ zt := zt_in (List.mem_append_right _ (List.mem_of_getElem? (i := 52) (by decide +kernel))) rfl
theorem w_53 : Cond.code ⟨"BranchLayout", "isSection", "(I)Z"⟩ prog_1_method_12_code 1 (some FieldType.boolean) ∈ zt := zt_in (List.mem_append_right _ (List.mem_of_getElem? (i := 53) (by decide +kernel))) rfl
theorem w_54 : Cond.constant "BranchLayout" 42 65536 ∈ zt := zt_in (List.mem_append_right _ (List.mem_of_getElem? (i := 54) (by decide +kernel))) rfl
theorem w_55 : Cond.classLink "BranchLayout" 43 "BranchLayout$Bytes" ∈ zt := zt_in (List.mem_append_right _ (List.mem_of_getElem? (i := 55) (by decide +kernel))) rfl
theorem w_56 : Cond.instantiable "BranchLayout$Bytes" 4 ∈ zt := zt_in (List.mem_append_right _ (List.mem_of_getElem? (i := 56) (by decide +kernel))) rfl
theorem w_57 : Cond.methodLink "BranchLayout" 45 ⟨"BranchLayout$Bytes", "<init>", "(II)V"⟩ ∈ zt := zt_in (List.mem_append_right _ (List.mem_of_getElem? (i := 57) (by decide +kernel))) rfl
theorem w_58 : Cond.instanceMethod ⟨"BranchLayout$Bytes", "<init>", "(II)V"⟩ ∈ zt := zt_in (List.mem_append_right _ (List.mem_of_getElem? (i := 58) (by decide +kernel))) rfl
theorem w_59 : Cond.code ⟨"BranchLayout$Bytes", "<init>", "(II)V"⟩ prog_4_method_1_code 3 none ∈ zt := zt_in (List.mem_append_right _ (List.mem_of_getElem? (i := 59) (by decide +kernel))) rfl
theorem w_60 : Cond.methodLink "BranchLayout$Bytes" 1 ⟨"BranchLayout$Statement", "<init>", "(I)V"⟩ ∈ zt := zt_in (List.mem_append_right _ (List.mem_of_getElem? (i := 60) (by decide +kernel))) rfl
theorem w_61 : Cond.instanceMethod ⟨"BranchLayout$Statement", "<init>", "(I)V"⟩ ∈ zt := zt_in (List.mem_append_right _ (List.mem_of_getElem? (i := 61) (by decide +kernel))) rfl
theorem w_62 : Cond.code ⟨"BranchLayout$Statement", "<init>", "(I)V"⟩ prog_7_method_1_code 2 none ∈ zt := zt_in (List.mem_append_right _ (List.mem_of_getElem? (i := 62) (by decide +kernel))) rfl
theorem w_63 : Cond.methodLink "BranchLayout$Statement" 3 ⟨"BranchLayout$Place", "<init>", "(I)V"⟩ ∈ zt := zt_in (List.mem_append_right _ (List.mem_of_getElem? (i := 63) (by decide +kernel))) rfl
theorem w_64 : Cond.instanceMethod ⟨"BranchLayout$Place", "<init>", "(I)V"⟩ ∈ zt := zt_in (List.mem_append_right _ (List.mem_of_getElem? (i := 64) (by decide +kernel))) rfl
theorem w_65 : Cond.code ⟨"BranchLayout$Place", "<init>", "(I)V"⟩ prog_6_method_1_code 2 none ∈ zt := zt_in (List.mem_append_right _ (List.mem_of_getElem? (i := 65) (by decide +kernel))) rfl
theorem w_66 : Cond.methodLink "BranchLayout$Place" 1 ⟨"java/lang/Object", "<init>", "()V"⟩ ∈ zt := zt_in (List.mem_append_right _ (List.mem_of_getElem? (i := 66) (by decide +kernel))) rfl
theorem w_67 : Cond.fieldLink "BranchLayout$Bytes" 7 "BranchLayout$Bytes" "n" "I" ∈ zt := zt_in (List.mem_append_right _ (List.mem_of_getElem? (i := 67) (by decide +kernel))) rfl
theorem w_68 : Cond.fieldLink "BranchLayout$Statement" 15 "BranchLayout$Statement" "length" "I" ∈ zt := zt_in (List.mem_append_right _ (List.mem_of_getElem? (i := 68) (by decide +kernel))) rfl
theorem w_69 : Cond.fieldLink "BranchLayout$Branch" 39 "BranchLayout$Branch" "length" "I" ∈ zt := zt_in (List.mem_append_right _ (List.mem_of_getElem? (i := 69) (by decide +kernel))) rfl
theorem w_70 : Cond.sameField "BranchLayout$Branch" "BranchLayout$Statement" "length" "I" ∈ zt := zt_in (List.mem_append_right _ (List.mem_of_getElem? (i := 70) (by decide +kernel))) rfl
theorem w_71 : Cond.fieldLink "BranchLayout" 130 "BranchLayout$Statement" "length" "I" ∈ zt := zt_in (List.mem_append_right _ (List.mem_of_getElem? (i := 71) (by decide +kernel))) rfl
theorem w_72 : Cond.fieldLink "BranchLayout$Place" 7 "BranchLayout$Place" "section" "I" ∈ zt := zt_in (List.mem_append_right _ (List.mem_of_getElem? (i := 72) (by decide +kernel))) rfl
theorem w_73 : Cond.fieldLink "BranchLayout" 70 "BranchLayout$Place" "section" "I" ∈ zt := zt_in (List.mem_append_right _ (List.mem_of_getElem? (i := 73) (by decide +kernel))) rfl
theorem w_74 : Cond.fieldLink "BranchLayout" 75 "BranchLayout$Branch" "section" "I" ∈ zt := zt_in (List.mem_append_right _ (List.mem_of_getElem? (i := 74) (by decide +kernel))) rfl
theorem w_75 : Cond.sameField "BranchLayout$Branch" "BranchLayout$Place" "section" "I" ∈ zt := zt_in (List.mem_append_right _ (List.mem_of_getElem? (i := 75) (by decide +kernel))) rfl
theorem w_76 : Cond.fieldLink "BranchLayout" 125 "BranchLayout$Statement" "section" "I" ∈ zt := zt_in (List.mem_append_right _ (List.mem_of_getElem? (i := 76) (by decide +kernel))) rfl
theorem w_77 : Cond.sameField "BranchLayout$Statement" "BranchLayout$Place" "section" "I" ∈ zt := zt_in (List.mem_append_right _ (List.mem_of_getElem? (i := 77) (by decide +kernel))) rfl
theorem w_78 : Cond.fieldLink "BranchLayout" 136 "BranchLayout$Label" "section" "I" ∈ zt := zt_in (List.mem_append_right _ (List.mem_of_getElem? (i := 78) (by decide +kernel))) rfl
theorem w_79 : Cond.sameField "BranchLayout$Label" "BranchLayout$Place" "section" "I" ∈ zt := zt_in (List.mem_append_right _ (List.mem_of_getElem? (i := 79) (by decide +kernel))) rfl
theorem w_80 : Cond.fieldLink "BranchLayout$Statement" 9 "BranchLayout$Statement" "at" "I" ∈ zt := zt_in (List.mem_append_right _ (List.mem_of_getElem? (i := 80) (by decide +kernel))) rfl
theorem w_81 : Cond.sameField "BranchLayout$Statement" "BranchLayout$Place" "at" "I" ∈ zt := zt_in (List.mem_append_right _ (List.mem_of_getElem? (i := 81) (by decide +kernel))) rfl
theorem w_82 : Cond.fieldLink "BranchLayout$Branch" 30 "BranchLayout$Place" "at" "I" ∈ zt := zt_in (List.mem_append_right _ (List.mem_of_getElem? (i := 82) (by decide +kernel))) rfl
theorem w_83 : Cond.fieldLink "BranchLayout$Branch" 38 "BranchLayout$Branch" "at" "I" ∈ zt := zt_in (List.mem_append_right _ (List.mem_of_getElem? (i := 83) (by decide +kernel))) rfl
theorem w_84 : Cond.sameField "BranchLayout$Branch" "BranchLayout$Place" "at" "I" ∈ zt := zt_in (List.mem_append_right _ (List.mem_of_getElem? (i := 84) (by decide +kernel))) rfl
theorem w_85 : Cond.fieldLink "BranchLayout" 105 "BranchLayout$Label" "at" "I" ∈ zt := zt_in (List.mem_append_right _ (List.mem_of_getElem? (i := 85) (by decide +kernel))) rfl
theorem w_86 : Cond.sameField "BranchLayout$Label" "BranchLayout$Place" "at" "I" ∈ zt := zt_in (List.mem_append_right _ (List.mem_of_getElem? (i := 86) (by decide +kernel))) rfl
theorem w_87 : Cond.fieldLink "BranchLayout" 126 "BranchLayout$Statement" "at" "I" ∈ zt := zt_in (List.mem_append_right _ (List.mem_of_getElem? (i := 87) (by decide +kernel))) rfl
theorem w_88 : Cond.laysFinal "BranchLayout$Bytes" "BranchLayout$Bytes" "n" "I" ∈ zt := zt_in (List.mem_append_right _ (List.mem_of_getElem? (i := 88) (by decide +kernel))) rfl
theorem w_89 : Cond.soleField "BranchLayout$Bytes" "n" ∈ zt := zt_in (List.mem_append_right _ (List.mem_of_getElem? (i := 89) (by decide +kernel))) rfl
theorem w_90 : Cond.lays "BranchLayout$Bytes" "BranchLayout$Statement" "length" "I" ∈ zt := zt_in (List.mem_append_right _ (List.mem_of_getElem? (i := 90) (by decide +kernel))) rfl
theorem w_91 : Cond.soleField "BranchLayout$Statement" "length" ∈ zt := zt_in (List.mem_append_right _ (List.mem_of_getElem? (i := 91) (by decide +kernel))) rfl
theorem w_92 : Cond.laysFinal "BranchLayout$Bytes" "BranchLayout$Place" "section" "I" ∈ zt := zt_in (List.mem_append_right _ (List.mem_of_getElem? (i := 92) (by decide +kernel))) rfl
theorem w_93 : Cond.soleField "BranchLayout$Place" "section" ∈ zt := zt_in (List.mem_append_right _ (List.mem_of_getElem? (i := 93) (by decide +kernel))) rfl
theorem w_94 : Cond.lays "BranchLayout$Bytes" "BranchLayout$Place" "at" "I" ∈ zt := zt_in (List.mem_append_right _ (List.mem_of_getElem? (i := 94) (by decide +kernel))) rfl
theorem w_95 : Cond.soleField "BranchLayout$Place" "at" ∈ zt := zt_in (List.mem_append_right _ (List.mem_of_getElem? (i := 95) (by decide +kernel))) rfl
theorem w_96 : Cond.superclass "BranchLayout$Bytes" "BranchLayout$Statement" ∈ zt := zt_in (List.mem_append_right _ (List.mem_of_getElem? (i := 96) (by decide +kernel))) rfl
theorem w_97 : Cond.methodLink "BranchLayout" 48 ⟨"BranchLayout", "addStatement", "(LBranchLayout$Statement;)I"⟩ ∈ zt := zt_in (List.mem_append_right _ (List.mem_of_getElem? (i := 97) (by decide +kernel))) rfl
theorem w_98 : Cond.privateMethod ⟨"BranchLayout", "addStatement", "(LBranchLayout$Statement;)I"⟩ ∈ lw_tbl := List.mem_append_right _ (List.mem_of_getElem? (i := 98) (by decide +kernel))
theorem w_99 : Cond.instanceMethod ⟨"BranchLayout", "addStatement", "(LBranchLayout$Statement;)I"⟩ ∈ zt := zt_in (List.mem_append_right _ (List.mem_of_getElem? (i := 99) (by decide +kernel))) rfl
theorem w_100 : Cond.code ⟨"BranchLayout", "addStatement", "(LBranchLayout$Statement;)I"⟩ prog_1_method_14_code 2 (some FieldType.int) ∈ zt := zt_in (List.mem_append_right _ (List.mem_of_getElem? (i := 100) (by decide +kernel))) rfl
theorem w_101 : Cond.methodLink "BranchLayoutLaw" 22 ⟨"BranchLayout", "align", "(II)I"⟩ ∈ zt := zt_in (List.mem_append_right _ (List.mem_of_getElem? (i := 101) (by decide +kernel))) rfl
theorem w_102 : Cond.instanceMethod ⟨"BranchLayout", "align", "(II)I"⟩ ∈ zt := zt_in (List.mem_append_right _ (List.mem_of_getElem? (i := 102) (by decide +kernel))) rfl
theorem w_103 : Cond.selects "BranchLayout" ⟨"BranchLayout", "align", "(II)I"⟩ ⟨"BranchLayout", "align", "(II)I"⟩ ∈ zt := zt_in (List.mem_append_right _ (List.mem_of_getElem? (i := 103) (by decide +kernel))) rfl
theorem w_104 : Cond.code ⟨"BranchLayout", "align", "(II)I"⟩ prog_1_method_4_code 3 (some FieldType.int) ∈ zt := zt_in (List.mem_append_right _ (List.mem_of_getElem? (i := 104) (by decide +kernel))) rfl
theorem w_105 : Cond.methodLink "BranchLayout" 52 ⟨"BranchLayout", "isAlignment", "(I)Z"⟩ ∈ zt := zt_in (List.mem_append_right _ (List.mem_of_getElem? (i := 105) (by decide +kernel))) rfl
theorem w_106 : Cond.static ⟨"BranchLayout", "isAlignment", "(I)Z"⟩ ∈ zt := zt_in (List.mem_append_right _ (List.mem_of_getElem? (i := 106) (by decide +kernel))) rfl
theorem w_107 : Cond.code ⟨"BranchLayout", "isAlignment", "(I)Z"⟩ prog_1_method_13_code 1 (some FieldType.boolean) ∈ zt := zt_in (List.mem_append_right _ (List.mem_of_getElem? (i := 107) (by decide +kernel))) rfl
theorem w_108 : Cond.methodLink "BranchLayout" 108 ⟨"java/lang/Integer", "bitCount", "(I)I"⟩ ∈ zt := zt_in (List.mem_append_right _ (List.mem_of_getElem? (i := 108) (by decide +kernel))) rfl
theorem w_109 : Cond.static ⟨"java/lang/Integer", "bitCount", "(I)I"⟩ ∈ zt := zt_in (List.mem_append_right _ (List.mem_of_getElem? (i := 109) (by decide +kernel))) rfl
theorem w_110 : Cond.code ⟨"java/lang/Integer", "bitCount", "(I)I"⟩ prog_10_method_49_code 1 (some FieldType.int) ∈ zt := zt_in (List.mem_append_right _ (List.mem_of_getElem? (i := 110) (by decide +kernel))) rfl
theorem w_111 : Cond.constant "java/lang/Integer" 265 1431655765 ∈ zt := zt_in (List.mem_append_right _ (List.mem_of_getElem? (i := 111) (by decide +kernel))) rfl
theorem w_112 : Cond.constant "java/lang/Integer" 266 858993459 ∈ zt := zt_in (List.mem_append_right _ (List.mem_of_getElem? (i := 112) (by decide +kernel))) rfl
theorem w_113 : Cond.constant "java/lang/Integer" 267 252645135 ∈ zt := zt_in (List.mem_append_right _ (List.mem_of_getElem? (i := 113) (by decide +kernel))) rfl
theorem w_114 : Cond.classLink "BranchLayout" 55 "BranchLayout$Alignment" ∈ zt := zt_in (List.mem_append_right _ (List.mem_of_getElem? (i := 114) (by decide +kernel))) rfl
theorem w_115 : Cond.instantiable "BranchLayout$Alignment" 4 ∈ zt := zt_in (List.mem_append_right _ (List.mem_of_getElem? (i := 115) (by decide +kernel))) rfl
theorem w_116 : Cond.methodLink "BranchLayout" 57 ⟨"BranchLayout$Alignment", "<init>", "(II)V"⟩ ∈ zt := zt_in (List.mem_append_right _ (List.mem_of_getElem? (i := 116) (by decide +kernel))) rfl
theorem w_117 : Cond.instanceMethod ⟨"BranchLayout$Alignment", "<init>", "(II)V"⟩ ∈ zt := zt_in (List.mem_append_right _ (List.mem_of_getElem? (i := 117) (by decide +kernel))) rfl
theorem w_118 : Cond.code ⟨"BranchLayout$Alignment", "<init>", "(II)V"⟩ prog_2_method_1_code 3 none ∈ zt := zt_in (List.mem_append_right _ (List.mem_of_getElem? (i := 118) (by decide +kernel))) rfl
theorem w_119 : Cond.methodLink "BranchLayout$Alignment" 1 ⟨"BranchLayout$Statement", "<init>", "(I)V"⟩ ∈ zt := zt_in (List.mem_append_right _ (List.mem_of_getElem? (i := 119) (by decide +kernel))) rfl
theorem w_120 : Cond.fieldLink "BranchLayout$Alignment" 7 "BranchLayout$Alignment" "n" "I" ∈ zt := zt_in (List.mem_append_right _ (List.mem_of_getElem? (i := 120) (by decide +kernel))) rfl
theorem w_121 : Cond.laysFinal "BranchLayout$Alignment" "BranchLayout$Alignment" "n" "I" ∈ zt := zt_in (List.mem_append_right _ (List.mem_of_getElem? (i := 121) (by decide +kernel))) rfl
theorem w_122 : Cond.soleField "BranchLayout$Alignment" "n" ∈ zt := zt_in (List.mem_append_right _ (List.mem_of_getElem? (i := 122) (by decide +kernel))) rfl
theorem w_123 : Cond.lays "BranchLayout$Alignment" "BranchLayout$Statement" "length" "I" ∈ zt := zt_in (List.mem_append_right _ (List.mem_of_getElem? (i := 123) (by decide +kernel))) rfl
theorem w_124 : Cond.laysFinal "BranchLayout$Alignment" "BranchLayout$Place" "section" "I" ∈ zt := zt_in (List.mem_append_right _ (List.mem_of_getElem? (i := 124) (by decide +kernel))) rfl
theorem w_125 : Cond.lays "BranchLayout$Alignment" "BranchLayout$Place" "at" "I" ∈ zt := zt_in (List.mem_append_right _ (List.mem_of_getElem? (i := 125) (by decide +kernel))) rfl
theorem w_126 : Cond.superclass "BranchLayout$Alignment" "BranchLayout$Statement" ∈ zt := zt_in (List.mem_append_right _ (List.mem_of_getElem? (i := 126) (by decide +kernel))) rfl
theorem w_127 : Cond.methodLink "BranchLayoutLaw" 26 ⟨"BranchLayout", "branch", "(II)I"⟩ ∈ zt := zt_in (List.mem_append_right _ (List.mem_of_getElem? (i := 127) (by decide +kernel))) rfl
theorem w_128 : Cond.instanceMethod ⟨"BranchLayout", "branch", "(II)I"⟩ ∈ zt := zt_in (List.mem_append_right _ (List.mem_of_getElem? (i := 128) (by decide +kernel))) rfl
theorem w_129 : Cond.selects "BranchLayout" ⟨"BranchLayout", "branch", "(II)I"⟩ ⟨"BranchLayout", "branch", "(II)I"⟩ ∈ zt := zt_in (List.mem_append_right _ (List.mem_of_getElem? (i := 129) (by decide +kernel))) rfl
theorem w_130 : Cond.code ⟨"BranchLayout", "branch", "(II)I"⟩ prog_1_method_5_code 3 (some FieldType.int) ∈ zt := zt_in (List.mem_append_right _ (List.mem_of_getElem? (i := 130) (by decide +kernel))) rfl
theorem w_131 : Cond.classLink "BranchLayout" 58 "BranchLayout$Branch" ∈ zt := zt_in (List.mem_append_right _ (List.mem_of_getElem? (i := 131) (by decide +kernel))) rfl
theorem w_132 : Cond.instantiable "BranchLayout$Branch" 8 ∈ zt := zt_in (List.mem_append_right _ (List.mem_of_getElem? (i := 132) (by decide +kernel))) rfl
theorem w_133 : Cond.methodLink "BranchLayout" 60 ⟨"BranchLayout$Branch", "<init>", "(II)V"⟩ ∈ zt := zt_in (List.mem_append_right _ (List.mem_of_getElem? (i := 133) (by decide +kernel))) rfl
theorem w_134 : Cond.instanceMethod ⟨"BranchLayout$Branch", "<init>", "(II)V"⟩ ∈ zt := zt_in (List.mem_append_right _ (List.mem_of_getElem? (i := 134) (by decide +kernel))) rfl
theorem w_135 : Cond.code ⟨"BranchLayout$Branch", "<init>", "(II)V"⟩ prog_3_method_1_code 3 none ∈ zt := zt_in (List.mem_append_right _ (List.mem_of_getElem? (i := 135) (by decide +kernel))) rfl
theorem w_136 : Cond.methodLink "BranchLayout$Branch" 3 ⟨"BranchLayout$Statement", "<init>", "(I)V"⟩ ∈ zt := zt_in (List.mem_append_right _ (List.mem_of_getElem? (i := 136) (by decide +kernel))) rfl
theorem w_137 : Cond.fieldLink "BranchLayout$Branch" 9 "BranchLayout$Branch" "longLength" "I" ∈ zt := zt_in (List.mem_append_right _ (List.mem_of_getElem? (i := 137) (by decide +kernel))) rfl
theorem w_138 : Cond.fieldLink "BranchLayout$Branch" 26 "BranchLayout$Branch" "goal" "LBranchLayout$Place;" ∈ zt := zt_in (List.mem_append_right _ (List.mem_of_getElem? (i := 138) (by decide +kernel))) rfl
theorem w_139 : Cond.fieldLinkNest "BranchLayout" 76 "BranchLayout$Branch" "goal" "LBranchLayout$Place;" "BranchLayout" ∈ lw_tbl := List.mem_append_right _ (List.mem_of_getElem? (i := 139) (by decide +kernel))
theorem w_140 : Cond.fieldLink "BranchLayout$Branch" 35 "BranchLayout$Branch" "more" "I" ∈ zt := zt_in (List.mem_append_right _ (List.mem_of_getElem? (i := 140) (by decide +kernel))) rfl
theorem w_141 : Cond.fieldLinkNest "BranchLayout" 80 "BranchLayout$Branch" "more" "I" "BranchLayout" ∈ lw_tbl := List.mem_append_right _ (List.mem_of_getElem? (i := 141) (by decide +kernel))
theorem w_142 : Cond.fieldLink "BranchLayout$Branch" 15 "BranchLayout$Branch" "isShort" "Z" ∈ zt := zt_in (List.mem_append_right _ (List.mem_of_getElem? (i := 142) (by decide +kernel))) rfl
theorem w_143 : Cond.fieldLinkNest "BranchLayout" 113 "BranchLayout$Branch" "isShort" "Z" "BranchLayout" ∈ lw_tbl := List.mem_append_right _ (List.mem_of_getElem? (i := 143) (by decide +kernel))
theorem w_144 : Cond.fieldLink "BranchLayout$Branch" 19 "BranchLayout$Branch" "distance" "I" ∈ zt := zt_in (List.mem_append_right _ (List.mem_of_getElem? (i := 144) (by decide +kernel))) rfl
theorem w_145 : Cond.laysFinal "BranchLayout$Branch" "BranchLayout$Branch" "longLength" "I" ∈ zt := zt_in (List.mem_append_right _ (List.mem_of_getElem? (i := 145) (by decide +kernel))) rfl
theorem w_146 : Cond.soleField "BranchLayout$Branch" "longLength" ∈ zt := zt_in (List.mem_append_right _ (List.mem_of_getElem? (i := 146) (by decide +kernel))) rfl
theorem w_147 : Cond.lays "BranchLayout$Branch" "BranchLayout$Branch" "goal" "LBranchLayout$Place;" ∈ zt := zt_in (List.mem_append_right _ (List.mem_of_getElem? (i := 147) (by decide +kernel))) rfl
theorem w_148 : Cond.soleField "BranchLayout$Branch" "goal" ∈ zt := zt_in (List.mem_append_right _ (List.mem_of_getElem? (i := 148) (by decide +kernel))) rfl
theorem w_149 : Cond.lays "BranchLayout$Branch" "BranchLayout$Branch" "more" "I" ∈ zt := zt_in (List.mem_append_right _ (List.mem_of_getElem? (i := 149) (by decide +kernel))) rfl
theorem w_150 : Cond.soleField "BranchLayout$Branch" "more" ∈ zt := zt_in (List.mem_append_right _ (List.mem_of_getElem? (i := 150) (by decide +kernel))) rfl
theorem w_151 : Cond.lays "BranchLayout$Branch" "BranchLayout$Branch" "isShort" "Z" ∈ zt := zt_in (List.mem_append_right _ (List.mem_of_getElem? (i := 151) (by decide +kernel))) rfl
theorem w_152 : Cond.soleField "BranchLayout$Branch" "isShort" ∈ zt := zt_in (List.mem_append_right _ (List.mem_of_getElem? (i := 152) (by decide +kernel))) rfl
theorem w_153 : Cond.lays "BranchLayout$Branch" "BranchLayout$Branch" "distance" "I" ∈ zt := zt_in (List.mem_append_right _ (List.mem_of_getElem? (i := 153) (by decide +kernel))) rfl
theorem w_154 : Cond.soleField "BranchLayout$Branch" "distance" ∈ zt := zt_in (List.mem_append_right _ (List.mem_of_getElem? (i := 154) (by decide +kernel))) rfl
theorem w_155 : Cond.lays "BranchLayout$Branch" "BranchLayout$Statement" "length" "I" ∈ zt := zt_in (List.mem_append_right _ (List.mem_of_getElem? (i := 155) (by decide +kernel))) rfl
theorem w_156 : Cond.laysFinal "BranchLayout$Branch" "BranchLayout$Place" "section" "I" ∈ zt := zt_in (List.mem_append_right _ (List.mem_of_getElem? (i := 156) (by decide +kernel))) rfl
theorem w_157 : Cond.lays "BranchLayout$Branch" "BranchLayout$Place" "at" "I" ∈ zt := zt_in (List.mem_append_right _ (List.mem_of_getElem? (i := 157) (by decide +kernel))) rfl
theorem w_158 : Cond.superclass "BranchLayout$Branch" "BranchLayout$Statement" ∈ zt := zt_in (List.mem_append_right _ (List.mem_of_getElem? (i := 158) (by decide +kernel))) rfl
theorem w_159 : Cond.methodLink "BranchLayoutLaw" 30 ⟨"BranchLayout", "label", "(I)I"⟩ ∈ zt := zt_in (List.mem_append_right _ (List.mem_of_getElem? (i := 159) (by decide +kernel))) rfl
theorem w_160 : Cond.instanceMethod ⟨"BranchLayout", "label", "(I)I"⟩ ∈ zt := zt_in (List.mem_append_right _ (List.mem_of_getElem? (i := 160) (by decide +kernel))) rfl
theorem w_161 : Cond.selects "BranchLayout" ⟨"BranchLayout", "label", "(I)I"⟩ ⟨"BranchLayout", "label", "(I)I"⟩ ∈ zt := zt_in (List.mem_append_right _ (List.mem_of_getElem? (i := 161) (by decide +kernel))) rfl
theorem w_162 : Cond.code ⟨"BranchLayout", "label", "(I)I"⟩ prog_1_method_6_code 2 (some FieldType.int) ∈ zt := zt_in (List.mem_append_right _ (List.mem_of_getElem? (i := 162) (by decide +kernel))) rfl
theorem w_163 : Cond.instantiable "BranchLayout$Label" 3 ∈ zt := zt_in (List.mem_append_right _ (List.mem_of_getElem? (i := 163) (by decide +kernel))) rfl
theorem w_164 : Cond.methodLink "BranchLayout" 61 ⟨"BranchLayout$Label", "<init>", "(II)V"⟩ ∈ zt := zt_in (List.mem_append_right _ (List.mem_of_getElem? (i := 164) (by decide +kernel))) rfl
theorem w_165 : Cond.instanceMethod ⟨"BranchLayout$Label", "<init>", "(II)V"⟩ ∈ zt := zt_in (List.mem_append_right _ (List.mem_of_getElem? (i := 165) (by decide +kernel))) rfl
theorem w_166 : Cond.code ⟨"BranchLayout$Label", "<init>", "(II)V"⟩ prog_5_method_1_code 3 none ∈ zt := zt_in (List.mem_append_right _ (List.mem_of_getElem? (i := 166) (by decide +kernel))) rfl
theorem w_167 : Cond.methodLink "BranchLayout$Label" 1 ⟨"BranchLayout$Place", "<init>", "(I)V"⟩ ∈ zt := zt_in (List.mem_append_right _ (List.mem_of_getElem? (i := 167) (by decide +kernel))) rfl
theorem w_168 : Cond.fieldLink "BranchLayout$Label" 7 "BranchLayout$Label" "next" "I" ∈ zt := zt_in (List.mem_append_right _ (List.mem_of_getElem? (i := 168) (by decide +kernel))) rfl
theorem w_169 : Cond.fieldLink "BranchLayout" 133 "BranchLayout$Label" "next" "I" ∈ zt := zt_in (List.mem_append_right _ (List.mem_of_getElem? (i := 169) (by decide +kernel))) rfl
theorem w_170 : Cond.laysFinal "BranchLayout$Label" "BranchLayout$Label" "next" "I" ∈ zt := zt_in (List.mem_append_right _ (List.mem_of_getElem? (i := 170) (by decide +kernel))) rfl
theorem w_171 : Cond.soleField "BranchLayout$Label" "next" ∈ zt := zt_in (List.mem_append_right _ (List.mem_of_getElem? (i := 171) (by decide +kernel))) rfl
theorem w_172 : Cond.laysFinal "BranchLayout$Label" "BranchLayout$Place" "section" "I" ∈ zt := zt_in (List.mem_append_right _ (List.mem_of_getElem? (i := 172) (by decide +kernel))) rfl
theorem w_173 : Cond.lays "BranchLayout$Label" "BranchLayout$Place" "at" "I" ∈ zt := zt_in (List.mem_append_right _ (List.mem_of_getElem? (i := 173) (by decide +kernel))) rfl
theorem w_174 : Cond.superclass "BranchLayout$Label" "BranchLayout$Place" ∈ zt := zt_in (List.mem_append_right _ (List.mem_of_getElem? (i := 174) (by decide +kernel))) rfl
theorem w_175 : Cond.methodLink "BranchLayoutLaw" 35 ⟨"BranchLayout", "go", "(III)Z"⟩ ∈ zt := zt_in (List.mem_append_right _ (List.mem_of_getElem? (i := 175) (by decide +kernel))) rfl
theorem w_176 : Cond.instanceMethod ⟨"BranchLayout", "go", "(III)Z"⟩ ∈ zt := zt_in (List.mem_append_right _ (List.mem_of_getElem? (i := 176) (by decide +kernel))) rfl
theorem w_177 : Cond.selects "BranchLayout" ⟨"BranchLayout", "go", "(III)Z"⟩ ⟨"BranchLayout", "go", "(III)Z"⟩ ∈ zt := zt_in (List.mem_append_right _ (List.mem_of_getElem? (i := 177) (by decide +kernel))) rfl
theorem w_178 : Cond.code ⟨"BranchLayout", "go", "(III)Z"⟩ prog_1_method_7_code 6 (some FieldType.boolean) ∈ zt := zt_in (List.mem_append_right _ (List.mem_of_getElem? (i := 178) (by decide +kernel))) rfl
theorem w_179 : Cond.methodLink "BranchLayout" 62 ⟨"BranchLayout", "statementNumbered", "(I)LBranchLayout$Statement;"⟩ ∈ zt := zt_in (List.mem_append_right _ (List.mem_of_getElem? (i := 179) (by decide +kernel))) rfl
theorem w_180 : Cond.privateMethod ⟨"BranchLayout", "statementNumbered", "(I)LBranchLayout$Statement;"⟩ ∈ lw_tbl := List.mem_append_right _ (List.mem_of_getElem? (i := 180) (by decide +kernel))
theorem w_181 : Cond.instanceMethod ⟨"BranchLayout", "statementNumbered", "(I)LBranchLayout$Statement;"⟩ ∈ zt := zt_in (List.mem_append_right _ (List.mem_of_getElem? (i := 181) (by decide +kernel))) rfl
theorem w_182 : Cond.code ⟨"BranchLayout", "statementNumbered", "(I)LBranchLayout$Statement;"⟩ prog_1_method_15_code 2 (some (FieldType.object "BranchLayout$Statement")) ∈ zt := zt_in (List.mem_append_right _ (List.mem_of_getElem? (i := 182) (by decide +kernel))) rfl
theorem w_183 : Cond.methodLink "BranchLayout" 66 ⟨"BranchLayout", "placeNamed", "(I)LBranchLayout$Place;"⟩ ∈ zt := zt_in (List.mem_append_right _ (List.mem_of_getElem? (i := 183) (by decide +kernel))) rfl
theorem w_184 : Cond.privateMethod ⟨"BranchLayout", "placeNamed", "(I)LBranchLayout$Place;"⟩ ∈ lw_tbl := List.mem_append_right _ (List.mem_of_getElem? (i := 184) (by decide +kernel))
theorem w_185 : Cond.instanceMethod ⟨"BranchLayout", "placeNamed", "(I)LBranchLayout$Place;"⟩ ∈ zt := zt_in (List.mem_append_right _ (List.mem_of_getElem? (i := 185) (by decide +kernel))) rfl
theorem w_186 : Cond.code ⟨"BranchLayout", "placeNamed", "(I)LBranchLayout$Place;"⟩ prog_1_method_17_code 2 (some (FieldType.object "BranchLayout$Place")) ∈ zt := zt_in (List.mem_append_right _ (List.mem_of_getElem? (i := 186) (by decide +kernel))) rfl
theorem w_187 : Cond.methodLink "BranchLayout" 101 ⟨"BranchLayout", "labelNumbered", "(I)LBranchLayout$Label;"⟩ ∈ zt := zt_in (List.mem_append_right _ (List.mem_of_getElem? (i := 187) (by decide +kernel))) rfl
theorem w_188 : Cond.privateMethod ⟨"BranchLayout", "labelNumbered", "(I)LBranchLayout$Label;"⟩ ∈ lw_tbl := List.mem_append_right _ (List.mem_of_getElem? (i := 188) (by decide +kernel))
theorem w_189 : Cond.instanceMethod ⟨"BranchLayout", "labelNumbered", "(I)LBranchLayout$Label;"⟩ ∈ zt := zt_in (List.mem_append_right _ (List.mem_of_getElem? (i := 189) (by decide +kernel))) rfl
theorem w_190 : Cond.code ⟨"BranchLayout", "labelNumbered", "(I)LBranchLayout$Label;"⟩ prog_1_method_16_code 2 (some (FieldType.object "BranchLayout$Label")) ∈ zt := zt_in (List.mem_append_right _ (List.mem_of_getElem? (i := 190) (by decide +kernel))) rfl
theorem w_191 : Cond.methodLink "BranchLayoutLaw" 40 ⟨"BranchLayout", "relax", "()I"⟩ ∈ zt := zt_in (List.mem_append_right _ (List.mem_of_getElem? (i := 191) (by decide +kernel))) rfl
theorem w_192 : Cond.instanceMethod ⟨"BranchLayout", "relax", "()I"⟩ ∈ zt := zt_in (List.mem_append_right _ (List.mem_of_getElem? (i := 192) (by decide +kernel))) rfl
theorem w_193 : Cond.selects "BranchLayout" ⟨"BranchLayout", "relax", "()I"⟩ ⟨"BranchLayout", "relax", "()I"⟩ ∈ zt := zt_in (List.mem_append_right _ (List.mem_of_getElem? (i := 193) (by decide +kernel))) rfl
theorem w_194 : Cond.code ⟨"BranchLayout", "relax", "()I"⟩ prog_1_method_8_code 2 (some FieldType.int) ∈ zt := zt_in (List.mem_append_right _ (List.mem_of_getElem? (i := 194) (by decide +kernel))) rfl
theorem w_195 : Cond.methodLink "BranchLayout" 83 ⟨"BranchLayout", "shortenAllThatGo", "()V"⟩ ∈ zt := zt_in (List.mem_append_right _ (List.mem_of_getElem? (i := 195) (by decide +kernel))) rfl
theorem w_196 : Cond.privateMethod ⟨"BranchLayout", "shortenAllThatGo", "()V"⟩ ∈ lw_tbl := List.mem_append_right _ (List.mem_of_getElem? (i := 196) (by decide +kernel))
theorem w_197 : Cond.instanceMethod ⟨"BranchLayout", "shortenAllThatGo", "()V"⟩ ∈ zt := zt_in (List.mem_append_right _ (List.mem_of_getElem? (i := 197) (by decide +kernel))) rfl
theorem w_198 : Cond.code ⟨"BranchLayout", "shortenAllThatGo", "()V"⟩ prog_1_method_18_code 4 none ∈ zt := zt_in (List.mem_append_right _ (List.mem_of_getElem? (i := 198) (by decide +kernel))) rfl
theorem w_199 : Cond.methodLink "BranchLayout" 86 ⟨"BranchLayout", "tellPlaces", "()V"⟩ ∈ zt := zt_in (List.mem_append_right _ (List.mem_of_getElem? (i := 199) (by decide +kernel))) rfl
theorem w_200 : Cond.privateMethod ⟨"BranchLayout", "tellPlaces", "()V"⟩ ∈ lw_tbl := List.mem_append_right _ (List.mem_of_getElem? (i := 200) (by decide +kernel))
theorem w_201 : Cond.instanceMethod ⟨"BranchLayout", "tellPlaces", "()V"⟩ ∈ zt := zt_in (List.mem_append_right _ (List.mem_of_getElem? (i := 201) (by decide +kernel))) rfl
theorem w_202 : Cond.code ⟨"BranchLayout", "tellPlaces", "()V"⟩ prog_1_method_19_code 3 none ∈ zt := zt_in (List.mem_append_right _ (List.mem_of_getElem? (i := 202) (by decide +kernel))) rfl
theorem w_203 : Cond.methodLink "BranchLayout" 117 ⟨"BranchLayout", "tellLabelsBefore", "(II)I"⟩ ∈ zt := zt_in (List.mem_append_right _ (List.mem_of_getElem? (i := 203) (by decide +kernel))) rfl
theorem w_204 : Cond.privateMethod ⟨"BranchLayout", "tellLabelsBefore", "(II)I"⟩ ∈ lw_tbl := List.mem_append_right _ (List.mem_of_getElem? (i := 204) (by decide +kernel))
theorem w_205 : Cond.instanceMethod ⟨"BranchLayout", "tellLabelsBefore", "(II)I"⟩ ∈ zt := zt_in (List.mem_append_right _ (List.mem_of_getElem? (i := 205) (by decide +kernel))) rfl
theorem w_206 : Cond.code ⟨"BranchLayout", "tellLabelsBefore", "(II)I"⟩ prog_1_method_21_code 4 (some FieldType.int) ∈ zt := zt_in (List.mem_append_right _ (List.mem_of_getElem? (i := 206) (by decide +kernel))) rfl
theorem w_207 : Cond.methodLink "BranchLayout" 121 ⟨"BranchLayout", "tellStatement", "(LBranchLayout$Statement;)V"⟩ ∈ zt := zt_in (List.mem_append_right _ (List.mem_of_getElem? (i := 207) (by decide +kernel))) rfl
theorem w_208 : Cond.privateMethod ⟨"BranchLayout", "tellStatement", "(LBranchLayout$Statement;)V"⟩ ∈ lw_tbl := List.mem_append_right _ (List.mem_of_getElem? (i := 208) (by decide +kernel))
theorem w_209 : Cond.instanceMethod ⟨"BranchLayout", "tellStatement", "(LBranchLayout$Statement;)V"⟩ ∈ zt := zt_in (List.mem_append_right _ (List.mem_of_getElem? (i := 209) (by decide +kernel))) rfl
theorem w_210 : Cond.code ⟨"BranchLayout", "tellStatement", "(LBranchLayout$Statement;)V"⟩ prog_1_method_20_code 2 none ∈ zt := zt_in (List.mem_append_right _ (List.mem_of_getElem? (i := 210) (by decide +kernel))) rfl
theorem w_211 : Cond.methodLink "BranchLayout" 127 ⟨"BranchLayout$Statement", "lengthFrom", "(I)I"⟩ ∈ zt := zt_in (List.mem_append_right _ (List.mem_of_getElem? (i := 211) (by decide +kernel))) rfl
theorem w_212 : Cond.declares ⟨"BranchLayout$Statement", "lengthFrom", "(I)I"⟩ ∈ lw_tbl := List.mem_append_right _ (List.mem_of_getElem? (i := 212) (by decide +kernel))
theorem w_213 : Cond.sameMethod "BranchLayout$Statement" "BranchLayout$Statement" "lengthFrom" "(I)I" ∈ zt := zt_in (List.mem_append_right _ (List.mem_of_getElem? (i := 213) (by decide +kernel))) rfl
theorem w_214 : Cond.selects "BranchLayout$Alignment" ⟨"BranchLayout$Statement", "lengthFrom", "(I)I"⟩ ⟨"BranchLayout$Alignment", "lengthFrom", "(I)I"⟩ ∈ zt := zt_in (List.mem_append_right _ (List.mem_of_getElem? (i := 214) (by decide +kernel))) rfl
theorem w_215 : Cond.instanceMethod ⟨"BranchLayout$Alignment", "lengthFrom", "(I)I"⟩ ∈ zt := zt_in (List.mem_append_right _ (List.mem_of_getElem? (i := 215) (by decide +kernel))) rfl
theorem w_216 : Cond.code ⟨"BranchLayout$Alignment", "lengthFrom", "(I)I"⟩ prog_2_method_2_code 2 (some FieldType.int) ∈ zt := zt_in (List.mem_append_right _ (List.mem_of_getElem? (i := 216) (by decide +kernel))) rfl
theorem w_217 : Cond.selects "BranchLayout$Branch" ⟨"BranchLayout$Statement", "lengthFrom", "(I)I"⟩ ⟨"BranchLayout$Branch", "lengthFrom", "(I)I"⟩ ∈ zt := zt_in (List.mem_append_right _ (List.mem_of_getElem? (i := 217) (by decide +kernel))) rfl
theorem w_218 : Cond.instanceMethod ⟨"BranchLayout$Branch", "lengthFrom", "(I)I"⟩ ∈ zt := zt_in (List.mem_append_right _ (List.mem_of_getElem? (i := 218) (by decide +kernel))) rfl
theorem w_219 : Cond.code ⟨"BranchLayout$Branch", "lengthFrom", "(I)I"⟩ prog_3_method_2_code 2 (some FieldType.int) ∈ zt := zt_in (List.mem_append_right _ (List.mem_of_getElem? (i := 219) (by decide +kernel))) rfl
theorem w_220 : Cond.selects "BranchLayout$Bytes" ⟨"BranchLayout$Statement", "lengthFrom", "(I)I"⟩ ⟨"BranchLayout$Bytes", "lengthFrom", "(I)I"⟩ ∈ zt := zt_in (List.mem_append_right _ (List.mem_of_getElem? (i := 220) (by decide +kernel))) rfl
theorem w_221 : Cond.instanceMethod ⟨"BranchLayout$Bytes", "lengthFrom", "(I)I"⟩ ∈ zt := zt_in (List.mem_append_right _ (List.mem_of_getElem? (i := 221) (by decide +kernel))) rfl
theorem w_222 : Cond.code ⟨"BranchLayout$Bytes", "lengthFrom", "(I)I"⟩ prog_4_method_2_code 2 (some FieldType.int) ∈ zt := zt_in (List.mem_append_right _ (List.mem_of_getElem? (i := 222) (by decide +kernel))) rfl
theorem w_223 : Cond.methodLink "BranchLayout" 89 ⟨"BranchLayout", "lengthenAllTooFar", "()Z"⟩ ∈ zt := zt_in (List.mem_append_right _ (List.mem_of_getElem? (i := 223) (by decide +kernel))) rfl
theorem w_224 : Cond.privateMethod ⟨"BranchLayout", "lengthenAllTooFar", "()Z"⟩ ∈ lw_tbl := List.mem_append_right _ (List.mem_of_getElem? (i := 224) (by decide +kernel))
theorem w_225 : Cond.instanceMethod ⟨"BranchLayout", "lengthenAllTooFar", "()Z"⟩ ∈ zt := zt_in (List.mem_append_right _ (List.mem_of_getElem? (i := 225) (by decide +kernel))) rfl
theorem w_226 : Cond.code ⟨"BranchLayout", "lengthenAllTooFar", "()Z"⟩ prog_1_method_22_code 5 (some FieldType.boolean) ∈ zt := zt_in (List.mem_append_right _ (List.mem_of_getElem? (i := 226) (by decide +kernel))) rfl
theorem w_227 : Cond.methodLink "BranchLayout" 137 ⟨"BranchLayout$Branch", "lengthenIfTooFar", "()Z"⟩ ∈ zt := zt_in (List.mem_append_right _ (List.mem_of_getElem? (i := 227) (by decide +kernel))) rfl
theorem w_228 : Cond.instanceMethod ⟨"BranchLayout$Branch", "lengthenIfTooFar", "()Z"⟩ ∈ zt := zt_in (List.mem_append_right _ (List.mem_of_getElem? (i := 228) (by decide +kernel))) rfl
theorem w_229 : Cond.selects "BranchLayout$Branch" ⟨"BranchLayout$Branch", "lengthenIfTooFar", "()Z"⟩ ⟨"BranchLayout$Branch", "lengthenIfTooFar", "()Z"⟩ ∈ zt := zt_in (List.mem_append_right _ (List.mem_of_getElem? (i := 229) (by decide +kernel))) rfl
theorem w_230 : Cond.code ⟨"BranchLayout$Branch", "lengthenIfTooFar", "()Z"⟩ prog_3_method_4_code 3 (some FieldType.boolean) ∈ zt := zt_in (List.mem_append_right _ (List.mem_of_getElem? (i := 230) (by decide +kernel))) rfl
theorem w_231 : Cond.constantLong "BranchLayout$Branch" 42 (-128) ∈ zt := zt_in (List.mem_append_right _ (List.mem_of_getElem? (i := 231) (by decide +kernel))) rfl
theorem w_232 : Cond.constantLong "BranchLayout$Branch" 44 127 ∈ zt := zt_in (List.mem_append_right _ (List.mem_of_getElem? (i := 232) (by decide +kernel))) rfl
theorem w_233 : Cond.methodLink "BranchLayout" 93 ⟨"BranchLayout", "countLong", "()I"⟩ ∈ zt := zt_in (List.mem_append_right _ (List.mem_of_getElem? (i := 233) (by decide +kernel))) rfl
theorem w_234 : Cond.privateMethod ⟨"BranchLayout", "countLong", "()I"⟩ ∈ lw_tbl := List.mem_append_right _ (List.mem_of_getElem? (i := 234) (by decide +kernel))
theorem w_235 : Cond.instanceMethod ⟨"BranchLayout", "countLong", "()I"⟩ ∈ zt := zt_in (List.mem_append_right _ (List.mem_of_getElem? (i := 235) (by decide +kernel))) rfl
theorem w_236 : Cond.code ⟨"BranchLayout", "countLong", "()I"⟩ prog_1_method_23_code 5 (some FieldType.int) ∈ zt := zt_in (List.mem_append_right _ (List.mem_of_getElem? (i := 236) (by decide +kernel))) rfl
theorem w_237 : Cond.methodLink "BranchLayoutLaw" 45 ⟨"BranchLayout", "statement", "(II)I"⟩ ∈ zt := zt_in (List.mem_append_right _ (List.mem_of_getElem? (i := 237) (by decide +kernel))) rfl
theorem w_238 : Cond.instanceMethod ⟨"BranchLayout", "statement", "(II)I"⟩ ∈ zt := zt_in (List.mem_append_right _ (List.mem_of_getElem? (i := 238) (by decide +kernel))) rfl
theorem w_239 : Cond.selects "BranchLayout" ⟨"BranchLayout", "statement", "(II)I"⟩ ⟨"BranchLayout", "statement", "(II)I"⟩ ∈ zt := zt_in (List.mem_append_right _ (List.mem_of_getElem? (i := 239) (by decide +kernel))) rfl
theorem w_240 : Cond.code ⟨"BranchLayout", "statement", "(II)I"⟩ prog_1_method_9_code 4 (some FieldType.int) ∈ zt := zt_in (List.mem_append_right _ (List.mem_of_getElem? (i := 240) (by decide +kernel))) rfl
theorem w_241 : Cond.methodLink "BranchLayout" 97 ⟨"BranchLayout$Statement", "fact", "(I)I"⟩ ∈ zt := zt_in (List.mem_append_right _ (List.mem_of_getElem? (i := 241) (by decide +kernel))) rfl
theorem w_242 : Cond.instanceMethod ⟨"BranchLayout$Statement", "fact", "(I)I"⟩ ∈ zt := zt_in (List.mem_append_right _ (List.mem_of_getElem? (i := 242) (by decide +kernel))) rfl
theorem w_243 : Cond.sameMethod "BranchLayout$Statement" "BranchLayout$Statement" "fact" "(I)I" ∈ zt := zt_in (List.mem_append_right _ (List.mem_of_getElem? (i := 243) (by decide +kernel))) rfl
theorem w_244 : Cond.selects "BranchLayout$Alignment" ⟨"BranchLayout$Statement", "fact", "(I)I"⟩ ⟨"BranchLayout$Statement", "fact", "(I)I"⟩ ∈ zt := zt_in (List.mem_append_right _ (List.mem_of_getElem? (i := 244) (by decide +kernel))) rfl
theorem w_245 : Cond.selects "BranchLayout$Branch" ⟨"BranchLayout$Statement", "fact", "(I)I"⟩ ⟨"BranchLayout$Branch", "fact", "(I)I"⟩ ∈ zt := zt_in (List.mem_append_right _ (List.mem_of_getElem? (i := 245) (by decide +kernel))) rfl
theorem w_246 : Cond.instanceMethod ⟨"BranchLayout$Branch", "fact", "(I)I"⟩ ∈ zt := zt_in (List.mem_append_right _ (List.mem_of_getElem? (i := 246) (by decide +kernel))) rfl
theorem w_247 : Cond.code ⟨"BranchLayout$Branch", "fact", "(I)I"⟩ prog_3_method_3_code 2 (some FieldType.int) ∈ zt := zt_in (List.mem_append_right _ (List.mem_of_getElem? (i := 247) (by decide +kernel))) rfl
theorem w_248 : Cond.methodLink "BranchLayout$Branch" 22 ⟨"BranchLayout$Statement", "fact", "(I)I"⟩ ∈ zt := zt_in (List.mem_append_right _ (List.mem_of_getElem? (i := 248) (by decide +kernel))) rfl
theorem w_249 : Cond.selects "BranchLayout$Bytes" ⟨"BranchLayout$Statement", "fact", "(I)I"⟩ ⟨"BranchLayout$Statement", "fact", "(I)I"⟩ ∈ zt := zt_in (List.mem_append_right _ (List.mem_of_getElem? (i := 249) (by decide +kernel))) rfl
theorem w_250 : Cond.code ⟨"BranchLayout$Statement", "fact", "(I)I"⟩ prog_7_method_3_code 2 (some FieldType.int) ∈ zt := zt_in (List.mem_append_right _ (List.mem_of_getElem? (i := 250) (by decide +kernel))) rfl
theorem w_251 : Cond.methodLink "BranchLayoutLaw" 49 ⟨"BranchLayout", "place", "(I)I"⟩ ∈ zt := zt_in (List.mem_append_right _ (List.mem_of_getElem? (i := 251) (by decide +kernel))) rfl
theorem w_252 : Cond.instanceMethod ⟨"BranchLayout", "place", "(I)I"⟩ ∈ zt := zt_in (List.mem_append_right _ (List.mem_of_getElem? (i := 252) (by decide +kernel))) rfl
theorem w_253 : Cond.selects "BranchLayout" ⟨"BranchLayout", "place", "(I)I"⟩ ⟨"BranchLayout", "place", "(I)I"⟩ ∈ zt := zt_in (List.mem_append_right _ (List.mem_of_getElem? (i := 253) (by decide +kernel))) rfl
theorem w_254 : Cond.code ⟨"BranchLayout", "place", "(I)I"⟩ prog_1_method_10_code 3 (some FieldType.int) ∈ zt := zt_in (List.mem_append_right _ (List.mem_of_getElem? (i := 254) (by decide +kernel))) rfl
theorem w_255 : Cond.methodLink "BranchLayoutLaw" 53 ⟨"BranchLayout", "size", "(I)I"⟩ ∈ zt := zt_in (List.mem_append_right _ (List.mem_of_getElem? (i := 255) (by decide +kernel))) rfl
theorem w_256 : Cond.instanceMethod ⟨"BranchLayout", "size", "(I)I"⟩ ∈ zt := zt_in (List.mem_append_right _ (List.mem_of_getElem? (i := 256) (by decide +kernel))) rfl
theorem w_257 : Cond.selects "BranchLayout" ⟨"BranchLayout", "size", "(I)I"⟩ ⟨"BranchLayout", "size", "(I)I"⟩ ∈ zt := zt_in (List.mem_append_right _ (List.mem_of_getElem? (i := 257) (by decide +kernel))) rfl
theorem w_258 : Cond.code ⟨"BranchLayout", "size", "(I)I"⟩ prog_1_method_11_code 2 (some FieldType.int) ∈ zt := zt_in (List.mem_append_right _ (List.mem_of_getElem? (i := 258) (by decide +kernel))) rfl
theorem w_259 : Cond.classLink "BranchLayoutLaw" 10 "BranchLayoutModel" ∈ zt := zt_in (List.mem_append_right _ (List.mem_of_getElem? (i := 259) (by decide +kernel))) rfl
theorem w_260 : Cond.instantiable "BranchLayoutModel" 17 ∈ zt := zt_in (List.mem_append_right _ (List.mem_of_getElem? (i := 260) (by decide +kernel))) rfl
theorem w_261 : Cond.methodLink "BranchLayoutLaw" 12 ⟨"BranchLayoutModel", "<init>", "()V"⟩ ∈ zt := zt_in (List.mem_append_right _ (List.mem_of_getElem? (i := 261) (by decide +kernel))) rfl
theorem w_262 : Cond.instanceMethod ⟨"BranchLayoutModel", "<init>", "()V"⟩ ∈ zt := zt_in (List.mem_append_right _ (List.mem_of_getElem? (i := 262) (by decide +kernel))) rfl
theorem w_263 : Cond.code ⟨"BranchLayoutModel", "<init>", "()V"⟩ prog_9_method_1_code 1 none ∈ zt := zt_in (List.mem_append_right _ (List.mem_of_getElem? (i := 263) (by decide +kernel))) rfl
theorem w_264 : Cond.methodLink "BranchLayoutModel" 1 ⟨"java/lang/Object", "<init>", "()V"⟩ ∈ zt := zt_in (List.mem_append_right _ (List.mem_of_getElem? (i := 264) (by decide +kernel))) rfl
theorem w_265 : Cond.fieldLink "BranchLayoutModel" 53 "BranchLayoutModel" "thrown" "I" ∈ zt := zt_in (List.mem_append_right _ (List.mem_of_getElem? (i := 265) (by decide +kernel))) rfl
theorem w_266 : Cond.fieldLink "BranchLayoutModel" 57 "BranchLayoutModel" "statements" "I" ∈ zt := zt_in (List.mem_append_right _ (List.mem_of_getElem? (i := 266) (by decide +kernel))) rfl
theorem w_267 : Cond.fieldLink "BranchLayoutModel" 60 "BranchLayoutModel" "labels" "I" ∈ zt := zt_in (List.mem_append_right _ (List.mem_of_getElem? (i := 267) (by decide +kernel))) rfl
theorem w_268 : Cond.fieldLink "BranchLayoutModel" 7 "BranchLayoutModel" "kind" "[I" ∈ zt := zt_in (List.mem_append_right _ (List.mem_of_getElem? (i := 268) (by decide +kernel))) rfl
theorem w_269 : Cond.fieldLink "BranchLayoutModel" 13 "BranchLayoutModel" "section" "[I" ∈ zt := zt_in (List.mem_append_right _ (List.mem_of_getElem? (i := 269) (by decide +kernel))) rfl
theorem w_270 : Cond.fieldLink "BranchLayoutModel" 16 "BranchLayoutModel" "amount" "[I" ∈ zt := zt_in (List.mem_append_right _ (List.mem_of_getElem? (i := 270) (by decide +kernel))) rfl
theorem w_271 : Cond.fieldLink "BranchLayoutModel" 19 "BranchLayoutModel" "goal" "[I" ∈ zt := zt_in (List.mem_append_right _ (List.mem_of_getElem? (i := 271) (by decide +kernel))) rfl
theorem w_272 : Cond.fieldLink "BranchLayoutModel" 22 "BranchLayoutModel" "more" "[I" ∈ zt := zt_in (List.mem_append_right _ (List.mem_of_getElem? (i := 272) (by decide +kernel))) rfl
theorem w_273 : Cond.fieldLink "BranchLayoutModel" 25 "BranchLayoutModel" "labelSection" "[I" ∈ zt := zt_in (List.mem_append_right _ (List.mem_of_getElem? (i := 273) (by decide +kernel))) rfl
theorem w_274 : Cond.fieldLink "BranchLayoutModel" 28 "BranchLayoutModel" "labelAhead" "[I" ∈ zt := zt_in (List.mem_append_right _ (List.mem_of_getElem? (i := 274) (by decide +kernel))) rfl
theorem w_275 : Cond.fieldLink "BranchLayoutModel" 31 "BranchLayoutModel" "brief" "[Z" ∈ zt := zt_in (List.mem_append_right _ (List.mem_of_getElem? (i := 275) (by decide +kernel))) rfl
theorem w_276 : Cond.fieldLink "BranchLayoutModel" 35 "BranchLayoutModel" "at" "[I" ∈ zt := zt_in (List.mem_append_right _ (List.mem_of_getElem? (i := 276) (by decide +kernel))) rfl
theorem w_277 : Cond.fieldLink "BranchLayoutModel" 38 "BranchLayoutModel" "size" "[I" ∈ zt := zt_in (List.mem_append_right _ (List.mem_of_getElem? (i := 277) (by decide +kernel))) rfl
theorem w_278 : Cond.fieldLink "BranchLayoutModel" 41 "BranchLayoutModel" "far" "[I" ∈ zt := zt_in (List.mem_append_right _ (List.mem_of_getElem? (i := 278) (by decide +kernel))) rfl
theorem w_279 : Cond.fieldLink "BranchLayoutModel" 44 "BranchLayoutModel" "labelPlace" "[I" ∈ zt := zt_in (List.mem_append_right _ (List.mem_of_getElem? (i := 279) (by decide +kernel))) rfl
theorem w_280 : Cond.fieldLink "BranchLayoutModel" 47 "BranchLayoutModel" "sectionSize" "[I" ∈ zt := zt_in (List.mem_append_right _ (List.mem_of_getElem? (i := 280) (by decide +kernel))) rfl
theorem w_281 : Cond.fieldLink "BranchLayoutModel" 50 "BranchLayoutModel" "laidShort" "[Z" ∈ zt := zt_in (List.mem_append_right _ (List.mem_of_getElem? (i := 281) (by decide +kernel))) rfl
theorem w_282 : Cond.lays "BranchLayoutModel" "BranchLayoutModel" "thrown" "I" ∈ zt := zt_in (List.mem_append_right _ (List.mem_of_getElem? (i := 282) (by decide +kernel))) rfl
theorem w_283 : Cond.soleField "BranchLayoutModel" "thrown" ∈ zt := zt_in (List.mem_append_right _ (List.mem_of_getElem? (i := 283) (by decide +kernel))) rfl
theorem w_284 : Cond.lays "BranchLayoutModel" "BranchLayoutModel" "statements" "I" ∈ zt := zt_in (List.mem_append_right _ (List.mem_of_getElem? (i := 284) (by decide +kernel))) rfl
theorem w_285 : Cond.soleField "BranchLayoutModel" "statements" ∈ zt := zt_in (List.mem_append_right _ (List.mem_of_getElem? (i := 285) (by decide +kernel))) rfl
theorem w_286 : Cond.lays "BranchLayoutModel" "BranchLayoutModel" "labels" "I" ∈ zt := zt_in (List.mem_append_right _ (List.mem_of_getElem? (i := 286) (by decide +kernel))) rfl
theorem w_287 : Cond.soleField "BranchLayoutModel" "labels" ∈ zt := zt_in (List.mem_append_right _ (List.mem_of_getElem? (i := 287) (by decide +kernel))) rfl
theorem w_288 : Cond.laysFinal "BranchLayoutModel" "BranchLayoutModel" "kind" "[I" ∈ zt := zt_in (List.mem_append_right _ (List.mem_of_getElem? (i := 288) (by decide +kernel))) rfl
theorem w_289 : Cond.soleField "BranchLayoutModel" "kind" ∈ zt := zt_in (List.mem_append_right _ (List.mem_of_getElem? (i := 289) (by decide +kernel))) rfl
theorem w_290 : Cond.laysFinal "BranchLayoutModel" "BranchLayoutModel" "section" "[I" ∈ zt := zt_in (List.mem_append_right _ (List.mem_of_getElem? (i := 290) (by decide +kernel))) rfl
theorem w_291 : Cond.soleField "BranchLayoutModel" "section" ∈ zt := zt_in (List.mem_append_right _ (List.mem_of_getElem? (i := 291) (by decide +kernel))) rfl
theorem w_292 : Cond.laysFinal "BranchLayoutModel" "BranchLayoutModel" "amount" "[I" ∈ zt := zt_in (List.mem_append_right _ (List.mem_of_getElem? (i := 292) (by decide +kernel))) rfl
theorem w_293 : Cond.soleField "BranchLayoutModel" "amount" ∈ zt := zt_in (List.mem_append_right _ (List.mem_of_getElem? (i := 293) (by decide +kernel))) rfl
theorem w_294 : Cond.laysFinal "BranchLayoutModel" "BranchLayoutModel" "goal" "[I" ∈ zt := zt_in (List.mem_append_right _ (List.mem_of_getElem? (i := 294) (by decide +kernel))) rfl
theorem w_295 : Cond.soleField "BranchLayoutModel" "goal" ∈ zt := zt_in (List.mem_append_right _ (List.mem_of_getElem? (i := 295) (by decide +kernel))) rfl
theorem w_296 : Cond.laysFinal "BranchLayoutModel" "BranchLayoutModel" "more" "[I" ∈ zt := zt_in (List.mem_append_right _ (List.mem_of_getElem? (i := 296) (by decide +kernel))) rfl
theorem w_297 : Cond.soleField "BranchLayoutModel" "more" ∈ zt := zt_in (List.mem_append_right _ (List.mem_of_getElem? (i := 297) (by decide +kernel))) rfl
theorem w_298 : Cond.laysFinal "BranchLayoutModel" "BranchLayoutModel" "labelSection" "[I" ∈ zt := zt_in (List.mem_append_right _ (List.mem_of_getElem? (i := 298) (by decide +kernel))) rfl
theorem w_299 : Cond.soleField "BranchLayoutModel" "labelSection" ∈ zt := zt_in (List.mem_append_right _ (List.mem_of_getElem? (i := 299) (by decide +kernel))) rfl
theorem w_300 : Cond.laysFinal "BranchLayoutModel" "BranchLayoutModel" "labelAhead" "[I" ∈ zt := zt_in (List.mem_append_right _ (List.mem_of_getElem? (i := 300) (by decide +kernel))) rfl
theorem w_301 : Cond.soleField "BranchLayoutModel" "labelAhead" ∈ zt := zt_in (List.mem_append_right _ (List.mem_of_getElem? (i := 301) (by decide +kernel))) rfl
theorem w_302 : Cond.laysFinal "BranchLayoutModel" "BranchLayoutModel" "brief" "[Z" ∈ zt := zt_in (List.mem_append_right _ (List.mem_of_getElem? (i := 302) (by decide +kernel))) rfl
theorem w_303 : Cond.soleField "BranchLayoutModel" "brief" ∈ zt := zt_in (List.mem_append_right _ (List.mem_of_getElem? (i := 303) (by decide +kernel))) rfl
theorem w_304 : Cond.laysFinal "BranchLayoutModel" "BranchLayoutModel" "at" "[I" ∈ zt := zt_in (List.mem_append_right _ (List.mem_of_getElem? (i := 304) (by decide +kernel))) rfl
theorem w_305 : Cond.soleField "BranchLayoutModel" "at" ∈ zt := zt_in (List.mem_append_right _ (List.mem_of_getElem? (i := 305) (by decide +kernel))) rfl
theorem w_306 : Cond.laysFinal "BranchLayoutModel" "BranchLayoutModel" "size" "[I" ∈ zt := zt_in (List.mem_append_right _ (List.mem_of_getElem? (i := 306) (by decide +kernel))) rfl
theorem w_307 : Cond.soleField "BranchLayoutModel" "size" ∈ zt := zt_in (List.mem_append_right _ (List.mem_of_getElem? (i := 307) (by decide +kernel))) rfl
theorem w_308 : Cond.laysFinal "BranchLayoutModel" "BranchLayoutModel" "far" "[I" ∈ zt := zt_in (List.mem_append_right _ (List.mem_of_getElem? (i := 308) (by decide +kernel))) rfl
theorem w_309 : Cond.soleField "BranchLayoutModel" "far" ∈ zt := zt_in (List.mem_append_right _ (List.mem_of_getElem? (i := 309) (by decide +kernel))) rfl
theorem w_310 : Cond.laysFinal "BranchLayoutModel" "BranchLayoutModel" "labelPlace" "[I" ∈ zt := zt_in (List.mem_append_right _ (List.mem_of_getElem? (i := 310) (by decide +kernel))) rfl
theorem w_311 : Cond.soleField "BranchLayoutModel" "labelPlace" ∈ zt := zt_in (List.mem_append_right _ (List.mem_of_getElem? (i := 311) (by decide +kernel))) rfl
theorem w_312 : Cond.laysFinal "BranchLayoutModel" "BranchLayoutModel" "sectionSize" "[I" ∈ zt := zt_in (List.mem_append_right _ (List.mem_of_getElem? (i := 312) (by decide +kernel))) rfl
theorem w_313 : Cond.soleField "BranchLayoutModel" "sectionSize" ∈ zt := zt_in (List.mem_append_right _ (List.mem_of_getElem? (i := 313) (by decide +kernel))) rfl
theorem w_314 : Cond.laysFinal "BranchLayoutModel" "BranchLayoutModel" "laidShort" "[Z" ∈ zt := zt_in (List.mem_append_right _ (List.mem_of_getElem? (i := 314) (by decide +kernel))) rfl
theorem w_315 : Cond.soleField "BranchLayoutModel" "laidShort" ∈ zt := zt_in (List.mem_append_right _ (List.mem_of_getElem? (i := 315) (by decide +kernel))) rfl
theorem w_316 : Cond.superclass "BranchLayoutModel" "java/lang/Object" ∈ zt := zt_in (List.mem_append_right _ (List.mem_of_getElem? (i := 316) (by decide +kernel))) rfl
theorem w_317 : Cond.arrayClass FieldType.boolean ∈ zt := zt_in (List.mem_append_right _ (List.mem_of_getElem? (i := 317) (by decide +kernel))) rfl
theorem w_318 : Cond.methodLink "BranchLayoutLaw" 16 ⟨"BranchLayoutModel", "clear", "()V"⟩ ∈ zt := zt_in (List.mem_append_right _ (List.mem_of_getElem? (i := 318) (by decide +kernel))) rfl
theorem w_319 : Cond.instanceMethod ⟨"BranchLayoutModel", "clear", "()V"⟩ ∈ zt := zt_in (List.mem_append_right _ (List.mem_of_getElem? (i := 319) (by decide +kernel))) rfl
theorem w_320 : Cond.selects "BranchLayoutModel" ⟨"BranchLayoutModel", "clear", "()V"⟩ ⟨"BranchLayoutModel", "clear", "()V"⟩ ∈ zt := zt_in (List.mem_append_right _ (List.mem_of_getElem? (i := 320) (by decide +kernel))) rfl
theorem w_321 : Cond.code ⟨"BranchLayoutModel", "clear", "()V"⟩ prog_9_method_3_code 2 none ∈ zt := zt_in (List.mem_append_right _ (List.mem_of_getElem? (i := 321) (by decide +kernel))) rfl
theorem w_322 : Cond.methodLink "BranchLayoutLaw" 21 ⟨"BranchLayoutModel", "bytes", "(II)I"⟩ ∈ zt := zt_in (List.mem_append_right _ (List.mem_of_getElem? (i := 322) (by decide +kernel))) rfl
theorem w_323 : Cond.instanceMethod ⟨"BranchLayoutModel", "bytes", "(II)I"⟩ ∈ zt := zt_in (List.mem_append_right _ (List.mem_of_getElem? (i := 323) (by decide +kernel))) rfl
theorem w_324 : Cond.selects "BranchLayoutModel" ⟨"BranchLayoutModel", "bytes", "(II)I"⟩ ⟨"BranchLayoutModel", "bytes", "(II)I"⟩ ∈ zt := zt_in (List.mem_append_right _ (List.mem_of_getElem? (i := 324) (by decide +kernel))) rfl
theorem w_325 : Cond.code ⟨"BranchLayoutModel", "bytes", "(II)I"⟩ prog_9_method_5_code 3 (some FieldType.int) ∈ zt := zt_in (List.mem_append_right _ (List.mem_of_getElem? (i := 325) (by decide +kernel))) rfl
theorem w_326 : Cond.constant "BranchLayoutModel" 63 65536 ∈ zt := zt_in (List.mem_append_right _ (List.mem_of_getElem? (i := 326) (by decide +kernel))) rfl
theorem w_327 : Cond.methodLink "BranchLayoutModel" 64 ⟨"BranchLayoutModel", "add", "(IIIZ)I"⟩ ∈ zt := zt_in (List.mem_append_right _ (List.mem_of_getElem? (i := 327) (by decide +kernel))) rfl
theorem w_328 : Cond.privateMethod ⟨"BranchLayoutModel", "add", "(IIIZ)I"⟩ ∈ lw_tbl := List.mem_append_right _ (List.mem_of_getElem? (i := 328) (by decide +kernel))
theorem w_329 : Cond.instanceMethod ⟨"BranchLayoutModel", "add", "(IIIZ)I"⟩ ∈ zt := zt_in (List.mem_append_right _ (List.mem_of_getElem? (i := 329) (by decide +kernel))) rfl
theorem w_330 : Cond.code ⟨"BranchLayoutModel", "add", "(IIIZ)I"⟩ prog_9_method_4_code 6 (some FieldType.int) ∈ zt := zt_in (List.mem_append_right _ (List.mem_of_getElem? (i := 330) (by decide +kernel))) rfl
theorem w_331 : Cond.methodLink "BranchLayoutLaw" 25 ⟨"BranchLayoutModel", "align", "(II)I"⟩ ∈ zt := zt_in (List.mem_append_right _ (List.mem_of_getElem? (i := 331) (by decide +kernel))) rfl
theorem w_332 : Cond.instanceMethod ⟨"BranchLayoutModel", "align", "(II)I"⟩ ∈ zt := zt_in (List.mem_append_right _ (List.mem_of_getElem? (i := 332) (by decide +kernel))) rfl
theorem w_333 : Cond.selects "BranchLayoutModel" ⟨"BranchLayoutModel", "align", "(II)I"⟩ ⟨"BranchLayoutModel", "align", "(II)I"⟩ ∈ zt := zt_in (List.mem_append_right _ (List.mem_of_getElem? (i := 333) (by decide +kernel))) rfl
theorem w_334 : Cond.code ⟨"BranchLayoutModel", "align", "(II)I"⟩ prog_9_method_6_code 3 (some FieldType.int) ∈ zt := zt_in (List.mem_append_right _ (List.mem_of_getElem? (i := 334) (by decide +kernel))) rfl
theorem w_335 : Cond.methodLink "BranchLayoutLaw" 29 ⟨"BranchLayoutModel", "branch", "(II)I"⟩ ∈ zt := zt_in (List.mem_append_right _ (List.mem_of_getElem? (i := 335) (by decide +kernel))) rfl
theorem w_336 : Cond.instanceMethod ⟨"BranchLayoutModel", "branch", "(II)I"⟩ ∈ zt := zt_in (List.mem_append_right _ (List.mem_of_getElem? (i := 336) (by decide +kernel))) rfl
theorem w_337 : Cond.selects "BranchLayoutModel" ⟨"BranchLayoutModel", "branch", "(II)I"⟩ ⟨"BranchLayoutModel", "branch", "(II)I"⟩ ∈ zt := zt_in (List.mem_append_right _ (List.mem_of_getElem? (i := 337) (by decide +kernel))) rfl
theorem w_338 : Cond.code ⟨"BranchLayoutModel", "branch", "(II)I"⟩ prog_9_method_7_code 3 (some FieldType.int) ∈ zt := zt_in (List.mem_append_right _ (List.mem_of_getElem? (i := 338) (by decide +kernel))) rfl
theorem w_339 : Cond.methodLink "BranchLayoutLaw" 34 ⟨"BranchLayoutModel", "label", "(I)I"⟩ ∈ zt := zt_in (List.mem_append_right _ (List.mem_of_getElem? (i := 339) (by decide +kernel))) rfl
theorem w_340 : Cond.instanceMethod ⟨"BranchLayoutModel", "label", "(I)I"⟩ ∈ zt := zt_in (List.mem_append_right _ (List.mem_of_getElem? (i := 340) (by decide +kernel))) rfl
theorem w_341 : Cond.selects "BranchLayoutModel" ⟨"BranchLayoutModel", "label", "(I)I"⟩ ⟨"BranchLayoutModel", "label", "(I)I"⟩ ∈ zt := zt_in (List.mem_append_right _ (List.mem_of_getElem? (i := 341) (by decide +kernel))) rfl
theorem w_342 : Cond.code ⟨"BranchLayoutModel", "label", "(I)I"⟩ prog_9_method_8_code 2 (some FieldType.int) ∈ zt := zt_in (List.mem_append_right _ (List.mem_of_getElem? (i := 342) (by decide +kernel))) rfl
theorem w_343 : Cond.methodLink "BranchLayoutLaw" 39 ⟨"BranchLayoutModel", "go", "(III)Z"⟩ ∈ zt := zt_in (List.mem_append_right _ (List.mem_of_getElem? (i := 343) (by decide +kernel))) rfl
theorem w_344 : Cond.instanceMethod ⟨"BranchLayoutModel", "go", "(III)Z"⟩ ∈ zt := zt_in (List.mem_append_right _ (List.mem_of_getElem? (i := 344) (by decide +kernel))) rfl
theorem w_345 : Cond.selects "BranchLayoutModel" ⟨"BranchLayoutModel", "go", "(III)Z"⟩ ⟨"BranchLayoutModel", "go", "(III)Z"⟩ ∈ zt := zt_in (List.mem_append_right _ (List.mem_of_getElem? (i := 345) (by decide +kernel))) rfl
theorem w_346 : Cond.code ⟨"BranchLayoutModel", "go", "(III)Z"⟩ prog_9_method_9_code 6 (some FieldType.boolean) ∈ zt := zt_in (List.mem_append_right _ (List.mem_of_getElem? (i := 346) (by decide +kernel))) rfl
theorem w_347 : Cond.methodLink "BranchLayoutLaw" 44 ⟨"BranchLayoutModel", "relax", "()I"⟩ ∈ zt := zt_in (List.mem_append_right _ (List.mem_of_getElem? (i := 347) (by decide +kernel))) rfl
theorem w_348 : Cond.instanceMethod ⟨"BranchLayoutModel", "relax", "()I"⟩ ∈ zt := zt_in (List.mem_append_right _ (List.mem_of_getElem? (i := 348) (by decide +kernel))) rfl
theorem w_349 : Cond.selects "BranchLayoutModel" ⟨"BranchLayoutModel", "relax", "()I"⟩ ⟨"BranchLayoutModel", "relax", "()I"⟩ ∈ zt := zt_in (List.mem_append_right _ (List.mem_of_getElem? (i := 349) (by decide +kernel))) rfl
theorem w_350 : Cond.code ⟨"BranchLayoutModel", "relax", "()I"⟩ prog_9_method_12_code 4 (some FieldType.int) ∈ zt := zt_in (List.mem_append_right _ (List.mem_of_getElem? (i := 350) (by decide +kernel))) rfl
theorem w_351 : Cond.methodLink "BranchLayoutModel" 68 ⟨"BranchLayoutModel", "walk", "(I)V"⟩ ∈ zt := zt_in (List.mem_append_right _ (List.mem_of_getElem? (i := 351) (by decide +kernel))) rfl
theorem w_352 : Cond.privateMethod ⟨"BranchLayoutModel", "walk", "(I)V"⟩ ∈ lw_tbl := List.mem_append_right _ (List.mem_of_getElem? (i := 352) (by decide +kernel))
theorem w_353 : Cond.instanceMethod ⟨"BranchLayoutModel", "walk", "(I)V"⟩ ∈ zt := zt_in (List.mem_append_right _ (List.mem_of_getElem? (i := 353) (by decide +kernel))) rfl
theorem w_354 : Cond.code ⟨"BranchLayoutModel", "walk", "(I)V"⟩ prog_9_method_10_code 6 none ∈ zt := zt_in (List.mem_append_right _ (List.mem_of_getElem? (i := 354) (by decide +kernel))) rfl
theorem w_355 : Cond.methodLink "BranchLayoutModel" 72 ⟨"BranchLayoutModel", "distance", "(I)J"⟩ ∈ zt := zt_in (List.mem_append_right _ (List.mem_of_getElem? (i := 355) (by decide +kernel))) rfl
theorem w_356 : Cond.privateMethod ⟨"BranchLayoutModel", "distance", "(I)J"⟩ ∈ lw_tbl := List.mem_append_right _ (List.mem_of_getElem? (i := 356) (by decide +kernel))
theorem w_357 : Cond.instanceMethod ⟨"BranchLayoutModel", "distance", "(I)J"⟩ ∈ zt := zt_in (List.mem_append_right _ (List.mem_of_getElem? (i := 357) (by decide +kernel))) rfl
theorem w_358 : Cond.code ⟨"BranchLayoutModel", "distance", "(I)J"⟩ prog_9_method_11_code 4 (some FieldType.long) ∈ zt := zt_in (List.mem_append_right _ (List.mem_of_getElem? (i := 358) (by decide +kernel))) rfl
theorem w_359 : Cond.constantLong "BranchLayoutModel" 76 (-128) ∈ zt := zt_in (List.mem_append_right _ (List.mem_of_getElem? (i := 359) (by decide +kernel))) rfl
theorem w_360 : Cond.constantLong "BranchLayoutModel" 78 127 ∈ zt := zt_in (List.mem_append_right _ (List.mem_of_getElem? (i := 360) (by decide +kernel))) rfl
theorem w_361 : Cond.methodLink "BranchLayoutLaw" 48 ⟨"BranchLayoutModel", "statement", "(II)I"⟩ ∈ zt := zt_in (List.mem_append_right _ (List.mem_of_getElem? (i := 361) (by decide +kernel))) rfl
theorem w_362 : Cond.instanceMethod ⟨"BranchLayoutModel", "statement", "(II)I"⟩ ∈ zt := zt_in (List.mem_append_right _ (List.mem_of_getElem? (i := 362) (by decide +kernel))) rfl
theorem w_363 : Cond.selects "BranchLayoutModel" ⟨"BranchLayoutModel", "statement", "(II)I"⟩ ⟨"BranchLayoutModel", "statement", "(II)I"⟩ ∈ zt := zt_in (List.mem_append_right _ (List.mem_of_getElem? (i := 363) (by decide +kernel))) rfl
theorem w_364 : Cond.code ⟨"BranchLayoutModel", "statement", "(II)I"⟩ prog_9_method_13_code 3 (some FieldType.int) ∈ zt := zt_in (List.mem_append_right _ (List.mem_of_getElem? (i := 364) (by decide +kernel))) rfl
theorem w_365 : Cond.methodLink "BranchLayoutLaw" 52 ⟨"BranchLayoutModel", "place", "(I)I"⟩ ∈ zt := zt_in (List.mem_append_right _ (List.mem_of_getElem? (i := 365) (by decide +kernel))) rfl
theorem w_366 : Cond.instanceMethod ⟨"BranchLayoutModel", "place", "(I)I"⟩ ∈ zt := zt_in (List.mem_append_right _ (List.mem_of_getElem? (i := 366) (by decide +kernel))) rfl
theorem w_367 : Cond.selects "BranchLayoutModel" ⟨"BranchLayoutModel", "place", "(I)I"⟩ ⟨"BranchLayoutModel", "place", "(I)I"⟩ ∈ zt := zt_in (List.mem_append_right _ (List.mem_of_getElem? (i := 367) (by decide +kernel))) rfl
theorem w_368 : Cond.code ⟨"BranchLayoutModel", "place", "(I)I"⟩ prog_9_method_14_code 2 (some FieldType.int) ∈ zt := zt_in (List.mem_append_right _ (List.mem_of_getElem? (i := 368) (by decide +kernel))) rfl
theorem w_369 : Cond.methodLink "BranchLayoutLaw" 56 ⟨"BranchLayoutModel", "size", "(I)I"⟩ ∈ zt := zt_in (List.mem_append_right _ (List.mem_of_getElem? (i := 369) (by decide +kernel))) rfl
theorem w_370 : Cond.instanceMethod ⟨"BranchLayoutModel", "size", "(I)I"⟩ ∈ zt := zt_in (List.mem_append_right _ (List.mem_of_getElem? (i := 370) (by decide +kernel))) rfl
theorem w_371 : Cond.selects "BranchLayoutModel" ⟨"BranchLayoutModel", "size", "(I)I"⟩ ⟨"BranchLayoutModel", "size", "(I)I"⟩ ∈ zt := zt_in (List.mem_append_right _ (List.mem_of_getElem? (i := 371) (by decide +kernel))) rfl
theorem w_372 : Cond.code ⟨"BranchLayoutModel", "size", "(I)I"⟩ prog_9_method_15_code 2 (some FieldType.int) ∈ zt := zt_in (List.mem_append_right _ (List.mem_of_getElem? (i := 372) (by decide +kernel))) rfl
theorem w_373 : Cond.castable "BranchLayout$Branch" "BranchLayout$Branch" ∈ lw_tbl := List.mem_append_right _ (List.mem_of_getElem? (i := 373) (by decide +kernel))
theorem w_374 : Cond.castable "BranchLayout$Alignment" "BranchLayout$Statement" ∈ lw_tbl := List.mem_append_right _ (List.mem_of_getElem? (i := 374) (by decide +kernel))
theorem w_375 : Cond.castable "BranchLayout$Branch" "BranchLayout$Statement" ∈ lw_tbl := List.mem_append_right _ (List.mem_of_getElem? (i := 375) (by decide +kernel))
theorem w_376 : Cond.castable "BranchLayout$Bytes" "BranchLayout$Statement" ∈ lw_tbl := List.mem_append_right _ (List.mem_of_getElem? (i := 376) (by decide +kernel))
def T_Al : u_T := fun k => match k with
  | 0 => ("BranchLayout$Statement", "length", "I", false)
  | 1 => ("BranchLayout$Place", "section", "I", true)
  | 2 => ("BranchLayout$Place", "at", "I", false)
  | _ => ("BranchLayout$Alignment", "n", "I", true)
def ty_Al : Nat → FieldType := fun k => match k with
  | 0 => .int
  | 1 => .int
  | 2 => .int
  | _ => .int
theorem nm_Al : ∀ a, a < 4 → ∀ b, b < 4 → a ≠ b → (T_Al a).2.1 ≠ (T_Al b).2.1 := by decide +kernel
theorem ok_Al : ∀ k, k < 4 → parseFieldDescriptor (T_Al k).2.2.1 = some (ty_Al k) := by decide +kernel
theorem in_Al : ∀ w ∈ u_ws "BranchLayout$Alignment" T_Al 4, w ∈ zt := by decide +kernel
def T_Br : u_T := fun k => match k with
  | 0 => ("BranchLayout$Statement", "length", "I", false)
  | 1 => ("BranchLayout$Place", "section", "I", true)
  | 2 => ("BranchLayout$Place", "at", "I", false)
  | 3 => ("BranchLayout$Branch", "longLength", "I", true)
  | 4 => ("BranchLayout$Branch", "goal", "LBranchLayout$Place;", false)
  | 5 => ("BranchLayout$Branch", "more", "I", false)
  | 6 => ("BranchLayout$Branch", "isShort", "Z", false)
  | _ => ("BranchLayout$Branch", "distance", "I", false)
def ty_Br : Nat → FieldType := fun k => match k with
  | 0 => .int
  | 1 => .int
  | 2 => .int
  | 3 => .int
  | 4 => .object "BranchLayout$Place"
  | 5 => .int
  | 6 => .boolean
  | _ => .int
theorem nm_Br : ∀ a, a < 8 → ∀ b, b < 8 → a ≠ b → (T_Br a).2.1 ≠ (T_Br b).2.1 := by decide +kernel
theorem ok_Br : ∀ k, k < 8 → parseFieldDescriptor (T_Br k).2.2.1 = some (ty_Br k) := by decide +kernel
theorem in_Br : ∀ w ∈ u_ws "BranchLayout$Branch" T_Br 8, w ∈ zt := by decide +kernel
def T_By : u_T := fun k => match k with
  | 0 => ("BranchLayout$Statement", "length", "I", false)
  | 1 => ("BranchLayout$Place", "section", "I", true)
  | 2 => ("BranchLayout$Place", "at", "I", false)
  | _ => ("BranchLayout$Bytes", "n", "I", true)
def ty_By : Nat → FieldType := fun k => match k with
  | 0 => .int
  | 1 => .int
  | 2 => .int
  | _ => .int
theorem nm_By : ∀ a, a < 4 → ∀ b, b < 4 → a ≠ b → (T_By a).2.1 ≠ (T_By b).2.1 := by decide +kernel
theorem ok_By : ∀ k, k < 4 → parseFieldDescriptor (T_By k).2.2.1 = some (ty_By k) := by decide +kernel
theorem in_By : ∀ w ∈ u_ws "BranchLayout$Bytes" T_By 4, w ∈ zt := by decide +kernel
def T_La : u_T := fun k => match k with
  | 0 => ("BranchLayout$Place", "section", "I", true)
  | 1 => ("BranchLayout$Place", "at", "I", false)
  | _ => ("BranchLayout$Label", "next", "I", true)
def ty_La : Nat → FieldType := fun k => match k with
  | 0 => .int
  | 1 => .int
  | _ => .int
theorem nm_La : ∀ a, a < 3 → ∀ b, b < 3 → a ≠ b → (T_La a).2.1 ≠ (T_La b).2.1 := by decide +kernel
theorem ok_La : ∀ k, k < 3 → parseFieldDescriptor (T_La k).2.2.1 = some (ty_La k) := by decide +kernel
theorem in_La : ∀ w ∈ u_ws "BranchLayout$Label" T_La 3, w ∈ zt := by decide +kernel
def T_BL : u_T := fun k => match k with
  | 0 => ("BranchLayout", "statements", "[LBranchLayout$Statement;", true)
  | 1 => ("BranchLayout", "labels", "[LBranchLayout$Label;", true)
  | 2 => ("BranchLayout", "sizes", "[I", true)
  | 3 => ("BranchLayout", "statementCount", "I", false)
  | _ => ("BranchLayout", "labelCount", "I", false)
def ty_BL : Nat → FieldType := fun k => match k with
  | 0 => .array (.object "BranchLayout$Statement")
  | 1 => .array (.object "BranchLayout$Label")
  | 2 => .array .int
  | 3 => .int
  | _ => .int
theorem nm_BL : ∀ a, a < 5 → ∀ b, b < 5 → a ≠ b → (T_BL a).2.1 ≠ (T_BL b).2.1 := by decide +kernel
theorem ok_BL : ∀ k, k < 5 → parseFieldDescriptor (T_BL k).2.2.1 = some (ty_BL k) := by decide +kernel
theorem in_BL : ∀ w ∈ u_ws "BranchLayout" T_BL 5, w ∈ zt := by decide +kernel
def T_Mo : u_T := fun k => match k with
  | 0 => ("BranchLayoutModel", "thrown", "I", false)
  | 1 => ("BranchLayoutModel", "statements", "I", false)
  | 2 => ("BranchLayoutModel", "labels", "I", false)
  | 3 => ("BranchLayoutModel", "kind", "[I", true)
  | 4 => ("BranchLayoutModel", "section", "[I", true)
  | 5 => ("BranchLayoutModel", "amount", "[I", true)
  | 6 => ("BranchLayoutModel", "goal", "[I", true)
  | 7 => ("BranchLayoutModel", "more", "[I", true)
  | 8 => ("BranchLayoutModel", "labelSection", "[I", true)
  | 9 => ("BranchLayoutModel", "labelAhead", "[I", true)
  | 10 => ("BranchLayoutModel", "brief", "[Z", true)
  | 11 => ("BranchLayoutModel", "at", "[I", true)
  | 12 => ("BranchLayoutModel", "size", "[I", true)
  | 13 => ("BranchLayoutModel", "far", "[I", true)
  | 14 => ("BranchLayoutModel", "labelPlace", "[I", true)
  | 15 => ("BranchLayoutModel", "sectionSize", "[I", true)
  | _ => ("BranchLayoutModel", "laidShort", "[Z", true)
def ty_Mo : Nat → FieldType := fun k => match k with
  | 0 => .int
  | 1 => .int
  | 2 => .int
  | 3 => .array .int
  | 4 => .array .int
  | 5 => .array .int
  | 6 => .array .int
  | 7 => .array .int
  | 8 => .array .int
  | 9 => .array .int
  | 10 => .array .boolean
  | 11 => .array .int
  | 12 => .array .int
  | 13 => .array .int
  | 14 => .array .int
  | 15 => .array .int
  | _ => .array .boolean
theorem nm_Mo : ∀ a, a < 17 → ∀ b, b < 17 → a ≠ b → (T_Mo a).2.1 ≠ (T_Mo b).2.1 := by decide +kernel
theorem ok_Mo : ∀ k, k < 17 → parseFieldDescriptor (T_Mo k).2.2.1 = some (ty_Mo k) := by decide +kernel
theorem in_Mo : ∀ w ∈ u_ws "BranchLayoutModel" T_Mo 17, w ∈ zt := by decide +kernel
abbrev zcl : List vw_C := [("BranchLayout$Alignment", T_Al, 4), ("BranchLayout$Branch", T_Br, 8), ("BranchLayout$Bytes", T_By, 4), ("BranchLayout$Label", T_La, 3), ("BranchLayout", T_BL, 5), ("BranchLayoutModel", T_Mo, 17)]
