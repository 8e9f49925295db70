def lwg : List Cond := lw_tbl.filter goodWord
theorem inG0 : ∀ w ∈ u_ws RX0 TX0 6, w ∈ lwg := fun w h => List.mem_filter.mpr ⟨inX0 w h, List.all_eq_true.mp (show (u_ws RX0 TX0 6).all goodWord = true by decide +kernel) w h⟩
theorem inG1 : ∀ w ∈ u_ws RX1 TX1 6, w ∈ lwg := fun w h => List.mem_filter.mpr ⟨inX1 w h, List.all_eq_true.mp (show (u_ws RX1 TX1 6).all goodWord = true by decide +kernel) w h⟩
theorem inG2 : ∀ w ∈ u_ws RX2 TX2 6, w ∈ lwg := fun w h => List.mem_filter.mpr ⟨inX2 w h, List.all_eq_true.mp (show (u_ws RX2 TX2 6).all goodWord = true by decide +kernel) w h⟩
theorem inG3 : ∀ w ∈ u_ws RX3 TX3 6, w ∈ lwg := fun w h => List.mem_filter.mpr ⟨inX3 w h, List.all_eq_true.mp (show (u_ws RX3 TX3 6).all goodWord = true by decide +kernel) w h⟩
theorem inG4 : ∀ w ∈ u_ws RX4 TX4 6, w ∈ lwg := fun w h => List.mem_filter.mpr ⟨inX4 w h, List.all_eq_true.mp (show (u_ws RX4 TX4 6).all goodWord = true by decide +kernel) w h⟩
theorem inG5 : ∀ w ∈ u_ws RX5 TX5 18, w ∈ lwg := fun w h => List.mem_filter.mpr ⟨inX5 w h, List.all_eq_true.mp (show (u_ws RX5 TX5 18).all goodWord = true by decide +kernel) w h⟩
theorem inG6 : ∀ w ∈ u_ws RX6 TX6 2, w ∈ lwg := fun w h => List.mem_filter.mpr ⟨inX6 w h, List.all_eq_true.mp (show (u_ws RX6 TX6 2).all goodWord = true by decide +kernel) w h⟩
theorem inG7 : ∀ w ∈ u_ws RX7 TX7 3, w ∈ lwg := fun w h => List.mem_filter.mpr ⟨inX7 w h, List.all_eq_true.mp (show (u_ws RX7 TX7 3).all goodWord = true by decide +kernel) w h⟩
theorem inG8 : ∀ w ∈ u_ws RX8 TX8 6, w ∈ lwg := fun w h => List.mem_filter.mpr ⟨inX8 w h, List.all_eq_true.mp (show (u_ws RX8 TX8 6).all goodWord = true by decide +kernel) w h⟩
theorem inG9 : ∀ w ∈ u_ws RX9 TX9 6, w ∈ lwg := fun w h => List.mem_filter.mpr ⟨inX9 w h, List.all_eq_true.mp (show (u_ws RX9 TX9 6).all goodWord = true by decide +kernel) w h⟩
theorem inG10 : ∀ w ∈ u_ws RX10 TX10 7, w ∈ lwg := fun w h => List.mem_filter.mpr ⟨inX10 w h, List.all_eq_true.mp (show (u_ws RX10 TX10 7).all goodWord = true by decide +kernel) w h⟩
theorem inG11 : ∀ w ∈ u_ws RX11 TX11 8, w ∈ lwg := fun w h => List.mem_filter.mpr ⟨inX11 w h, List.all_eq_true.mp (show (u_ws RX11 TX11 8).all goodWord = true by decide +kernel) w h⟩
theorem inG12 : ∀ w ∈ u_ws RX12 TX12 25, w ∈ lwg := fun w h => List.mem_filter.mpr ⟨inX12 w h, List.all_eq_true.mp (show (u_ws RX12 TX12 25).all goodWord = true by decide +kernel) w h⟩
set_option maxRecDepth 40000 in
theorem tw_0 : Cond.selects "KitePost" ⟨"KitePost", "error", "(I)I"⟩ ⟨"KitePost", "error", "(I)I"⟩ ∈ lwg := List.mem_filter.mpr ⟨List.mem_of_getElem? (i := 0) (by decide +kernel), rfl⟩
set_option maxRecDepth 40000 in
theorem tw_1 : Cond.selects "KitePost$Post" ⟨"KitePost$Post", "xOf", "(I)I"⟩ ⟨"KitePost$Post", "xOf", "(I)I"⟩ ∈ lwg := List.mem_filter.mpr ⟨List.mem_of_getElem? (i := 1) (by decide +kernel), rfl⟩
set_option maxRecDepth 40000 in
theorem tw_2 : Cond.selects "KitePost$Post" ⟨"KitePost$Post", "yOf", "(I)I"⟩ ⟨"KitePost$Post", "yOf", "(I)I"⟩ ∈ lwg := List.mem_filter.mpr ⟨List.mem_of_getElem? (i := 2) (by decide +kernel), rfl⟩
set_option maxRecDepth 40000 in
theorem tw_3 : Cond.selects "KitePost$Post" ⟨"KitePost$Post", "waitsOn", "(II)Z"⟩ ⟨"KitePost$Post", "waitsOn", "(II)Z"⟩ ∈ lwg := List.mem_filter.mpr ⟨List.mem_of_getElem? (i := 3) (by decide +kernel), rfl⟩
set_option maxRecDepth 40000 in
theorem tw_4 : Cond.selects "KitePost$Post" ⟨"KitePost$Post", "far", "(II)I"⟩ ⟨"KitePost$Post", "far", "(II)I"⟩ ∈ lwg := List.mem_filter.mpr ⟨List.mem_of_getElem? (i := 4) (by decide +kernel), rfl⟩
set_option maxRecDepth 40000 in
theorem tw_5 : Cond.selects "KitePost$Post" ⟨"KitePost$Post", "isDownWind", "(III)Z"⟩ ⟨"KitePost$Post", "isDownWind", "(III)Z"⟩ ∈ lwg := List.mem_filter.mpr ⟨List.mem_of_getElem? (i := 5) (by decide +kernel), rfl⟩
set_option maxRecDepth 40000 in
theorem tw_6 : Cond.selects "KitePost$Text" ⟨"KitePost$Text", "readLevel", "(II)V"⟩ ⟨"KitePost$Text", "readLevel", "(II)V"⟩ ∈ lwg := List.mem_filter.mpr ⟨List.mem_of_getElem? (i := 6) (by decide +kernel), rfl⟩
set_option maxRecDepth 40000 in
theorem tw_7 : Cond.selects "KitePost$Text" ⟨"KitePost$Text", "readPart", "(I)V"⟩ ⟨"KitePost$Text", "readPart", "(I)V"⟩ ∈ lwg := List.mem_filter.mpr ⟨List.mem_of_getElem? (i := 7) (by decide +kernel), rfl⟩
set_option maxRecDepth 40000 in
theorem tw_8 : Cond.selects "KitePost$Text" ⟨"KitePost$Text", "next", "()I"⟩ ⟨"KitePost$Text", "next", "()I"⟩ ∈ lwg := List.mem_filter.mpr ⟨List.mem_of_getElem? (i := 8) (by decide +kernel), rfl⟩
set_option maxRecDepth 40000 in
theorem tw_9 : Cond.selects "KitePost$Text" ⟨"KitePost$Text", "readNumber", "()V"⟩ ⟨"KitePost$Text", "readNumber", "()V"⟩ ∈ lwg := List.mem_filter.mpr ⟨List.mem_of_getElem? (i := 9) (by decide +kernel), rfl⟩
set_option maxRecDepth 40000 in
theorem tw_10 : Cond.selects "KitePost$Text" ⟨"KitePost$Text", "readClosing", "()V"⟩ ⟨"KitePost$Text", "readClosing", "()V"⟩ ∈ lwg := List.mem_filter.mpr ⟨List.mem_of_getElem? (i := 10) (by decide +kernel), rfl⟩
set_option maxRecDepth 40000 in
theorem tw_11 : Cond.selects "KitePost$Post" ⟨"KitePost$Post", "isInside", "(III)Z"⟩ ⟨"KitePost$Post", "isInside", "(III)Z"⟩ ∈ lwg := List.mem_filter.mpr ⟨List.mem_of_getElem? (i := 11) (by decide +kernel), rfl⟩
set_option maxRecDepth 40000 in
theorem tw_12 : Cond.selects "KitePost$Post" ⟨"KitePost$Post", "turn", "(III)I"⟩ ⟨"KitePost$Post", "turn", "(III)I"⟩ ∈ lwg := List.mem_filter.mpr ⟨List.mem_of_getElem? (i := 12) (by decide +kernel), rfl⟩
set_option maxRecDepth 40000 in
theorem tw_13 : Cond.selects "KitePost$Post" ⟨"KitePost$Post", "greatestLift", "(I)I"⟩ ⟨"KitePost$Post", "greatestLift", "(I)I"⟩ ∈ lwg := List.mem_filter.mpr ⟨List.mem_of_getElem? (i := 13) (by decide +kernel), rfl⟩
set_option maxRecDepth 40000 in
theorem tw_14 : Cond.selects "KitePost$Post" ⟨"KitePost$Post", "change", "(III)V"⟩ ⟨"KitePost$Post", "change", "(III)V"⟩ ∈ lwg := List.mem_filter.mpr ⟨List.mem_of_getElem? (i := 14) (by decide +kernel), rfl⟩
set_option maxRecDepth 40000 in
theorem tw_15 : Cond.selects "KitePost$Post" ⟨"KitePost$Post", "passHour", "()V"⟩ ⟨"KitePost$Post", "passHour", "()V"⟩ ∈ lwg := List.mem_filter.mpr ⟨List.mem_of_getElem? (i := 15) (by decide +kernel), rfl⟩
set_option maxRecDepth 40000 in
theorem tw_16 : Cond.selects "KitePost$Post" ⟨"KitePost$Post", "anyHasLetters", "(I)Z"⟩ ⟨"KitePost$Post", "anyHasLetters", "(I)Z"⟩ ∈ lwg := List.mem_filter.mpr ⟨List.mem_of_getElem? (i := 16) (by decide +kernel), rfl⟩
set_option maxRecDepth 40000 in
theorem tw_17 : Cond.selects "KitePost$Post" ⟨"KitePost$Post", "takenBy", "(II)I"⟩ ⟨"KitePost$Post", "takenBy", "(II)I"⟩ ∈ lwg := List.mem_filter.mpr ⟨List.mem_of_getElem? (i := 17) (by decide +kernel), rfl⟩
set_option maxRecDepth 40000 in
theorem tw_18 : Cond.selects "KitePost$Post" ⟨"KitePost$Post", "bring", "(II)V"⟩ ⟨"KitePost$Post", "bring", "(II)V"⟩ ∈ lwg := List.mem_filter.mpr ⟨List.mem_of_getElem? (i := 18) (by decide +kernel), rfl⟩
set_option maxRecDepth 40000 in
theorem tw_19 : Cond.selects "KitePost$Post" ⟨"KitePost$Post", "reachedBehind", "(III)I"⟩ ⟨"KitePost$Post", "reachedBehind", "(III)I"⟩ ∈ lwg := List.mem_filter.mpr ⟨List.mem_of_getElem? (i := 19) (by decide +kernel), rfl⟩
set_option maxRecDepth 40000 in
theorem tw_20 : Cond.selects "KitePost" ⟨"KitePost", "fillReach", "(II)V"⟩ ⟨"KitePost", "fillReach", "(II)V"⟩ ∈ lwg := List.mem_filter.mpr ⟨List.mem_of_getElem? (i := 20) (by decide +kernel), rfl⟩
set_option maxRecDepth 40000 in
theorem tw_21 : Cond.selects "KitePost" ⟨"KitePost", "casesThere", "(IIIII)J"⟩ ⟨"KitePost", "casesThere", "(IIIII)J"⟩ ∈ lwg := List.mem_filter.mpr ⟨List.mem_of_getElem? (i := 21) (by decide +kernel), rfl⟩
set_option maxRecDepth 40000 in
theorem tw_22 : Cond.selects "KitePost" ⟨"KitePost", "reachedBehind", "(II)I"⟩ ⟨"KitePost", "reachedBehind", "(II)I"⟩ ∈ lwg := List.mem_filter.mpr ⟨List.mem_of_getElem? (i := 22) (by decide +kernel), rfl⟩
set_option maxRecDepth 40000 in
theorem tw_23 : Cond.selects "KitePost$Post" ⟨"KitePost$Post", "firstThatCanBe", "(I)I"⟩ ⟨"KitePost$Post", "firstThatCanBe", "(I)I"⟩ ∈ lwg := List.mem_filter.mpr ⟨List.mem_of_getElem? (i := 23) (by decide +kernel), rfl⟩
set_option maxRecDepth 40000 in
theorem tw_24 : Cond.selects "KitePost" ⟨"KitePost", "sheetAt", "(I)LKitePost$Sheet;"⟩ ⟨"KitePost", "sheetAt", "(I)LKitePost$Sheet;"⟩ ∈ lwg := List.mem_filter.mpr ⟨List.mem_of_getElem? (i := 24) (by decide +kernel), rfl⟩
set_option maxRecDepth 40000 in
theorem tw_25 : Cond.selects "KitePostModel" ⟨"KitePostModel", "finding", "(I)I"⟩ ⟨"KitePostModel", "finding", "(I)I"⟩ ∈ lwg := List.mem_filter.mpr ⟨List.mem_of_getElem? (i := 25) (by decide +kernel), rfl⟩
set_option maxRecDepth 40000 in
theorem tw_26 : Cond.selects "KitePostModel" ⟨"KitePostModel", "isTaken", "(I)Z"⟩ ⟨"KitePostModel", "isTaken", "(I)Z"⟩ ∈ lwg := List.mem_filter.mpr ⟨List.mem_of_getElem? (i := 26) (by decide +kernel), rfl⟩
set_option maxRecDepth 40000 in
theorem tw_27 : Cond.selects "KitePostModel" ⟨"KitePostModel", "rises", "(II)I"⟩ ⟨"KitePostModel", "rises", "(II)I"⟩ ∈ lwg := List.mem_filter.mpr ⟨List.mem_of_getElem? (i := 27) (by decide +kernel), rfl⟩
set_option maxRecDepth 40000 in
theorem tw_28 : Cond.selects "KitePostModel" ⟨"KitePostModel", "is", "(II)Z"⟩ ⟨"KitePostModel", "is", "(II)Z"⟩ ∈ lwg := List.mem_filter.mpr ⟨List.mem_of_getElem? (i := 28) (by decide +kernel), rfl⟩
set_option maxRecDepth 40000 in
theorem tw_29 : Cond.selects "KitePostModel" ⟨"KitePostModel", "lettersOn", "(I)I"⟩ ⟨"KitePostModel", "lettersOn", "(I)I"⟩ ∈ lwg := List.mem_filter.mpr ⟨List.mem_of_getElem? (i := 29) (by decide +kernel), rfl⟩
set_option maxRecDepth 40000 in
theorem tw_30 : Cond.selects "KitePostModel" ⟨"KitePostModel", "letterIs", "(II)I"⟩ ⟨"KitePostModel", "letterIs", "(II)I"⟩ ∈ lwg := List.mem_filter.mpr ⟨List.mem_of_getElem? (i := 30) (by decide +kernel), rfl⟩
set_option maxRecDepth 40000 in
theorem tw_31 : Cond.selects "KitePostModel" ⟨"KitePostModel", "become", "(II)I"⟩ ⟨"KitePostModel", "become", "(II)I"⟩ ∈ lwg := List.mem_filter.mpr ⟨List.mem_of_getElem? (i := 31) (by decide +kernel), rfl⟩
set_option maxRecDepth 40000 in
theorem tw_32 : Cond.selects "KitePostModel" ⟨"KitePostModel", "flies", "(IIIII)I"⟩ ⟨"KitePostModel", "flies", "(IIIII)I"⟩ ∈ lwg := List.mem_filter.mpr ⟨List.mem_of_getElem? (i := 32) (by decide +kernel), rfl⟩
set_option maxRecDepth 40000 in
theorem tw_33 : Cond.selects "KitePostModel" ⟨"KitePostModel", "kiteIs", "(II)I"⟩ ⟨"KitePostModel", "kiteIs", "(II)I"⟩ ∈ lwg := List.mem_filter.mpr ⟨List.mem_of_getElem? (i := 33) (by decide +kernel), rfl⟩
set_option maxRecDepth 40000 in
theorem tw_34 : Cond.selects "KitePostModel" ⟨"KitePostModel", "pullOf", "(IIIII)I"⟩ ⟨"KitePostModel", "pullOf", "(IIIII)I"⟩ ∈ lwg := List.mem_filter.mpr ⟨List.mem_of_getElem? (i := 34) (by decide +kernel), rfl⟩
set_option maxRecDepth 40000 in
theorem tw_35 : Cond.selects "KitePostModel" ⟨"KitePostModel", "highOf", "(I)I"⟩ ⟨"KitePostModel", "highOf", "(I)I"⟩ ∈ lwg := List.mem_filter.mpr ⟨List.mem_of_getElem? (i := 35) (by decide +kernel), rfl⟩
set_option maxRecDepth 40000 in
theorem tw_36 : Cond.selects "KitePostModel" ⟨"KitePostModel", "farOf", "(II)I"⟩ ⟨"KitePostModel", "farOf", "(II)I"⟩ ∈ lwg := List.mem_filter.mpr ⟨List.mem_of_getElem? (i := 36) (by decide +kernel), rfl⟩
set_option maxRecDepth 40000 in
theorem tw_37 : Cond.selects "KitePostModel" ⟨"KitePostModel", "xOf", "(I)I"⟩ ⟨"KitePostModel", "xOf", "(I)I"⟩ ∈ lwg := List.mem_filter.mpr ⟨List.mem_of_getElem? (i := 37) (by decide +kernel), rfl⟩
set_option maxRecDepth 40000 in
theorem tw_38 : Cond.selects "KitePostModel" ⟨"KitePostModel", "yOf", "(I)I"⟩ ⟨"KitePostModel", "yOf", "(I)I"⟩ ∈ lwg := List.mem_filter.mpr ⟨List.mem_of_getElem? (i := 38) (by decide +kernel), rfl⟩
set_option maxRecDepth 40000 in
theorem tw_39 : Cond.selects "KitePostModel" ⟨"KitePostModel", "lifts", "(IIII)I"⟩ ⟨"KitePostModel", "lifts", "(IIII)I"⟩ ∈ lwg := List.mem_filter.mpr ⟨List.mem_of_getElem? (i := 39) (by decide +kernel), rfl⟩
set_option maxRecDepth 40000 in
theorem tw_40 : Cond.selects "KitePostModel" ⟨"KitePostModel", "hasText", "(I)Z"⟩ ⟨"KitePostModel", "hasText", "(I)Z"⟩ ∈ lwg := List.mem_filter.mpr ⟨List.mem_of_getElem? (i := 40) (by decide +kernel), rfl⟩
set_option maxRecDepth 40000 in
theorem tw_41 : Cond.selects "KitePostModel" ⟨"KitePostModel", "given", "(IIIII)I"⟩ ⟨"KitePostModel", "given", "(IIIII)I"⟩ ∈ lwg := List.mem_filter.mpr ⟨List.mem_of_getElem? (i := 41) (by decide +kernel), rfl⟩
set_option maxRecDepth 40000 in
theorem tw_42 : Cond.selects "KitePostModel" ⟨"KitePostModel", "worked", "(I)I"⟩ ⟨"KitePostModel", "worked", "(I)I"⟩ ∈ lwg := List.mem_filter.mpr ⟨List.mem_of_getElem? (i := 42) (by decide +kernel), rfl⟩
set_option maxRecDepth 40000 in
theorem tw_43 : Cond.selects "KitePostModel" ⟨"KitePostModel", "standsNow", "(III)Z"⟩ ⟨"KitePostModel", "standsNow", "(III)Z"⟩ ∈ lwg := List.mem_filter.mpr ⟨List.mem_of_getElem? (i := 43) (by decide +kernel), rfl⟩
set_option maxRecDepth 40000 in
theorem tw_44 : Cond.selects "KitePostModel" ⟨"KitePostModel", "standsOver", "(IIIII)Z"⟩ ⟨"KitePostModel", "standsOver", "(IIIII)Z"⟩ ∈ lwg := List.mem_filter.mpr ⟨List.mem_of_getElem? (i := 44) (by decide +kernel), rfl⟩
set_option maxRecDepth 40000 in
theorem tw_45 : Cond.selects "KitePostModel" ⟨"KitePostModel", "either", "()V"⟩ ⟨"KitePostModel", "either", "()V"⟩ ∈ lwg := List.mem_filter.mpr ⟨List.mem_of_getElem? (i := 45) (by decide +kernel), rfl⟩
set_option maxRecDepth 40000 in
theorem tw_46 : Cond.selects "KitePostModel" ⟨"KitePostModel", "both", "()V"⟩ ⟨"KitePostModel", "both", "()V"⟩ ∈ lwg := List.mem_filter.mpr ⟨List.mem_of_getElem? (i := 46) (by decide +kernel), rfl⟩
set_option maxRecDepth 40000 in
theorem tw_47 : Cond.selects "KitePostModel" ⟨"KitePostModel", "compared", "()V"⟩ ⟨"KitePostModel", "compared", "()V"⟩ ∈ lwg := List.mem_filter.mpr ⟨List.mem_of_getElem? (i := 47) (by decide +kernel), rfl⟩
set_option maxRecDepth 40000 in
theorem tw_48 : Cond.selects "KitePostModel" ⟨"KitePostModel", "sum", "()V"⟩ ⟨"KitePostModel", "sum", "()V"⟩ ∈ lwg := List.mem_filter.mpr ⟨List.mem_of_getElem? (i := 48) (by decide +kernel), rfl⟩
set_option maxRecDepth 40000 in
theorem tw_49 : Cond.selects "KitePostModel" ⟨"KitePostModel", "product", "()V"⟩ ⟨"KitePostModel", "product", "()V"⟩ ∈ lwg := List.mem_filter.mpr ⟨List.mem_of_getElem? (i := 49) (by decide +kernel), rfl⟩
set_option maxRecDepth 40000 in
theorem tw_50 : Cond.selects "KitePostModel" ⟨"KitePostModel", "one", "()V"⟩ ⟨"KitePostModel", "one", "()V"⟩ ∈ lwg := List.mem_filter.mpr ⟨List.mem_of_getElem? (i := 50) (by decide +kernel), rfl⟩
set_option maxRecDepth 40000 in
theorem tw_51 : Cond.selects "KitePostModel" ⟨"KitePostModel", "here", "()I"⟩ ⟨"KitePostModel", "here", "()I"⟩ ∈ lwg := List.mem_filter.mpr ⟨List.mem_of_getElem? (i := 51) (by decide +kernel), rfl⟩
set_option maxRecDepth 40000 in
theorem tw_52 : Cond.selects "KitePostModel" ⟨"KitePostModel", "codes", "(I)V"⟩ ⟨"KitePostModel", "codes", "(I)V"⟩ ∈ lwg := List.mem_filter.mpr ⟨List.mem_of_getElem? (i := 52) (by decide +kernel), rfl⟩
set_option maxRecDepth 40000 in
theorem tw_53 : Cond.selects "KitePostModel" ⟨"KitePostModel", "takes", "(I)Z"⟩ ⟨"KitePostModel", "takes", "(I)Z"⟩ ∈ lwg := List.mem_filter.mpr ⟨List.mem_of_getElem? (i := 53) (by decide +kernel), rfl⟩
set_option maxRecDepth 40000 in
theorem tw_54 : Cond.selects "KitePostModel" ⟨"KitePostModel", "nameOf", "(I)I"⟩ ⟨"KitePostModel", "nameOf", "(I)I"⟩ ∈ lwg := List.mem_filter.mpr ⟨List.mem_of_getElem? (i := 54) (by decide +kernel), rfl⟩
set_option maxRecDepth 40000 in
theorem tw_55 : Cond.selects "KitePostModel" ⟨"KitePostModel", "hasLine", "(I)Z"⟩ ⟨"KitePostModel", "hasLine", "(I)Z"⟩ ∈ lwg := List.mem_filter.mpr ⟨List.mem_of_getElem? (i := 55) (by decide +kernel), rfl⟩
set_option maxRecDepth 40000 in
theorem tw_56 : Cond.selects "KitePostModel" ⟨"KitePostModel", "crossEachOther", "(II)Z"⟩ ⟨"KitePostModel", "crossEachOther", "(II)Z"⟩ ∈ lwg := List.mem_filter.mpr ⟨List.mem_of_getElem? (i := 56) (by decide +kernel), rfl⟩
set_option maxRecDepth 40000 in
theorem tw_57 : Cond.selects "KitePostModel" ⟨"KitePostModel", "haveMore", "(IIII)Z"⟩ ⟨"KitePostModel", "haveMore", "(IIII)Z"⟩ ∈ lwg := List.mem_filter.mpr ⟨List.mem_of_getElem? (i := 57) (by decide +kernel), rfl⟩
set_option maxRecDepth 40000 in
theorem tw_58 : Cond.selects "KitePostModel" ⟨"KitePostModel", "sideOf", "(III)I"⟩ ⟨"KitePostModel", "sideOf", "(III)I"⟩ ∈ lwg := List.mem_filter.mpr ⟨List.mem_of_getElem? (i := 58) (by decide +kernel), rfl⟩
set_option maxRecDepth 40000 in
theorem tw_59 : Cond.selects "KitePostModel" ⟨"KitePostModel", "overlap", "(IIII)Z"⟩ ⟨"KitePostModel", "overlap", "(IIII)Z"⟩ ∈ lwg := List.mem_filter.mpr ⟨List.mem_of_getElem? (i := 59) (by decide +kernel), rfl⟩
set_option maxRecDepth 40000 in
theorem tw_60 : Cond.selects "KitePostModel" ⟨"KitePostModel", "haveLines", "()I"⟩ ⟨"KitePostModel", "haveLines", "()I"⟩ ∈ lwg := List.mem_filter.mpr ⟨List.mem_of_getElem? (i := 60) (by decide +kernel), rfl⟩
set_option maxRecDepth 40000 in
theorem tw_61 : Cond.selects "KitePostModel" ⟨"KitePostModel", "stayUp", "(I)I"⟩ ⟨"KitePostModel", "stayUp", "(I)I"⟩ ∈ lwg := List.mem_filter.mpr ⟨List.mem_of_getElem? (i := 61) (by decide +kernel), rfl⟩
set_option maxRecDepth 40000 in
theorem tw_62 : Cond.selects "KitePostModel" ⟨"KitePostModel", "isAheadOf", "(II)Z"⟩ ⟨"KitePostModel", "isAheadOf", "(II)Z"⟩ ∈ lwg := List.mem_filter.mpr ⟨List.mem_of_getElem? (i := 62) (by decide +kernel), rfl⟩
set_option maxRecDepth 40000 in
theorem tw_63 : Cond.selects "KitePostModel" ⟨"KitePostModel", "hoursGo", "(I)V"⟩ ⟨"KitePostModel", "hoursGo", "(I)V"⟩ ∈ lwg := List.mem_filter.mpr ⟨List.mem_of_getElem? (i := 63) (by decide +kernel), rfl⟩
set_option maxRecDepth 40000 in
theorem tw_64 : Cond.selects "KitePostModel" ⟨"KitePostModel", "hour", "()V"⟩ ⟨"KitePostModel", "hour", "()V"⟩ ∈ lwg := List.mem_filter.mpr ⟨List.mem_of_getElem? (i := 64) (by decide +kernel), rfl⟩
set_option maxRecDepth 40000 in
theorem tw_65 : Cond.selects "KitePostModel" ⟨"KitePostModel", "takesUp", "(II)I"⟩ ⟨"KitePostModel", "takesUp", "(II)I"⟩ ∈ lwg := List.mem_filter.mpr ⟨List.mem_of_getElem? (i := 65) (by decide +kernel), rfl⟩
set_option maxRecDepth 40000 in
theorem tw_66 : Cond.selects "KitePostModel" ⟨"KitePostModel", "comesTo", "(II)V"⟩ ⟨"KitePostModel", "comesTo", "(II)V"⟩ ∈ lwg := List.mem_filter.mpr ⟨List.mem_of_getElem? (i := 66) (by decide +kernel), rfl⟩
set_option maxRecDepth 40000 in
theorem tw_67 : Cond.selects "KitePostModel" ⟨"KitePostModel", "drawn", "(I)I"⟩ ⟨"KitePostModel", "drawn", "(I)I"⟩ ∈ lwg := List.mem_filter.mpr ⟨List.mem_of_getElem? (i := 67) (by decide +kernel), rfl⟩
set_option maxRecDepth 40000 in
theorem tw_68 : Cond.selects "KitePostModel" ⟨"KitePostModel", "putBack", "(I)I"⟩ ⟨"KitePostModel", "putBack", "(I)I"⟩ ∈ lwg := List.mem_filter.mpr ⟨List.mem_of_getElem? (i := 68) (by decide +kernel), rfl⟩
set_option maxRecDepth 40000 in
theorem tw_69 : Cond.selects "KitePostModel" ⟨"KitePostModel", "isWay", "(III)Z"⟩ ⟨"KitePostModel", "isWay", "(III)Z"⟩ ∈ lwg := List.mem_filter.mpr ⟨List.mem_of_getElem? (i := 69) (by decide +kernel), rfl⟩
set_option maxRecDepth 40000 in
theorem tw_70 : Cond.selects "KitePostModel" ⟨"KitePostModel", "soonestOf", "(III)I"⟩ ⟨"KitePostModel", "soonestOf", "(III)I"⟩ ∈ lwg := List.mem_filter.mpr ⟨List.mem_of_getElem? (i := 70) (by decide +kernel), rfl⟩
set_option maxRecDepth 40000 in
theorem tw_71 : Cond.selects "KitePostModel" ⟨"KitePostModel", "grown", "(III)I"⟩ ⟨"KitePostModel", "grown", "(III)I"⟩ ∈ lwg := List.mem_filter.mpr ⟨List.mem_of_getElem? (i := 71) (by decide +kernel), rfl⟩
set_option maxRecDepth 40000 in
theorem tw_72 : Cond.selects "KitePostModel" ⟨"KitePostModel", "sureBy", "(IIIIII)J"⟩ ⟨"KitePostModel", "sureBy", "(IIIIII)J"⟩ ∈ lwg := List.mem_filter.mpr ⟨List.mem_of_getElem? (i := 72) (by decide +kernel), rfl⟩
set_option maxRecDepth 40000 in
theorem tw_73 : Cond.selects "KitePostModel" ⟨"KitePostModel", "freshOf", "(III)I"⟩ ⟨"KitePostModel", "freshOf", "(III)I"⟩ ∈ lwg := List.mem_filter.mpr ⟨List.mem_of_getElem? (i := 73) (by decide +kernel), rfl⟩
set_option maxRecDepth 40000 in
theorem tw_74 : Cond.selects "KitePostModel" ⟨"KitePostModel", "mends", "()V"⟩ ⟨"KitePostModel", "mends", "()V"⟩ ∈ lwg := List.mem_filter.mpr ⟨List.mem_of_getElem? (i := 74) (by decide +kernel), rfl⟩
set_option maxRecDepth 40000 in
theorem tw_75 : Cond.selects "KitePostModel" ⟨"KitePostModel", "hasArrived", "(I)Z"⟩ ⟨"KitePostModel", "hasArrived", "(I)Z"⟩ ∈ lwg := List.mem_filter.mpr ⟨List.mem_of_getElem? (i := 75) (by decide +kernel), rfl⟩
set_option maxRecDepth 40000 in
theorem tw_76 : Cond.selects "KitePostModel" ⟨"KitePostModel", "voiced", "(II)I"⟩ ⟨"KitePostModel", "voiced", "(II)I"⟩ ∈ lwg := List.mem_filter.mpr ⟨List.mem_of_getElem? (i := 76) (by decide +kernel), rfl⟩
set_option maxRecDepth 40000 in
theorem tw_77 : Cond.selects "KitePostModel" ⟨"KitePostModel", "bodyFrom", "(III)I"⟩ ⟨"KitePostModel", "bodyFrom", "(III)I"⟩ ∈ lwg := List.mem_filter.mpr ⟨List.mem_of_getElem? (i := 77) (by decide +kernel), rfl⟩
set_option maxRecDepth 40000 in
theorem tw_78 : Cond.selects "KitePostModel" ⟨"KitePostModel", "body", "(III)I"⟩ ⟨"KitePostModel", "body", "(III)I"⟩ ∈ lwg := List.mem_filter.mpr ⟨List.mem_of_getElem? (i := 78) (by decide +kernel), rfl⟩
set_option maxRecDepth 40000 in
theorem tw_79 : Cond.selects "KitePostModel" ⟨"KitePostModel", "began", "(I)V"⟩ ⟨"KitePostModel", "began", "(I)V"⟩ ∈ lwg := List.mem_filter.mpr ⟨List.mem_of_getElem? (i := 79) (by decide +kernel), rfl⟩
set_option maxRecDepth 40000 in
theorem tw_80 : Cond.initialized "KitePostLaw" ∈ lwg := List.mem_filter.mpr ⟨List.mem_of_getElem? (i := 80) (by decide +kernel), rfl⟩
set_option maxRecDepth 40000 in
theorem tw_81 : Cond.initialized "KitePost" ∈ lwg := List.mem_filter.mpr ⟨List.mem_of_getElem? (i := 81) (by decide +kernel), rfl⟩
set_option maxRecDepth 40000 in
theorem tw_82 : Cond.initialized "KitePost$Post" ∈ lwg := List.mem_filter.mpr ⟨List.mem_of_getElem? (i := 82) (by decide +kernel), rfl⟩
set_option maxRecDepth 40000 in
theorem tw_83 : Cond.initialized "KitePost$Row" ∈ lwg := List.mem_filter.mpr ⟨List.mem_of_getElem? (i := 83) (by decide +kernel), rfl⟩
set_option maxRecDepth 40000 in
theorem tw_84 : Cond.initialized "java/lang/Math" ∈ lwg := List.mem_filter.mpr ⟨List.mem_of_getElem? (i := 84) (by decide +kernel), rfl⟩
set_option maxRecDepth 40000 in
theorem tw_85 : Cond.initialized "KitePost$Text" ∈ lwg := List.mem_filter.mpr ⟨List.mem_of_getElem? (i := 85) (by decide +kernel), rfl⟩
set_option maxRecDepth 40000 in
theorem tw_86 : Cond.initialized "java/util/Arrays" ∈ lwg := List.mem_filter.mpr ⟨List.mem_of_getElem? (i := 86) (by decide +kernel), rfl⟩
set_option maxRecDepth 40000 in
theorem tw_87 : Cond.initialized "KitePost$Sheet" ∈ lwg := List.mem_filter.mpr ⟨List.mem_of_getElem? (i := 87) (by decide +kernel), rfl⟩
set_option maxRecDepth 40000 in
theorem tw_88 : Cond.initialized "KitePostModel" ∈ lwg := List.mem_filter.mpr ⟨List.mem_of_getElem? (i := 88) (by decide +kernel), rfl⟩
set_option maxRecDepth 40000 in
theorem tw_89 : Cond.initialized "KitePost$Kite" ∈ lwg := List.mem_filter.mpr ⟨List.mem_of_getElem? (i := 89) (by decide +kernel), rfl⟩
set_option maxRecDepth 40000 in
theorem tw_90 : Cond.initialized "KitePost$Boxed" ∈ lwg := List.mem_filter.mpr ⟨List.mem_of_getElem? (i := 90) (by decide +kernel), rfl⟩
set_option maxRecDepth 40000 in
theorem tw_91 : Cond.initialized "KitePost$Tailed" ∈ lwg := List.mem_filter.mpr ⟨List.mem_of_getElem? (i := 91) (by decide +kernel), rfl⟩
set_option maxRecDepth 40000 in
theorem tw_92 : Cond.initialized "KitePost$Silk" ∈ lwg := List.mem_filter.mpr ⟨List.mem_of_getElem? (i := 92) (by decide +kernel), rfl⟩
set_option maxRecDepth 40000 in
theorem tw_93 : Cond.initialized "KitePost$Doubled" ∈ lwg := List.mem_filter.mpr ⟨List.mem_of_getElem? (i := 93) (by decide +kernel), rfl⟩
set_option maxRecDepth 40000 in
theorem tw_94 : Cond.initialized "KitePost$LongTailed" ∈ lwg := List.mem_filter.mpr ⟨List.mem_of_getElem? (i := 94) (by decide +kernel), rfl⟩
set_option maxRecDepth 40000 in
theorem tw_95 : Cond.initialized "KitePost$Old" ∈ lwg := List.mem_filter.mpr ⟨List.mem_of_getElem? (i := 95) (by decide +kernel), rfl⟩
set_option maxRecDepth 40000 in
theorem tw_96 : Cond.initialized "java/lang/String" ∈ lwg := List.mem_filter.mpr ⟨List.mem_of_getElem? (i := 96) (by decide +kernel), rfl⟩
set_option maxRecDepth 40000 in
theorem tw_97 : Cond.initialized "java/lang/StringLatin1" ∈ lwg := List.mem_filter.mpr ⟨List.mem_of_getElem? (i := 97) (by decide +kernel), rfl⟩
set_option maxRecDepth 40000 in
theorem tw_98 : Cond.initialized "java/lang/StringUTF16" ∈ lwg := List.mem_filter.mpr ⟨List.mem_of_getElem? (i := 98) (by decide +kernel), rfl⟩
set_option maxRecDepth 40000 in
theorem tw_99 : Cond.initialized "jdk/internal/util/Preconditions" ∈ lwg := List.mem_filter.mpr ⟨List.mem_of_getElem? (i := 99) (by decide +kernel), rfl⟩
set_option maxRecDepth 40000 in
theorem tw_100 : Cond.initialized "java/lang/Character" ∈ lwg := List.mem_filter.mpr ⟨List.mem_of_getElem? (i := 100) (by decide +kernel), rfl⟩
set_option maxRecDepth 40000 in
theorem tw_101 : Cond.initialized "java/lang/System" ∈ lwg := List.mem_filter.mpr ⟨List.mem_of_getElem? (i := 101) (by decide +kernel), rfl⟩
set_option maxRecDepth 40000 in
theorem tw_102 : Cond.classLink "KitePostLaw" 7 "KitePost" ∈ lwg := List.mem_filter.mpr ⟨List.mem_of_getElem? (i := 102) (by decide +kernel), rfl⟩
set_option maxRecDepth 40000 in
theorem tw_103 : Cond.instantiable "KitePost" 8 ∈ lwg := List.mem_filter.mpr ⟨List.mem_of_getElem? (i := 103) (by decide +kernel), rfl⟩
set_option maxRecDepth 40000 in
theorem tw_104 : Cond.methodLink "KitePostLaw" 9 ⟨"KitePost", "<init>", "()V"⟩ ∈ lwg := List.mem_filter.mpr ⟨List.mem_of_getElem? (i := 104) (by decide +kernel), rfl⟩
set_option maxRecDepth 40000 in
theorem tw_105 : Cond.instanceMethod ⟨"KitePost", "<init>", "()V"⟩ ∈ lwg := List.mem_filter.mpr ⟨List.mem_of_getElem? (i := 105) (by decide +kernel), rfl⟩
set_option maxRecDepth 40000 in
theorem tw_106 : Cond.code ⟨"KitePost", "<init>", "()V"⟩ prog_1_method_1_code 2 none ∈ lwg := List.mem_filter.mpr ⟨List.mem_of_getElem? (i := 106) rfl, rfl⟩
set_option maxRecDepth 40000 in
theorem tw_107 : Cond.methodLink "KitePost" 1 ⟨"java/lang/Object", "<init>", "()V"⟩ ∈ lwg := List.mem_filter.mpr ⟨List.mem_of_getElem? (i := 107) (by decide +kernel), rfl⟩
set_option maxRecDepth 40000 in
theorem tw_108 : Cond.instanceMethod ⟨"java/lang/Object", "<init>", "()V"⟩ ∈ lwg := List.mem_filter.mpr ⟨List.mem_of_getElem? (i := 108) (by decide +kernel), rfl⟩
set_option maxRecDepth 40000 in
theorem tw_109 : Cond.code ⟨"java/lang/Object", "<init>", "()V"⟩ object_method_1_code 1 none ∈ lwg := List.mem_filter.mpr ⟨List.mem_of_getElem? (i := 109) rfl, rfl⟩
set_option maxRecDepth 40000 in
theorem tw_110 : Cond.classLink "KitePost" 7 "KitePost$Post" ∈ lwg := List.mem_filter.mpr ⟨List.mem_of_getElem? (i := 110) (by decide +kernel), rfl⟩
set_option maxRecDepth 40000 in
theorem tw_111 : Cond.instantiable "KitePost$Post" 18 ∈ lwg := List.mem_filter.mpr ⟨List.mem_of_getElem? (i := 111) (by decide +kernel), rfl⟩
set_option maxRecDepth 40000 in
theorem tw_112 : Cond.methodLink "KitePost" 9 ⟨"KitePost$Post", "<init>", "()V"⟩ ∈ lwg := List.mem_filter.mpr ⟨List.mem_of_getElem? (i := 112) (by decide +kernel), rfl⟩
set_option maxRecDepth 40000 in
theorem tw_113 : Cond.instanceMethod ⟨"KitePost$Post", "<init>", "()V"⟩ ∈ lwg := List.mem_filter.mpr ⟨List.mem_of_getElem? (i := 113) (by decide +kernel), rfl⟩
set_option maxRecDepth 40000 in
theorem tw_114 : Cond.code ⟨"KitePost$Post", "<init>", "()V"⟩ prog_7_method_1_code 1 none ∈ lwg := List.mem_filter.mpr ⟨List.mem_of_getElem? (i := 114) rfl, rfl⟩
set_option maxRecDepth 40000 in
theorem tw_115 : Cond.methodLink "KitePost$Post" 3 ⟨"java/lang/Object", "<init>", "()V"⟩ ∈ lwg := List.mem_filter.mpr ⟨List.mem_of_getElem? (i := 115) (by decide +kernel), rfl⟩
set_option maxRecDepth 40000 in
theorem tw_116 : Cond.classLink "KitePost$Post" 24 "KitePost$Kite" ∈ lwg := List.mem_filter.mpr ⟨List.mem_of_getElem? (i := 116) (by decide +kernel), rfl⟩
set_option maxRecDepth 40000 in
theorem tw_118 : Cond.classLink "KitePost$Post" 36 "KitePost$Row" ∈ lwg := List.mem_filter.mpr ⟨List.mem_of_getElem? (i := 118) (by decide +kernel), rfl⟩
set_option maxRecDepth 40000 in
theorem tw_119 : Cond.instantiable "KitePost$Row" 2 ∈ lwg := List.mem_filter.mpr ⟨List.mem_of_getElem? (i := 119) (by decide +kernel), rfl⟩
set_option maxRecDepth 40000 in
theorem tw_120 : Cond.methodLink "KitePost$Post" 38 ⟨"KitePost$Row", "<init>", "(I)V"⟩ ∈ lwg := List.mem_filter.mpr ⟨List.mem_of_getElem? (i := 120) (by decide +kernel), rfl⟩
set_option maxRecDepth 40000 in
theorem tw_121 : Cond.instanceMethod ⟨"KitePost$Row", "<init>", "(I)V"⟩ ∈ lwg := List.mem_filter.mpr ⟨List.mem_of_getElem? (i := 121) (by decide +kernel), rfl⟩
set_option maxRecDepth 40000 in
theorem tw_122 : Cond.code ⟨"KitePost$Row", "<init>", "(I)V"⟩ prog_8_method_1_code 2 none ∈ lwg := List.mem_filter.mpr ⟨List.mem_of_getElem? (i := 122) rfl, rfl⟩
set_option maxRecDepth 40000 in
theorem tw_123 : Cond.methodLink "KitePost$Row" 1 ⟨"java/lang/Object", "<init>", "()V"⟩ ∈ lwg := List.mem_filter.mpr ⟨List.mem_of_getElem? (i := 123) (by decide +kernel), rfl⟩
set_option maxRecDepth 40000 in
theorem tw_124 : Cond.methodLink "KitePost$Row" 7 ⟨"java/lang/Math", "max", "(II)I"⟩ ∈ lwg := List.mem_filter.mpr ⟨List.mem_of_getElem? (i := 124) (by decide +kernel), rfl⟩
set_option maxRecDepth 40000 in
theorem tw_125 : Cond.static ⟨"java/lang/Math", "max", "(II)I"⟩ ∈ lwg := List.mem_filter.mpr ⟨List.mem_of_getElem? (i := 125) (by decide +kernel), rfl⟩
set_option maxRecDepth 40000 in
theorem tw_126 : Cond.code ⟨"java/lang/Math", "max", "(II)I"⟩ prog_16_method_65_code 2 (some .int) ∈ lwg := List.mem_filter.mpr ⟨List.mem_of_getElem? (i := 126) rfl, rfl⟩
set_option maxRecDepth 40000 in
theorem tw_127 : Cond.fieldLink "KitePost$Row" 13 "KitePost$Row" "cells" "[I" ∈ lwg := List.mem_filter.mpr ⟨List.mem_of_getElem? (i := 127) (by decide +kernel), rfl⟩
set_option maxRecDepth 40000 in
theorem tw_128 : Cond.fieldLink "KitePost$Row" 19 "KitePost$Row" "size" "I" ∈ lwg := List.mem_filter.mpr ⟨List.mem_of_getElem? (i := 128) (by decide +kernel), rfl⟩
set_option maxRecDepth 40000 in
theorem tw_129 : Cond.fieldLink "KitePost$Text" 56 "KitePost$Row" "size" "I" ∈ lwg := List.mem_filter.mpr ⟨List.mem_of_getElem? (i := 129) (by decide +kernel), rfl⟩
set_option maxRecDepth 40000 in
theorem tw_130 : Cond.fieldLink "KitePost" 140 "KitePost$Row" "size" "I" ∈ lwg := List.mem_filter.mpr ⟨List.mem_of_getElem? (i := 130) (by decide +kernel), rfl⟩
set_option maxRecDepth 40000 in
theorem tw_131 : Cond.fieldLink "KitePost$Post" 241 "KitePost$Row" "size" "I" ∈ lwg := List.mem_filter.mpr ⟨List.mem_of_getElem? (i := 131) (by decide +kernel), rfl⟩
set_option maxRecDepth 40000 in
theorem tw_136 : Cond.superclass "KitePost$Row" "java/lang/Object" ∈ lwg := List.mem_filter.mpr ⟨List.mem_of_getElem? (i := 136) (by decide +kernel), rfl⟩
set_option maxRecDepth 40000 in
theorem tw_137 : Cond.arrayClass .int ∈ lwg := List.mem_filter.mpr ⟨List.mem_of_getElem? (i := 137) (by decide +kernel), rfl⟩
set_option maxRecDepth 40000 in
theorem tw_138 : Cond.classLink "KitePost$Post" 51 "KitePost$Text" ∈ lwg := List.mem_filter.mpr ⟨List.mem_of_getElem? (i := 138) (by decide +kernel), rfl⟩
set_option maxRecDepth 40000 in
theorem tw_139 : Cond.instantiable "KitePost$Text" 7 ∈ lwg := List.mem_filter.mpr ⟨List.mem_of_getElem? (i := 139) (by decide +kernel), rfl⟩
set_option maxRecDepth 40000 in
theorem tw_140 : Cond.methodLink "KitePost$Post" 53 ⟨"KitePost$Text", "<init>", "(I)V"⟩ ∈ lwg := List.mem_filter.mpr ⟨List.mem_of_getElem? (i := 140) (by decide +kernel), rfl⟩
set_option maxRecDepth 40000 in
theorem tw_141 : Cond.instanceMethod ⟨"KitePost$Text", "<init>", "(I)V"⟩ ∈ lwg := List.mem_filter.mpr ⟨List.mem_of_getElem? (i := 141) (by decide +kernel), rfl⟩
set_option maxRecDepth 40000 in
theorem tw_142 : Cond.code ⟨"KitePost$Text", "<init>", "(I)V"⟩ prog_12_method_1_code 2 none ∈ lwg := List.mem_filter.mpr ⟨List.mem_of_getElem? (i := 142) rfl, rfl⟩
set_option maxRecDepth 40000 in
theorem tw_143 : Cond.methodLink "KitePost$Text" 3 ⟨"java/lang/Object", "<init>", "()V"⟩ ∈ lwg := List.mem_filter.mpr ⟨List.mem_of_getElem? (i := 143) (by decide +kernel), rfl⟩
set_option maxRecDepth 40000 in
theorem tw_144 : Cond.classLink "KitePost$Text" 9 "KitePost$Row" ∈ lwg := List.mem_filter.mpr ⟨List.mem_of_getElem? (i := 144) (by decide +kernel), rfl⟩
set_option maxRecDepth 40000 in
theorem tw_145 : Cond.methodLink "KitePost$Text" 11 ⟨"KitePost$Row", "<init>", "(I)V"⟩ ∈ lwg := List.mem_filter.mpr ⟨List.mem_of_getElem? (i := 145) (by decide +kernel), rfl⟩
set_option maxRecDepth 40000 in
theorem tw_146 : Cond.methodLink "KitePost$Text" 31 ⟨"KitePost$Row", "add", "(I)Z"⟩ ∈ lwg := List.mem_filter.mpr ⟨List.mem_of_getElem? (i := 146) (by decide +kernel), rfl⟩
set_option maxRecDepth 40000 in
theorem tw_147 : Cond.instanceMethod ⟨"KitePost$Row", "add", "(I)Z"⟩ ∈ lwg := List.mem_filter.mpr ⟨List.mem_of_getElem? (i := 147) (by decide +kernel), rfl⟩
set_option maxRecDepth 40000 in
theorem tw_148 : Cond.selects "KitePost$Row" ⟨"KitePost$Row", "add", "(I)Z"⟩ ⟨"KitePost$Row", "add", "(I)Z"⟩ ∈ lwg := List.mem_filter.mpr ⟨List.mem_of_getElem? (i := 148) (by decide +kernel), rfl⟩
set_option maxRecDepth 40000 in
theorem tw_149 : Cond.code ⟨"KitePost$Row", "add", "(I)Z"⟩ prog_8_method_2_code 2 (some .boolean) ∈ lwg := List.mem_filter.mpr ⟨List.mem_of_getElem? (i := 149) rfl, rfl⟩
set_option maxRecDepth 40000 in
theorem tw_150 : Cond.fieldLink "KitePost$Text" 27 "KitePost$Text" "use" "I" ∈ lwg := List.mem_filter.mpr ⟨List.mem_of_getElem? (i := 150) (by decide +kernel), rfl⟩
set_option maxRecDepth 40000 in
theorem tw_151 : Cond.fieldLink "KitePost$Text" 14 "KitePost$Text" "steps" "LKitePost$Row;" ∈ lwg := List.mem_filter.mpr ⟨List.mem_of_getElem? (i := 151) (by decide +kernel), rfl⟩
set_option maxRecDepth 40000 in
theorem tw_152 : Cond.fieldLink "KitePost$Text" 20 "KitePost$Text" "draft" "LKitePost$Row;" ∈ lwg := List.mem_filter.mpr ⟨List.mem_of_getElem? (i := 152) (by decide +kernel), rfl⟩
set_option maxRecDepth 40000 in
theorem tw_153 : Cond.fieldLink "KitePost$Text" 23 "KitePost$Text" "stack" "[I" ∈ lwg := List.mem_filter.mpr ⟨List.mem_of_getElem? (i := 153) (by decide +kernel), rfl⟩
set_option maxRecDepth 40000 in
theorem tw_154 : Cond.fieldLink "KitePost$Text" 39 "KitePost$Text" "tape" "LKitePost$Row;" ∈ lwg := List.mem_filter.mpr ⟨List.mem_of_getElem? (i := 154) (by decide +kernel), rfl⟩
set_option maxRecDepth 40000 in
theorem tw_155 : Cond.fieldLink "KitePost$Text" 42 "KitePost$Text" "place" "I" ∈ lwg := List.mem_filter.mpr ⟨List.mem_of_getElem? (i := 155) (by decide +kernel), rfl⟩
set_option maxRecDepth 40000 in
theorem tw_156 : Cond.fieldLink "KitePost$Text" 45 "KitePost$Text" "faulty" "Z" ∈ lwg := List.mem_filter.mpr ⟨List.mem_of_getElem? (i := 156) (by decide +kernel), rfl⟩
set_option maxRecDepth 40000 in
theorem tw_171 : Cond.superclass "KitePost$Text" "java/lang/Object" ∈ lwg := List.mem_filter.mpr ⟨List.mem_of_getElem? (i := 171) (by decide +kernel), rfl⟩
set_option maxRecDepth 40000 in
theorem tw_172 : Cond.methodLink "KitePost$Post" 65 ⟨"java/util/Arrays", "fill", "([II)V"⟩ ∈ lwg := List.mem_filter.mpr ⟨List.mem_of_getElem? (i := 172) (by decide +kernel), rfl⟩
set_option maxRecDepth 40000 in
theorem tw_173 : Cond.static ⟨"java/util/Arrays", "fill", "([II)V"⟩ ∈ lwg := List.mem_filter.mpr ⟨List.mem_of_getElem? (i := 173) (by decide +kernel), rfl⟩
set_option maxRecDepth 40000 in
theorem tw_174 : Cond.code ⟨"java/util/Arrays", "fill", "([II)V"⟩ prog_21_method_103_code 4 none ∈ lwg := List.mem_filter.mpr ⟨List.mem_of_getElem? (i := 174) rfl, rfl⟩
set_option maxRecDepth 40000 in
theorem tw_175 : Cond.fieldLink "KitePost$Post" 9 "KitePost$Post" "xs" "[I" ∈ lwg := List.mem_filter.mpr ⟨List.mem_of_getElem? (i := 175) (by decide +kernel), rfl⟩
set_option maxRecDepth 40000 in
theorem tw_176 : Cond.fieldLink "KitePost$Post" 15 "KitePost$Post" "ys" "[I" ∈ lwg := List.mem_filter.mpr ⟨List.mem_of_getElem? (i := 176) (by decide +kernel), rfl⟩
set_option maxRecDepth 40000 in
theorem tw_177 : Cond.fieldLink "KitePost$Post" 18 "KitePost$Post" "heights" "[I" ∈ lwg := List.mem_filter.mpr ⟨List.mem_of_getElem? (i := 177) (by decide +kernel), rfl⟩
set_option maxRecDepth 40000 in
theorem tw_178 : Cond.fieldLink "KitePost$Post" 77 "KitePost$Post" "hillCount" "I" ∈ lwg := List.mem_filter.mpr ⟨List.mem_of_getElem? (i := 178) (by decide +kernel), rfl⟩
set_option maxRecDepth 40000 in
theorem tw_179 : Cond.fieldLink "KitePost" 56 "KitePost$Post" "hillCount" "I" ∈ lwg := List.mem_filter.mpr ⟨List.mem_of_getElem? (i := 179) (by decide +kernel), rfl⟩
set_option maxRecDepth 40000 in
theorem tw_180 : Cond.fieldLink "KitePost$Post" 21 "KitePost$Post" "windsByHour" "[I" ∈ lwg := List.mem_filter.mpr ⟨List.mem_of_getElem? (i := 180) (by decide +kernel), rfl⟩
set_option maxRecDepth 40000 in
theorem tw_181 : Cond.fieldLink "KitePost$Post" 26 "KitePost$Post" "kites" "[LKitePost$Kite;" ∈ lwg := List.mem_filter.mpr ⟨List.mem_of_getElem? (i := 181) (by decide +kernel), rfl⟩
set_option maxRecDepth 40000 in
theorem tw_182 : Cond.fieldLink "KitePost$Post" 30 "KitePost$Post" "aims" "[I" ∈ lwg := List.mem_filter.mpr ⟨List.mem_of_getElem? (i := 182) (by decide +kernel), rfl⟩
set_option maxRecDepth 40000 in
theorem tw_183 : Cond.fieldLink "KitePost$Post" 80 "KitePost$Post" "kiteCount" "I" ∈ lwg := List.mem_filter.mpr ⟨List.mem_of_getElem? (i := 183) (by decide +kernel), rfl⟩
set_option maxRecDepth 40000 in
theorem tw_184 : Cond.fieldLink "KitePost" 84 "KitePost$Post" "kiteCount" "I" ∈ lwg := List.mem_filter.mpr ⟨List.mem_of_getElem? (i := 184) (by decide +kernel), rfl⟩
set_option maxRecDepth 40000 in
theorem tw_185 : Cond.fieldLink "KitePost$Post" 33 "KitePost$Post" "letters" "[I" ∈ lwg := List.mem_filter.mpr ⟨List.mem_of_getElem? (i := 185) (by decide +kernel), rfl⟩
set_option maxRecDepth 40000 in
theorem tw_186 : Cond.fieldLink "KitePost$Post" 83 "KitePost$Post" "letterCount" "I" ∈ lwg := List.mem_filter.mpr ⟨List.mem_of_getElem? (i := 186) (by decide +kernel), rfl⟩
set_option maxRecDepth 40000 in
theorem tw_187 : Cond.fieldLink "KitePost" 179 "KitePost$Post" "letterCount" "I" ∈ lwg := List.mem_filter.mpr ⟨List.mem_of_getElem? (i := 187) (by decide +kernel), rfl⟩
set_option maxRecDepth 40000 in
theorem tw_188 : Cond.fieldLink "KitePost$Post" 41 "KitePost$Post" "arrivals" "LKitePost$Row;" ∈ lwg := List.mem_filter.mpr ⟨List.mem_of_getElem? (i := 188) (by decide +kernel), rfl⟩
set_option maxRecDepth 40000 in
theorem tw_189 : Cond.fieldLink "KitePost" 202 "KitePost$Post" "arrivals" "LKitePost$Row;" ∈ lwg := List.mem_filter.mpr ⟨List.mem_of_getElem? (i := 189) (by decide +kernel), rfl⟩
set_option maxRecDepth 40000 in
theorem tw_190 : Cond.fieldLink "KitePost$Post" 45 "KitePost$Post" "tape" "LKitePost$Row;" ∈ lwg := List.mem_filter.mpr ⟨List.mem_of_getElem? (i := 190) (by decide +kernel), rfl⟩
set_option maxRecDepth 40000 in
theorem tw_191 : Cond.fieldLink "KitePost" 137 "KitePost$Post" "tape" "LKitePost$Row;" ∈ lwg := List.mem_filter.mpr ⟨List.mem_of_getElem? (i := 191) (by decide +kernel), rfl⟩
set_option maxRecDepth 40000 in
theorem tw_192 : Cond.fieldLink "KitePost$Post" 48 "KitePost$Post" "waiting" "LKitePost$Row;" ∈ lwg := List.mem_filter.mpr ⟨List.mem_of_getElem? (i := 192) (by decide +kernel), rfl⟩
set_option maxRecDepth 40000 in
theorem tw_193 : Cond.fieldLink "KitePost" 286 "KitePost$Post" "waiting" "LKitePost$Row;" ∈ lwg := List.mem_filter.mpr ⟨List.mem_of_getElem? (i := 193) (by decide +kernel), rfl⟩
set_option maxRecDepth 40000 in
theorem tw_194 : Cond.fieldLink "KitePost$Post" 54 "KitePost$Post" "lifting" "LKitePost$Text;" ∈ lwg := List.mem_filter.mpr ⟨List.mem_of_getElem? (i := 194) (by decide +kernel), rfl⟩
set_option maxRecDepth 40000 in
theorem tw_195 : Cond.fieldLink "KitePost" 146 "KitePost$Post" "lifting" "LKitePost$Text;" ∈ lwg := List.mem_filter.mpr ⟨List.mem_of_getElem? (i := 195) (by decide +kernel), rfl⟩
set_option maxRecDepth 40000 in
theorem tw_196 : Cond.fieldLink "KitePost$Post" 58 "KitePost$Post" "paying" "LKitePost$Text;" ∈ lwg := List.mem_filter.mpr ⟨List.mem_of_getElem? (i := 196) (by decide +kernel), rfl⟩
set_option maxRecDepth 40000 in
theorem tw_197 : Cond.fieldLink "KitePost" 150 "KitePost$Post" "paying" "LKitePost$Text;" ∈ lwg := List.mem_filter.mpr ⟨List.mem_of_getElem? (i := 197) (by decide +kernel), rfl⟩
set_option maxRecDepth 40000 in
theorem tw_198 : Cond.fieldLink "KitePost$Post" 93 "KitePost$Post" "time" "I" ∈ lwg := List.mem_filter.mpr ⟨List.mem_of_getElem? (i := 198) (by decide +kernel), rfl⟩
set_option maxRecDepth 40000 in
theorem tw_199 : Cond.fieldLink "KitePost" 122 "KitePost$Post" "time" "I" ∈ lwg := List.mem_filter.mpr ⟨List.mem_of_getElem? (i := 199) (by decide +kernel), rfl⟩
set_option maxRecDepth 40000 in
theorem tw_200 : Cond.fieldLink "KitePost$Post" 96 "KitePost$Post" "paid" "I" ∈ lwg := List.mem_filter.mpr ⟨List.mem_of_getElem? (i := 200) (by decide +kernel), rfl⟩
set_option maxRecDepth 40000 in
theorem tw_201 : Cond.fieldLink "KitePost" 205 "KitePost$Post" "paid" "I" ∈ lwg := List.mem_filter.mpr ⟨List.mem_of_getElem? (i := 201) (by decide +kernel), rfl⟩
set_option maxRecDepth 40000 in
theorem tw_202 : Cond.fieldLink "KitePost$Post" 61 "KitePost$Post" "drawn" "I" ∈ lwg := List.mem_filter.mpr ⟨List.mem_of_getElem? (i := 202) (by decide +kernel), rfl⟩
set_option maxRecDepth 40000 in
theorem tw_203 : Cond.fieldLink "KitePost" 234 "KitePost$Post" "drawn" "I" ∈ lwg := List.mem_filter.mpr ⟨List.mem_of_getElem? (i := 203) (by decide +kernel), rfl⟩
set_option maxRecDepth 40000 in
theorem tw_240 : Cond.superclass "KitePost$Post" "java/lang/Object" ∈ lwg := List.mem_filter.mpr ⟨List.mem_of_getElem? (i := 240) (by decide +kernel), rfl⟩
set_option maxRecDepth 40000 in
theorem tw_241 : Cond.classLink "KitePost" 22 "KitePost$Row" ∈ lwg := List.mem_filter.mpr ⟨List.mem_of_getElem? (i := 241) (by decide +kernel), rfl⟩
set_option maxRecDepth 40000 in
theorem tw_242 : Cond.methodLink "KitePost" 24 ⟨"KitePost$Row", "<init>", "(I)V"⟩ ∈ lwg := List.mem_filter.mpr ⟨List.mem_of_getElem? (i := 242) (by decide +kernel), rfl⟩
set_option maxRecDepth 40000 in
theorem tw_243 : Cond.classLink "KitePost" 31 "KitePost$Sheet" ∈ lwg := List.mem_filter.mpr ⟨List.mem_of_getElem? (i := 243) (by decide +kernel), rfl⟩
set_option maxRecDepth 40000 in
theorem tw_245 : Cond.instantiable "KitePost$Sheet" 3 ∈ lwg := List.mem_filter.mpr ⟨List.mem_of_getElem? (i := 245) (by decide +kernel), rfl⟩
set_option maxRecDepth 40000 in
theorem tw_247 : Cond.instanceMethod ⟨"KitePost$Sheet", "<init>", "()V"⟩ ∈ lwg := List.mem_filter.mpr ⟨List.mem_of_getElem? (i := 247) (by decide +kernel), rfl⟩
set_option maxRecDepth 40000 in
theorem tw_248 : Cond.code ⟨"KitePost$Sheet", "<init>", "()V"⟩ prog_9_method_1_code 1 none ∈ lwg := List.mem_filter.mpr ⟨List.mem_of_getElem? (i := 248) rfl, rfl⟩
set_option maxRecDepth 40000 in
theorem tw_249 : Cond.methodLink "KitePost$Sheet" 3 ⟨"java/lang/Object", "<init>", "()V"⟩ ∈ lwg := List.mem_filter.mpr ⟨List.mem_of_getElem? (i := 249) (by decide +kernel), rfl⟩
set_option maxRecDepth 40000 in
theorem tw_250 : Cond.fieldLink "KitePost$Sheet" 9 "KitePost$Sheet" "numbers" "[I" ∈ lwg := List.mem_filter.mpr ⟨List.mem_of_getElem? (i := 250) (by decide +kernel), rfl⟩
set_option maxRecDepth 40000 in
theorem tw_251 : Cond.fieldLink "KitePost" 271 "KitePost$Sheet" "numbers" "[I" ∈ lwg := List.mem_filter.mpr ⟨List.mem_of_getElem? (i := 251) (by decide +kernel), rfl⟩
set_option maxRecDepth 40000 in
theorem tw_252 : Cond.fieldLink "KitePost$Sheet" 15 "KitePost$Sheet" "bits" "I" ∈ lwg := List.mem_filter.mpr ⟨List.mem_of_getElem? (i := 252) (by decide +kernel), rfl⟩
set_option maxRecDepth 40000 in
theorem tw_253 : Cond.fieldLink "KitePost" 265 "KitePost$Sheet" "bits" "I" ∈ lwg := List.mem_filter.mpr ⟨List.mem_of_getElem? (i := 253) (by decide +kernel), rfl⟩
set_option maxRecDepth 40000 in
theorem tw_254 : Cond.fieldLink "KitePost$Sheet" 19 "KitePost$Sheet" "size" "I" ∈ lwg := List.mem_filter.mpr ⟨List.mem_of_getElem? (i := 254) (by decide +kernel), rfl⟩
set_option maxRecDepth 40000 in
theorem tw_255 : Cond.fieldLink "KitePost" 261 "KitePost$Sheet" "size" "I" ∈ lwg := List.mem_filter.mpr ⟨List.mem_of_getElem? (i := 255) (by decide +kernel), rfl⟩
set_option maxRecDepth 40000 in
theorem tw_262 : Cond.superclass "KitePost$Sheet" "java/lang/Object" ∈ lwg := List.mem_filter.mpr ⟨List.mem_of_getElem? (i := 262) (by decide +kernel), rfl⟩
set_option maxRecDepth 40000 in
theorem tw_263 : Cond.fieldLink "KitePost" 10 "KitePost" "post" "LKitePost$Post;" ∈ lwg := List.mem_filter.mpr ⟨List.mem_of_getElem? (i := 263) (by decide +kernel), rfl⟩
set_option maxRecDepth 40000 in
theorem tw_264 : Cond.fieldLink "KitePost" 16 "KitePost" "ahead" "LKitePost$Post;" ∈ lwg := List.mem_filter.mpr ⟨List.mem_of_getElem? (i := 264) (by decide +kernel), rfl⟩
set_option maxRecDepth 40000 in
theorem tw_265 : Cond.fieldLink "KitePost" 19 "KitePost" "kept" "LKitePost$Post;" ∈ lwg := List.mem_filter.mpr ⟨List.mem_of_getElem? (i := 265) (by decide +kernel), rfl⟩
set_option maxRecDepth 40000 in
theorem tw_266 : Cond.fieldLink "KitePost" 27 "KitePost" "bodies" "LKitePost$Row;" ∈ lwg := List.mem_filter.mpr ⟨List.mem_of_getElem? (i := 266) (by decide +kernel), rfl⟩
set_option maxRecDepth 40000 in
theorem tw_267 : Cond.fieldLink "KitePost" 33 "KitePost" "sheets" "[LKitePost$Sheet;" ∈ lwg := List.mem_filter.mpr ⟨List.mem_of_getElem? (i := 267) (by decide +kernel), rfl⟩
set_option maxRecDepth 40000 in
theorem tw_268 : Cond.fieldLink "KitePost" 37 "KitePost" "errors" "[I" ∈ lwg := List.mem_filter.mpr ⟨List.mem_of_getElem? (i := 268) (by decide +kernel), rfl⟩
set_option maxRecDepth 40000 in
theorem tw_269 : Cond.fieldLink "KitePost" 41 "KitePost" "reach" "[I" ∈ lwg := List.mem_filter.mpr ⟨List.mem_of_getElem? (i := 269) (by decide +kernel), rfl⟩
set_option maxRecDepth 40000 in
theorem tw_270 : Cond.fieldLink "KitePost" 283 "KitePost" "images" "I" ∈ lwg := List.mem_filter.mpr ⟨List.mem_of_getElem? (i := 270) (by decide +kernel), rfl⟩
set_option maxRecDepth 40000 in
theorem tw_287 : Cond.superclass "KitePost" "java/lang/Object" ∈ lwg := List.mem_filter.mpr ⟨List.mem_of_getElem? (i := 287) (by decide +kernel), rfl⟩
set_option maxRecDepth 40000 in
theorem tw_288 : Cond.methodLink "KitePostLaw" 13 ⟨"KitePost", "hill", "(II)I"⟩ ∈ lwg := List.mem_filter.mpr ⟨List.mem_of_getElem? (i := 288) (by decide +kernel), rfl⟩
set_option maxRecDepth 40000 in
theorem tw_289 : Cond.instanceMethod ⟨"KitePost", "hill", "(II)I"⟩ ∈ lwg := List.mem_filter.mpr ⟨List.mem_of_getElem? (i := 289) (by decide +kernel), rfl⟩
set_option maxRecDepth 40000 in
theorem tw_290 : Cond.selects "KitePost" ⟨"KitePost", "hill", "(II)I"⟩ ⟨"KitePost", "hill", "(II)I"⟩ ∈ lwg := List.mem_filter.mpr ⟨List.mem_of_getElem? (i := 290) (by decide +kernel), rfl⟩
set_option maxRecDepth 40000 in
theorem tw_291 : Cond.code ⟨"KitePost", "hill", "(II)I"⟩ prog_1_method_2_code 3 (some .int) ∈ lwg := List.mem_filter.mpr ⟨List.mem_of_getElem? (i := 291) rfl, rfl⟩
set_option maxRecDepth 40000 in
theorem tw_292 : Cond.methodLink "KitePost" 45 ⟨"KitePost", "within", "(III)Z"⟩ ∈ lwg := List.mem_filter.mpr ⟨List.mem_of_getElem? (i := 292) (by decide +kernel), rfl⟩
set_option maxRecDepth 40000 in
theorem tw_293 : Cond.static ⟨"KitePost", "within", "(III)Z"⟩ ∈ lwg := List.mem_filter.mpr ⟨List.mem_of_getElem? (i := 293) (by decide +kernel), rfl⟩
set_option maxRecDepth 40000 in
theorem tw_294 : Cond.code ⟨"KitePost", "within", "(III)Z"⟩ prog_1_method_42_code 3 (some .boolean) ∈ lwg := List.mem_filter.mpr ⟨List.mem_of_getElem? (i := 294) rfl, rfl⟩
set_option maxRecDepth 40000 in
theorem tw_295 : Cond.methodLink "KitePost" 49 ⟨"KitePost", "error", "(I)I"⟩ ∈ lwg := List.mem_filter.mpr ⟨List.mem_of_getElem? (i := 295) (by decide +kernel), rfl⟩
set_option maxRecDepth 40000 in
theorem tw_297 : Cond.instanceMethod ⟨"KitePost", "error", "(I)I"⟩ ∈ lwg := List.mem_filter.mpr ⟨List.mem_of_getElem? (i := 297) (by decide +kernel), rfl⟩
set_option maxRecDepth 40000 in
theorem tw_298 : Cond.code ⟨"KitePost", "error", "(I)I"⟩ prog_1_method_43_code 2 (some .int) ∈ lwg := List.mem_filter.mpr ⟨List.mem_of_getElem? (i := 298) rfl, rfl⟩
set_option maxRecDepth 40000 in
theorem tw_299 : Cond.constant "KitePost" 289 (-1000000000) ∈ lwg := List.mem_filter.mpr ⟨List.mem_of_getElem? (i := 299) (by decide +kernel), rfl⟩
set_option maxRecDepth 40000 in
theorem tw_300 : Cond.methodLink "KitePost" 53 ⟨"KitePost$Post", "hillAt", "(I)I"⟩ ∈ lwg := List.mem_filter.mpr ⟨List.mem_of_getElem? (i := 300) (by decide +kernel), rfl⟩
set_option maxRecDepth 40000 in
theorem tw_301 : Cond.instanceMethod ⟨"KitePost$Post", "hillAt", "(I)I"⟩ ∈ lwg := List.mem_filter.mpr ⟨List.mem_of_getElem? (i := 301) (by decide +kernel), rfl⟩
set_option maxRecDepth 40000 in
theorem tw_302 : Cond.selects "KitePost$Post" ⟨"KitePost$Post", "hillAt", "(I)I"⟩ ⟨"KitePost$Post", "hillAt", "(I)I"⟩ ∈ lwg := List.mem_filter.mpr ⟨List.mem_of_getElem? (i := 302) (by decide +kernel), rfl⟩
set_option maxRecDepth 40000 in
theorem tw_303 : Cond.code ⟨"KitePost$Post", "hillAt", "(I)I"⟩ prog_7_method_5_code 3 (some .int) ∈ lwg := List.mem_filter.mpr ⟨List.mem_of_getElem? (i := 303) rfl, rfl⟩
set_option maxRecDepth 40000 in
theorem tw_304 : Cond.methodLink "KitePost$Post" 103 ⟨"KitePost$Post", "placeOf", "(I)I"⟩ ∈ lwg := List.mem_filter.mpr ⟨List.mem_of_getElem? (i := 304) (by decide +kernel), rfl⟩
set_option maxRecDepth 40000 in
theorem tw_305 : Cond.instanceMethod ⟨"KitePost$Post", "placeOf", "(I)I"⟩ ∈ lwg := List.mem_filter.mpr ⟨List.mem_of_getElem? (i := 305) (by decide +kernel), rfl⟩
set_option maxRecDepth 40000 in
theorem tw_306 : Cond.selects "KitePost$Post" ⟨"KitePost$Post", "placeOf", "(I)I"⟩ ⟨"KitePost$Post", "placeOf", "(I)I"⟩ ∈ lwg := List.mem_filter.mpr ⟨List.mem_of_getElem? (i := 306) (by decide +kernel), rfl⟩
set_option maxRecDepth 40000 in
theorem tw_307 : Cond.code ⟨"KitePost$Post", "placeOf", "(I)I"⟩ prog_7_method_8_code 2 (some .int) ∈ lwg := List.mem_filter.mpr ⟨List.mem_of_getElem? (i := 307) rfl, rfl⟩
set_option maxRecDepth 40000 in
theorem tw_308 : Cond.methodLink "KitePost$Post" 111 ⟨"KitePost$Post", "xOf", "(I)I"⟩ ∈ lwg := List.mem_filter.mpr ⟨List.mem_of_getElem? (i := 308) (by decide +kernel), rfl⟩
set_option maxRecDepth 40000 in
theorem tw_310 : Cond.instanceMethod ⟨"KitePost$Post", "xOf", "(I)I"⟩ ∈ lwg := List.mem_filter.mpr ⟨List.mem_of_getElem? (i := 310) (by decide +kernel), rfl⟩
set_option maxRecDepth 40000 in
theorem tw_311 : Cond.code ⟨"KitePost$Post", "xOf", "(I)I"⟩ prog_7_method_10_code 2 (some .int) ∈ lwg := List.mem_filter.mpr ⟨List.mem_of_getElem? (i := 311) rfl, rfl⟩
set_option maxRecDepth 40000 in
theorem tw_312 : Cond.methodLink "KitePost$Post" 114 ⟨"KitePost$Post", "yOf", "(I)I"⟩ ∈ lwg := List.mem_filter.mpr ⟨List.mem_of_getElem? (i := 312) (by decide +kernel), rfl⟩
set_option maxRecDepth 40000 in
theorem tw_314 : Cond.instanceMethod ⟨"KitePost$Post", "yOf", "(I)I"⟩ ∈ lwg := List.mem_filter.mpr ⟨List.mem_of_getElem? (i := 314) (by decide +kernel), rfl⟩
set_option maxRecDepth 40000 in
theorem tw_315 : Cond.code ⟨"KitePost$Post", "yOf", "(I)I"⟩ prog_7_method_11_code 2 (some .int) ∈ lwg := List.mem_filter.mpr ⟨List.mem_of_getElem? (i := 315) rfl, rfl⟩
set_option maxRecDepth 40000 in
theorem tw_316 : Cond.methodLink "KitePost" 60 ⟨"KitePost$Post", "addHill", "(II)I"⟩ ∈ lwg := List.mem_filter.mpr ⟨List.mem_of_getElem? (i := 316) (by decide +kernel), rfl⟩
set_option maxRecDepth 40000 in
theorem tw_317 : Cond.instanceMethod ⟨"KitePost$Post", "addHill", "(II)I"⟩ ∈ lwg := List.mem_filter.mpr ⟨List.mem_of_getElem? (i := 317) (by decide +kernel), rfl⟩
set_option maxRecDepth 40000 in
theorem tw_318 : Cond.selects "KitePost$Post" ⟨"KitePost$Post", "addHill", "(II)I"⟩ ⟨"KitePost$Post", "addHill", "(II)I"⟩ ∈ lwg := List.mem_filter.mpr ⟨List.mem_of_getElem? (i := 318) (by decide +kernel), rfl⟩
set_option maxRecDepth 40000 in
theorem tw_319 : Cond.code ⟨"KitePost$Post", "addHill", "(II)I"⟩ prog_7_method_6_code 4 (some .int) ∈ lwg := List.mem_filter.mpr ⟨List.mem_of_getElem? (i := 319) rfl, rfl⟩
set_option maxRecDepth 40000 in
theorem tw_320 : Cond.methodLink "KitePost$Post" 107 ⟨"KitePost$Post", "changePlace", "(II)V"⟩ ∈ lwg := List.mem_filter.mpr ⟨List.mem_of_getElem? (i := 320) (by decide +kernel), rfl⟩
set_option maxRecDepth 40000 in
theorem tw_321 : Cond.instanceMethod ⟨"KitePost$Post", "changePlace", "(II)V"⟩ ∈ lwg := List.mem_filter.mpr ⟨List.mem_of_getElem? (i := 321) (by decide +kernel), rfl⟩
set_option maxRecDepth 40000 in
theorem tw_322 : Cond.selects "KitePost$Post" ⟨"KitePost$Post", "changePlace", "(II)V"⟩ ⟨"KitePost$Post", "changePlace", "(II)V"⟩ ∈ lwg := List.mem_filter.mpr ⟨List.mem_of_getElem? (i := 322) (by decide +kernel), rfl⟩
set_option maxRecDepth 40000 in
theorem tw_323 : Cond.code ⟨"KitePost$Post", "changePlace", "(II)V"⟩ prog_7_method_7_code 3 none ∈ lwg := List.mem_filter.mpr ⟨List.mem_of_getElem? (i := 323) rfl, rfl⟩
set_option maxRecDepth 40000 in
theorem tw_324 : Cond.methodLink "KitePost$Post" 99 ⟨"KitePost$Post", "isHill", "(I)Z"⟩ ∈ lwg := List.mem_filter.mpr ⟨List.mem_of_getElem? (i := 324) (by decide +kernel), rfl⟩
set_option maxRecDepth 40000 in
theorem tw_325 : Cond.instanceMethod ⟨"KitePost$Post", "isHill", "(I)Z"⟩ ∈ lwg := List.mem_filter.mpr ⟨List.mem_of_getElem? (i := 325) (by decide +kernel), rfl⟩
set_option maxRecDepth 40000 in
theorem tw_326 : Cond.selects "KitePost$Post" ⟨"KitePost$Post", "isHill", "(I)Z"⟩ ⟨"KitePost$Post", "isHill", "(I)Z"⟩ ∈ lwg := List.mem_filter.mpr ⟨List.mem_of_getElem? (i := 326) (by decide +kernel), rfl⟩
set_option maxRecDepth 40000 in
theorem tw_327 : Cond.code ⟨"KitePost$Post", "isHill", "(I)Z"⟩ prog_7_method_3_code 2 (some .boolean) ∈ lwg := List.mem_filter.mpr ⟨List.mem_of_getElem? (i := 327) rfl, rfl⟩
set_option maxRecDepth 40000 in
theorem tw_328 : Cond.methodLink "KitePostLaw" 18 ⟨"KitePost", "ofHill", "(II)I"⟩ ∈ lwg := List.mem_filter.mpr ⟨List.mem_of_getElem? (i := 328) (by decide +kernel), rfl⟩
set_option maxRecDepth 40000 in
theorem tw_329 : Cond.instanceMethod ⟨"KitePost", "ofHill", "(II)I"⟩ ∈ lwg := List.mem_filter.mpr ⟨List.mem_of_getElem? (i := 329) (by decide +kernel), rfl⟩
set_option maxRecDepth 40000 in
theorem tw_330 : Cond.selects "KitePost" ⟨"KitePost", "ofHill", "(II)I"⟩ ⟨"KitePost", "ofHill", "(II)I"⟩ ∈ lwg := List.mem_filter.mpr ⟨List.mem_of_getElem? (i := 330) (by decide +kernel), rfl⟩
set_option maxRecDepth 40000 in
theorem tw_331 : Cond.code ⟨"KitePost", "ofHill", "(II)I"⟩ prog_1_method_3_code 3 (some .int) ∈ lwg := List.mem_filter.mpr ⟨List.mem_of_getElem? (i := 331) rfl, rfl⟩
set_option maxRecDepth 40000 in
theorem tw_332 : Cond.methodLink "KitePost" 64 ⟨"KitePost$Post", "isHill", "(I)Z"⟩ ∈ lwg := List.mem_filter.mpr ⟨List.mem_of_getElem? (i := 332) (by decide +kernel), rfl⟩
set_option maxRecDepth 40000 in
theorem tw_333 : Cond.methodLink "KitePost" 68 ⟨"KitePost$Post", "placeOf", "(I)I"⟩ ∈ lwg := List.mem_filter.mpr ⟨List.mem_of_getElem? (i := 333) (by decide +kernel), rfl⟩
set_option maxRecDepth 40000 in
theorem tw_334 : Cond.methodLink "KitePost" 71 ⟨"KitePost$Post", "heightOf", "(I)I"⟩ ∈ lwg := List.mem_filter.mpr ⟨List.mem_of_getElem? (i := 334) (by decide +kernel), rfl⟩
set_option maxRecDepth 40000 in
theorem tw_335 : Cond.instanceMethod ⟨"KitePost$Post", "heightOf", "(I)I"⟩ ∈ lwg := List.mem_filter.mpr ⟨List.mem_of_getElem? (i := 335) (by decide +kernel), rfl⟩
set_option maxRecDepth 40000 in
theorem tw_336 : Cond.selects "KitePost$Post" ⟨"KitePost$Post", "heightOf", "(I)I"⟩ ⟨"KitePost$Post", "heightOf", "(I)I"⟩ ∈ lwg := List.mem_filter.mpr ⟨List.mem_of_getElem? (i := 336) (by decide +kernel), rfl⟩
set_option maxRecDepth 40000 in
theorem tw_337 : Cond.code ⟨"KitePost$Post", "heightOf", "(I)I"⟩ prog_7_method_9_code 2 (some .int) ∈ lwg := List.mem_filter.mpr ⟨List.mem_of_getElem? (i := 337) rfl, rfl⟩
set_option maxRecDepth 40000 in
theorem tw_338 : Cond.methodLink "KitePost" 74 ⟨"KitePost$Post", "lettersOn", "(I)I"⟩ ∈ lwg := List.mem_filter.mpr ⟨List.mem_of_getElem? (i := 338) (by decide +kernel), rfl⟩
set_option maxRecDepth 40000 in
theorem tw_339 : Cond.instanceMethod ⟨"KitePost$Post", "lettersOn", "(I)I"⟩ ∈ lwg := List.mem_filter.mpr ⟨List.mem_of_getElem? (i := 339) (by decide +kernel), rfl⟩
set_option maxRecDepth 40000 in
theorem tw_340 : Cond.selects "KitePost$Post" ⟨"KitePost$Post", "lettersOn", "(I)I"⟩ ⟨"KitePost$Post", "lettersOn", "(I)I"⟩ ∈ lwg := List.mem_filter.mpr ⟨List.mem_of_getElem? (i := 340) (by decide +kernel), rfl⟩
set_option maxRecDepth 40000 in
theorem tw_341 : Cond.code ⟨"KitePost$Post", "lettersOn", "(I)I"⟩ prog_7_method_36_code 4 (some .int) ∈ lwg := List.mem_filter.mpr ⟨List.mem_of_getElem? (i := 341) rfl, rfl⟩
set_option maxRecDepth 40000 in
theorem tw_342 : Cond.methodLink "KitePost$Post" 234 ⟨"KitePost$Post", "waitsOn", "(II)Z"⟩ ∈ lwg := List.mem_filter.mpr ⟨List.mem_of_getElem? (i := 342) (by decide +kernel), rfl⟩
set_option maxRecDepth 40000 in
theorem tw_344 : Cond.instanceMethod ⟨"KitePost$Post", "waitsOn", "(II)Z"⟩ ∈ lwg := List.mem_filter.mpr ⟨List.mem_of_getElem? (i := 344) (by decide +kernel), rfl⟩
set_option maxRecDepth 40000 in
theorem tw_345 : Cond.code ⟨"KitePost$Post", "waitsOn", "(II)Z"⟩ prog_7_method_35_code 3 (some .boolean) ∈ lwg := List.mem_filter.mpr ⟨List.mem_of_getElem? (i := 345) rfl, rfl⟩
set_option maxRecDepth 40000 in
theorem tw_346 : Cond.methodLink "KitePost$Post" 231 ⟨"KitePost$Post", "ofOne", "(II)I"⟩ ∈ lwg := List.mem_filter.mpr ⟨List.mem_of_getElem? (i := 346) (by decide +kernel), rfl⟩
set_option maxRecDepth 40000 in
theorem tw_347 : Cond.instanceMethod ⟨"KitePost$Post", "ofOne", "(II)I"⟩ ∈ lwg := List.mem_filter.mpr ⟨List.mem_of_getElem? (i := 347) (by decide +kernel), rfl⟩
set_option maxRecDepth 40000 in
theorem tw_348 : Cond.selects "KitePost$Post" ⟨"KitePost$Post", "ofOne", "(II)I"⟩ ⟨"KitePost$Post", "ofOne", "(II)I"⟩ ∈ lwg := List.mem_filter.mpr ⟨List.mem_of_getElem? (i := 348) (by decide +kernel), rfl⟩
set_option maxRecDepth 40000 in
theorem tw_349 : Cond.code ⟨"KitePost$Post", "ofOne", "(II)I"⟩ prog_7_method_32_code 3 (some .int) ∈ lwg := List.mem_filter.mpr ⟨List.mem_of_getElem? (i := 349) rfl, rfl⟩
set_option maxRecDepth 40000 in
theorem tw_350 : Cond.methodLink "KitePost$Post" 224 ⟨"KitePost$Post", "isLetter", "(I)Z"⟩ ∈ lwg := List.mem_filter.mpr ⟨List.mem_of_getElem? (i := 350) (by decide +kernel), rfl⟩
set_option maxRecDepth 40000 in
theorem tw_351 : Cond.instanceMethod ⟨"KitePost$Post", "isLetter", "(I)Z"⟩ ∈ lwg := List.mem_filter.mpr ⟨List.mem_of_getElem? (i := 351) (by decide +kernel), rfl⟩
set_option maxRecDepth 40000 in
theorem tw_352 : Cond.selects "KitePost$Post" ⟨"KitePost$Post", "isLetter", "(I)Z"⟩ ⟨"KitePost$Post", "isLetter", "(I)Z"⟩ ∈ lwg := List.mem_filter.mpr ⟨List.mem_of_getElem? (i := 352) (by decide +kernel), rfl⟩
set_option maxRecDepth 40000 in
theorem tw_353 : Cond.code ⟨"KitePost$Post", "isLetter", "(I)Z"⟩ prog_7_method_31_code 2 (some .boolean) ∈ lwg := List.mem_filter.mpr ⟨List.mem_of_getElem? (i := 353) rfl, rfl⟩
set_option maxRecDepth 40000 in
theorem tw_355 : Cond.methodLink "KitePostLaw" 22 ⟨"KitePost", "wind", "(II)I"⟩ ∈ lwg := List.mem_filter.mpr ⟨List.mem_of_getElem? (i := 355) (by decide +kernel), rfl⟩
set_option maxRecDepth 40000 in
theorem tw_356 : Cond.instanceMethod ⟨"KitePost", "wind", "(II)I"⟩ ∈ lwg := List.mem_filter.mpr ⟨List.mem_of_getElem? (i := 356) (by decide +kernel), rfl⟩
set_option maxRecDepth 40000 in
theorem tw_357 : Cond.selects "KitePost" ⟨"KitePost", "wind", "(II)I"⟩ ⟨"KitePost", "wind", "(II)I"⟩ ∈ lwg := List.mem_filter.mpr ⟨List.mem_of_getElem? (i := 357) (by decide +kernel), rfl⟩
set_option maxRecDepth 40000 in
theorem tw_358 : Cond.code ⟨"KitePost", "wind", "(II)I"⟩ prog_1_method_4_code 4 (some .int) ∈ lwg := List.mem_filter.mpr ⟨List.mem_of_getElem? (i := 358) rfl, rfl⟩
set_option maxRecDepth 40000 in
theorem tw_359 : Cond.methodLink "KitePost" 77 ⟨"KitePost$Post", "windAt", "(I)I"⟩ ∈ lwg := List.mem_filter.mpr ⟨List.mem_of_getElem? (i := 359) (by decide +kernel), rfl⟩
set_option maxRecDepth 40000 in
theorem tw_360 : Cond.instanceMethod ⟨"KitePost$Post", "windAt", "(I)I"⟩ ∈ lwg := List.mem_filter.mpr ⟨List.mem_of_getElem? (i := 360) (by decide +kernel), rfl⟩
set_option maxRecDepth 40000 in
theorem tw_361 : Cond.selects "KitePost$Post" ⟨"KitePost$Post", "windAt", "(I)I"⟩ ⟨"KitePost$Post", "windAt", "(I)I"⟩ ∈ lwg := List.mem_filter.mpr ⟨List.mem_of_getElem? (i := 361) (by decide +kernel), rfl⟩
set_option maxRecDepth 40000 in
theorem tw_362 : Cond.code ⟨"KitePost$Post", "windAt", "(I)I"⟩ prog_7_method_13_code 3 (some .int) ∈ lwg := List.mem_filter.mpr ⟨List.mem_of_getElem? (i := 362) rfl, rfl⟩
set_option maxRecDepth 40000 in
theorem tw_363 : Cond.methodLink "KitePost" 80 ⟨"KitePost$Post", "changeWind", "(II)V"⟩ ∈ lwg := List.mem_filter.mpr ⟨List.mem_of_getElem? (i := 363) (by decide +kernel), rfl⟩
set_option maxRecDepth 40000 in
theorem tw_364 : Cond.instanceMethod ⟨"KitePost$Post", "changeWind", "(II)V"⟩ ∈ lwg := List.mem_filter.mpr ⟨List.mem_of_getElem? (i := 364) (by decide +kernel), rfl⟩
set_option maxRecDepth 40000 in
theorem tw_365 : Cond.selects "KitePost$Post" ⟨"KitePost$Post", "changeWind", "(II)V"⟩ ⟨"KitePost$Post", "changeWind", "(II)V"⟩ ∈ lwg := List.mem_filter.mpr ⟨List.mem_of_getElem? (i := 365) (by decide +kernel), rfl⟩
set_option maxRecDepth 40000 in
theorem tw_366 : Cond.code ⟨"KitePost$Post", "changeWind", "(II)V"⟩ prog_7_method_14_code 3 none ∈ lwg := List.mem_filter.mpr ⟨List.mem_of_getElem? (i := 366) rfl, rfl⟩
set_option maxRecDepth 40000 in
theorem tw_367 : Cond.methodLink "KitePostLaw" 26 ⟨"KitePost", "kite", "(III)I"⟩ ∈ lwg := List.mem_filter.mpr ⟨List.mem_of_getElem? (i := 367) (by decide +kernel), rfl⟩
set_option maxRecDepth 40000 in
theorem tw_368 : Cond.instanceMethod ⟨"KitePost", "kite", "(III)I"⟩ ∈ lwg := List.mem_filter.mpr ⟨List.mem_of_getElem? (i := 368) (by decide +kernel), rfl⟩
set_option maxRecDepth 40000 in
theorem tw_369 : Cond.selects "KitePost" ⟨"KitePost", "kite", "(III)I"⟩ ⟨"KitePost", "kite", "(III)I"⟩ ∈ lwg := List.mem_filter.mpr ⟨List.mem_of_getElem? (i := 369) (by decide +kernel), rfl⟩
set_option maxRecDepth 40000 in
theorem tw_370 : Cond.code ⟨"KitePost", "kite", "(III)I"⟩ prog_1_method_5_code 4 (some .int) ∈ lwg := List.mem_filter.mpr ⟨List.mem_of_getElem? (i := 370) rfl, rfl⟩
set_option maxRecDepth 40000 in
theorem tw_371 : Cond.methodLink "KitePost" 87 ⟨"KitePost$Post", "addKite", "(III)I"⟩ ∈ lwg := List.mem_filter.mpr ⟨List.mem_of_getElem? (i := 371) (by decide +kernel), rfl⟩
set_option maxRecDepth 40000 in
theorem tw_372 : Cond.instanceMethod ⟨"KitePost$Post", "addKite", "(III)I"⟩ ∈ lwg := List.mem_filter.mpr ⟨List.mem_of_getElem? (i := 372) (by decide +kernel), rfl⟩
set_option maxRecDepth 40000 in
theorem tw_373 : Cond.selects "KitePost$Post" ⟨"KitePost$Post", "addKite", "(III)I"⟩ ⟨"KitePost$Post", "addKite", "(III)I"⟩ ∈ lwg := List.mem_filter.mpr ⟨List.mem_of_getElem? (i := 373) (by decide +kernel), rfl⟩
set_option maxRecDepth 40000 in
theorem tw_374 : Cond.code ⟨"KitePost$Post", "addKite", "(III)I"⟩ prog_7_method_16_code 4 (some .int) ∈ lwg := List.mem_filter.mpr ⟨List.mem_of_getElem? (i := 374) rfl, rfl⟩
set_option maxRecDepth 40000 in
theorem tw_375 : Cond.methodLink "KitePost$Post" 126 ⟨"KitePost$Post", "made", "(IIII)LKitePost$Kite;"⟩ ∈ lwg := List.mem_filter.mpr ⟨List.mem_of_getElem? (i := 375) (by decide +kernel), rfl⟩
set_option maxRecDepth 40000 in
theorem tw_376 : Cond.static ⟨"KitePost$Post", "made", "(IIII)LKitePost$Kite;"⟩ ∈ lwg := List.mem_filter.mpr ⟨List.mem_of_getElem? (i := 376) (by decide +kernel), rfl⟩
set_option maxRecDepth 40000 in
theorem tw_377 : Cond.code ⟨"KitePost$Post", "made", "(IIII)LKitePost$Kite;"⟩ prog_7_method_17_code 4 (some (.object "KitePost$Kite")) ∈ lwg := List.mem_filter.mpr ⟨List.mem_of_getElem? (i := 377) rfl, rfl⟩
set_option maxRecDepth 40000 in
theorem tw_378 : Cond.classLink "KitePost$Post" 130 "KitePost$Boxed" ∈ lwg := List.mem_filter.mpr ⟨List.mem_of_getElem? (i := 378) (by decide +kernel), rfl⟩
set_option maxRecDepth 40000 in
theorem tw_379 : Cond.instantiable "KitePost$Boxed" 6 ∈ lwg := List.mem_filter.mpr ⟨List.mem_of_getElem? (i := 379) (by decide +kernel), rfl⟩
set_option maxRecDepth 40000 in
theorem tw_380 : Cond.methodLink "KitePost$Post" 132 ⟨"KitePost$Boxed", "<init>", "(IIII)V"⟩ ∈ lwg := List.mem_filter.mpr ⟨List.mem_of_getElem? (i := 380) (by decide +kernel), rfl⟩
set_option maxRecDepth 40000 in
theorem tw_381 : Cond.instanceMethod ⟨"KitePost$Boxed", "<init>", "(IIII)V"⟩ ∈ lwg := List.mem_filter.mpr ⟨List.mem_of_getElem? (i := 381) (by decide +kernel), rfl⟩
set_option maxRecDepth 40000 in
theorem tw_382 : Cond.code ⟨"KitePost$Boxed", "<init>", "(IIII)V"⟩ prog_2_method_1_code 5 none ∈ lwg := List.mem_filter.mpr ⟨List.mem_of_getElem? (i := 382) rfl, rfl⟩
set_option maxRecDepth 40000 in
theorem tw_383 : Cond.methodLink "KitePost$Boxed" 1 ⟨"KitePost$Kite", "<init>", "(IIII)V"⟩ ∈ lwg := List.mem_filter.mpr ⟨List.mem_of_getElem? (i := 383) (by decide +kernel), rfl⟩
set_option maxRecDepth 40000 in
theorem tw_384 : Cond.instanceMethod ⟨"KitePost$Kite", "<init>", "(IIII)V"⟩ ∈ lwg := List.mem_filter.mpr ⟨List.mem_of_getElem? (i := 384) (by decide +kernel), rfl⟩
set_option maxRecDepth 40000 in
theorem tw_385 : Cond.code ⟨"KitePost$Kite", "<init>", "(IIII)V"⟩ prog_4_method_1_code 5 none ∈ lwg := List.mem_filter.mpr ⟨List.mem_of_getElem? (i := 385) rfl, rfl⟩
set_option maxRecDepth 40000 in
theorem tw_386 : Cond.methodLink "KitePost$Kite" 1 ⟨"java/lang/Object", "<init>", "()V"⟩ ∈ lwg := List.mem_filter.mpr ⟨List.mem_of_getElem? (i := 386) (by decide +kernel), rfl⟩
set_option maxRecDepth 40000 in
theorem tw_387 : Cond.fieldLink "KitePost$Kite" 7 "KitePost$Kite" "number" "I" ∈ lwg := List.mem_filter.mpr ⟨List.mem_of_getElem? (i := 387) (by decide +kernel), rfl⟩
set_option maxRecDepth 40000 in
theorem tw_388 : Cond.fieldLink "KitePost$Old" 21 "KitePost$Old" "number" "I" ∈ lwg := List.mem_filter.mpr ⟨List.mem_of_getElem? (i := 388) (by decide +kernel), rfl⟩
set_option maxRecDepth 40000 in
theorem tw_389 : Cond.sameField "KitePost$Old" "KitePost$Kite" "number" "I" ∈ lwg := List.mem_filter.mpr ⟨List.mem_of_getElem? (i := 389) (by decide +kernel), rfl⟩
set_option maxRecDepth 40000 in
theorem tw_390 : Cond.fieldLink "KitePost$Kite" 13 "KitePost$Kite" "kind" "I" ∈ lwg := List.mem_filter.mpr ⟨List.mem_of_getElem? (i := 390) (by decide +kernel), rfl⟩
set_option maxRecDepth 40000 in
theorem tw_391 : Cond.fieldLink "KitePost" 95 "KitePost$Kite" "kind" "I" ∈ lwg := List.mem_filter.mpr ⟨List.mem_of_getElem? (i := 391) (by decide +kernel), rfl⟩
set_option maxRecDepth 40000 in
theorem tw_392 : Cond.fieldLink "KitePost$Post" 174 "KitePost$Kite" "kind" "I" ∈ lwg := List.mem_filter.mpr ⟨List.mem_of_getElem? (i := 392) (by decide +kernel), rfl⟩
set_option maxRecDepth 40000 in
theorem tw_393 : Cond.fieldLink "KitePost$Kite" 16 "KitePost$Kite" "mark" "I" ∈ lwg := List.mem_filter.mpr ⟨List.mem_of_getElem? (i := 393) (by decide +kernel), rfl⟩
set_option maxRecDepth 40000 in
theorem tw_394 : Cond.fieldLink "KitePost$Silk" 7 "KitePost$Silk" "mark" "I" ∈ lwg := List.mem_filter.mpr ⟨List.mem_of_getElem? (i := 394) (by decide +kernel), rfl⟩
set_option maxRecDepth 40000 in
theorem tw_395 : Cond.sameField "KitePost$Silk" "KitePost$Kite" "mark" "I" ∈ lwg := List.mem_filter.mpr ⟨List.mem_of_getElem? (i := 395) (by decide +kernel), rfl⟩
set_option maxRecDepth 40000 in
theorem tw_396 : Cond.fieldLink "KitePost" 100 "KitePost$Kite" "mark" "I" ∈ lwg := List.mem_filter.mpr ⟨List.mem_of_getElem? (i := 396) (by decide +kernel), rfl⟩
set_option maxRecDepth 40000 in
theorem tw_397 : Cond.fieldLink "KitePost$Kite" 19 "KitePost$Kite" "home" "I" ∈ lwg := List.mem_filter.mpr ⟨List.mem_of_getElem? (i := 397) (by decide +kernel), rfl⟩
set_option maxRecDepth 40000 in
theorem tw_398 : Cond.fieldLink "KitePost" 103 "KitePost$Kite" "home" "I" ∈ lwg := List.mem_filter.mpr ⟨List.mem_of_getElem? (i := 398) (by decide +kernel), rfl⟩
set_option maxRecDepth 40000 in
theorem tw_399 : Cond.fieldLink "KitePost$Post" 157 "KitePost$Kite" "home" "I" ∈ lwg := List.mem_filter.mpr ⟨List.mem_of_getElem? (i := 399) (by decide +kernel), rfl⟩
set_option maxRecDepth 40000 in
theorem tw_400 : Cond.fieldLink "KitePost$Kite" 22 "KitePost$Kite" "lift" "I" ∈ lwg := List.mem_filter.mpr ⟨List.mem_of_getElem? (i := 400) (by decide +kernel), rfl⟩
set_option maxRecDepth 40000 in
theorem tw_401 : Cond.fieldLink "KitePost" 106 "KitePost$Kite" "lift" "I" ∈ lwg := List.mem_filter.mpr ⟨List.mem_of_getElem? (i := 401) (by decide +kernel), rfl⟩
set_option maxRecDepth 40000 in
theorem tw_402 : Cond.fieldLink "KitePost$Post" 164 "KitePost$Kite" "lift" "I" ∈ lwg := List.mem_filter.mpr ⟨List.mem_of_getElem? (i := 402) (by decide +kernel), rfl⟩
set_option maxRecDepth 40000 in
theorem tw_403 : Cond.fieldLink "KitePost$Kite" 25 "KitePost$Kite" "line" "I" ∈ lwg := List.mem_filter.mpr ⟨List.mem_of_getElem? (i := 403) (by decide +kernel), rfl⟩
set_option maxRecDepth 40000 in
theorem tw_404 : Cond.fieldLink "KitePost$LongTailed" 11 "KitePost$LongTailed" "line" "I" ∈ lwg := List.mem_filter.mpr ⟨List.mem_of_getElem? (i := 404) (by decide +kernel), rfl⟩
set_option maxRecDepth 40000 in
theorem tw_405 : Cond.sameField "KitePost$LongTailed" "KitePost$Kite" "line" "I" ∈ lwg := List.mem_filter.mpr ⟨List.mem_of_getElem? (i := 405) (by decide +kernel), rfl⟩
set_option maxRecDepth 40000 in
theorem tw_406 : Cond.fieldLink "KitePost" 109 "KitePost$Kite" "line" "I" ∈ lwg := List.mem_filter.mpr ⟨List.mem_of_getElem? (i := 406) (by decide +kernel), rfl⟩
set_option maxRecDepth 40000 in
theorem tw_407 : Cond.fieldLink "KitePost$Post" 181 "KitePost$Kite" "line" "I" ∈ lwg := List.mem_filter.mpr ⟨List.mem_of_getElem? (i := 407) (by decide +kernel), rfl⟩
set_option maxRecDepth 40000 in
theorem tw_420 : Cond.superclass "KitePost$Boxed" "KitePost$Kite" ∈ lwg := List.mem_filter.mpr ⟨List.mem_of_getElem? (i := 420) (by decide +kernel), rfl⟩
set_option maxRecDepth 40000 in
theorem tw_421 : Cond.classLink "KitePost$Post" 135 "KitePost$Tailed" ∈ lwg := List.mem_filter.mpr ⟨List.mem_of_getElem? (i := 421) (by decide +kernel), rfl⟩
set_option maxRecDepth 40000 in
theorem tw_422 : Cond.instantiable "KitePost$Tailed" 6 ∈ lwg := List.mem_filter.mpr ⟨List.mem_of_getElem? (i := 422) (by decide +kernel), rfl⟩
set_option maxRecDepth 40000 in
theorem tw_423 : Cond.methodLink "KitePost$Post" 137 ⟨"KitePost$Tailed", "<init>", "(IIII)V"⟩ ∈ lwg := List.mem_filter.mpr ⟨List.mem_of_getElem? (i := 423) (by decide +kernel), rfl⟩
set_option maxRecDepth 40000 in
theorem tw_424 : Cond.instanceMethod ⟨"KitePost$Tailed", "<init>", "(IIII)V"⟩ ∈ lwg := List.mem_filter.mpr ⟨List.mem_of_getElem? (i := 424) (by decide +kernel), rfl⟩
set_option maxRecDepth 40000 in
theorem tw_425 : Cond.code ⟨"KitePost$Tailed", "<init>", "(IIII)V"⟩ prog_11_method_1_code 5 none ∈ lwg := List.mem_filter.mpr ⟨List.mem_of_getElem? (i := 425) rfl, rfl⟩
set_option maxRecDepth 40000 in
theorem tw_426 : Cond.methodLink "KitePost$Tailed" 1 ⟨"KitePost$Kite", "<init>", "(IIII)V"⟩ ∈ lwg := List.mem_filter.mpr ⟨List.mem_of_getElem? (i := 426) (by decide +kernel), rfl⟩
set_option maxRecDepth 40000 in
theorem tw_433 : Cond.superclass "KitePost$Tailed" "KitePost$Kite" ∈ lwg := List.mem_filter.mpr ⟨List.mem_of_getElem? (i := 433) (by decide +kernel), rfl⟩
set_option maxRecDepth 40000 in
theorem tw_434 : Cond.classLink "KitePost$Post" 138 "KitePost$Silk" ∈ lwg := List.mem_filter.mpr ⟨List.mem_of_getElem? (i := 434) (by decide +kernel), rfl⟩
set_option maxRecDepth 40000 in
theorem tw_435 : Cond.instantiable "KitePost$Silk" 6 ∈ lwg := List.mem_filter.mpr ⟨List.mem_of_getElem? (i := 435) (by decide +kernel), rfl⟩
set_option maxRecDepth 40000 in
theorem tw_436 : Cond.methodLink "KitePost$Post" 140 ⟨"KitePost$Silk", "<init>", "(IIII)V"⟩ ∈ lwg := List.mem_filter.mpr ⟨List.mem_of_getElem? (i := 436) (by decide +kernel), rfl⟩
set_option maxRecDepth 40000 in
theorem tw_437 : Cond.instanceMethod ⟨"KitePost$Silk", "<init>", "(IIII)V"⟩ ∈ lwg := List.mem_filter.mpr ⟨List.mem_of_getElem? (i := 437) (by decide +kernel), rfl⟩
set_option maxRecDepth 40000 in
theorem tw_438 : Cond.code ⟨"KitePost$Silk", "<init>", "(IIII)V"⟩ prog_10_method_1_code 5 none ∈ lwg := List.mem_filter.mpr ⟨List.mem_of_getElem? (i := 438) rfl, rfl⟩
set_option maxRecDepth 40000 in
theorem tw_439 : Cond.methodLink "KitePost$Silk" 1 ⟨"KitePost$Kite", "<init>", "(IIII)V"⟩ ∈ lwg := List.mem_filter.mpr ⟨List.mem_of_getElem? (i := 439) (by decide +kernel), rfl⟩
set_option maxRecDepth 40000 in
theorem tw_446 : Cond.superclass "KitePost$Silk" "KitePost$Kite" ∈ lwg := List.mem_filter.mpr ⟨List.mem_of_getElem? (i := 446) (by decide +kernel), rfl⟩
set_option maxRecDepth 40000 in
theorem tw_447 : Cond.classLink "KitePost$Post" 141 "KitePost$Doubled" ∈ lwg := List.mem_filter.mpr ⟨List.mem_of_getElem? (i := 447) (by decide +kernel), rfl⟩
set_option maxRecDepth 40000 in
theorem tw_448 : Cond.instantiable "KitePost$Doubled" 6 ∈ lwg := List.mem_filter.mpr ⟨List.mem_of_getElem? (i := 448) (by decide +kernel), rfl⟩
set_option maxRecDepth 40000 in
theorem tw_449 : Cond.methodLink "KitePost$Post" 143 ⟨"KitePost$Doubled", "<init>", "(IIII)V"⟩ ∈ lwg := List.mem_filter.mpr ⟨List.mem_of_getElem? (i := 449) (by decide +kernel), rfl⟩
set_option maxRecDepth 40000 in
theorem tw_450 : Cond.instanceMethod ⟨"KitePost$Doubled", "<init>", "(IIII)V"⟩ ∈ lwg := List.mem_filter.mpr ⟨List.mem_of_getElem? (i := 450) (by decide +kernel), rfl⟩
set_option maxRecDepth 40000 in
theorem tw_451 : Cond.code ⟨"KitePost$Doubled", "<init>", "(IIII)V"⟩ prog_3_method_1_code 5 none ∈ lwg := List.mem_filter.mpr ⟨List.mem_of_getElem? (i := 451) rfl, rfl⟩
set_option maxRecDepth 40000 in
theorem tw_452 : Cond.methodLink "KitePost$Doubled" 1 ⟨"KitePost$Boxed", "<init>", "(IIII)V"⟩ ∈ lwg := List.mem_filter.mpr ⟨List.mem_of_getElem? (i := 452) (by decide +kernel), rfl⟩
set_option maxRecDepth 40000 in
theorem tw_459 : Cond.superclass "KitePost$Doubled" "KitePost$Boxed" ∈ lwg := List.mem_filter.mpr ⟨List.mem_of_getElem? (i := 459) (by decide +kernel), rfl⟩
set_option maxRecDepth 40000 in
theorem tw_460 : Cond.classLink "KitePost$Post" 144 "KitePost$LongTailed" ∈ lwg := List.mem_filter.mpr ⟨List.mem_of_getElem? (i := 460) (by decide +kernel), rfl⟩
set_option maxRecDepth 40000 in
theorem tw_461 : Cond.instantiable "KitePost$LongTailed" 6 ∈ lwg := List.mem_filter.mpr ⟨List.mem_of_getElem? (i := 461) (by decide +kernel), rfl⟩
set_option maxRecDepth 40000 in
theorem tw_462 : Cond.methodLink "KitePost$Post" 146 ⟨"KitePost$LongTailed", "<init>", "(IIII)V"⟩ ∈ lwg := List.mem_filter.mpr ⟨List.mem_of_getElem? (i := 462) (by decide +kernel), rfl⟩
set_option maxRecDepth 40000 in
theorem tw_463 : Cond.instanceMethod ⟨"KitePost$LongTailed", "<init>", "(IIII)V"⟩ ∈ lwg := List.mem_filter.mpr ⟨List.mem_of_getElem? (i := 463) (by decide +kernel), rfl⟩
set_option maxRecDepth 40000 in
theorem tw_464 : Cond.code ⟨"KitePost$LongTailed", "<init>", "(IIII)V"⟩ prog_5_method_1_code 5 none ∈ lwg := List.mem_filter.mpr ⟨List.mem_of_getElem? (i := 464) rfl, rfl⟩
set_option maxRecDepth 40000 in
theorem tw_465 : Cond.methodLink "KitePost$LongTailed" 1 ⟨"KitePost$Tailed", "<init>", "(IIII)V"⟩ ∈ lwg := List.mem_filter.mpr ⟨List.mem_of_getElem? (i := 465) (by decide +kernel), rfl⟩
set_option maxRecDepth 40000 in
theorem tw_472 : Cond.superclass "KitePost$LongTailed" "KitePost$Tailed" ∈ lwg := List.mem_filter.mpr ⟨List.mem_of_getElem? (i := 472) (by decide +kernel), rfl⟩
set_option maxRecDepth 40000 in
theorem tw_473 : Cond.classLink "KitePost$Post" 147 "KitePost$Old" ∈ lwg := List.mem_filter.mpr ⟨List.mem_of_getElem? (i := 473) (by decide +kernel), rfl⟩
set_option maxRecDepth 40000 in
theorem tw_474 : Cond.instantiable "KitePost$Old" 6 ∈ lwg := List.mem_filter.mpr ⟨List.mem_of_getElem? (i := 474) (by decide +kernel), rfl⟩
set_option maxRecDepth 40000 in
theorem tw_475 : Cond.methodLink "KitePost$Post" 149 ⟨"KitePost$Old", "<init>", "(IIII)V"⟩ ∈ lwg := List.mem_filter.mpr ⟨List.mem_of_getElem? (i := 475) (by decide +kernel), rfl⟩
set_option maxRecDepth 40000 in
theorem tw_476 : Cond.instanceMethod ⟨"KitePost$Old", "<init>", "(IIII)V"⟩ ∈ lwg := List.mem_filter.mpr ⟨List.mem_of_getElem? (i := 476) (by decide +kernel), rfl⟩
set_option maxRecDepth 40000 in
theorem tw_477 : Cond.code ⟨"KitePost$Old", "<init>", "(IIII)V"⟩ prog_6_method_1_code 5 none ∈ lwg := List.mem_filter.mpr ⟨List.mem_of_getElem? (i := 477) rfl, rfl⟩
set_option maxRecDepth 40000 in
theorem tw_478 : Cond.methodLink "KitePost$Old" 1 ⟨"KitePost$Silk", "<init>", "(IIII)V"⟩ ∈ lwg := List.mem_filter.mpr ⟨List.mem_of_getElem? (i := 478) (by decide +kernel), rfl⟩
set_option maxRecDepth 40000 in
theorem tw_485 : Cond.superclass "KitePost$Old" "KitePost$Silk" ∈ lwg := List.mem_filter.mpr ⟨List.mem_of_getElem? (i := 485) (by decide +kernel), rfl⟩
set_option maxRecDepth 40000 in
theorem tw_486 : Cond.instantiable "KitePost$Kite" 6 ∈ lwg := List.mem_filter.mpr ⟨List.mem_of_getElem? (i := 486) (by decide +kernel), rfl⟩
set_option maxRecDepth 40000 in
theorem tw_487 : Cond.methodLink "KitePost$Post" 150 ⟨"KitePost$Kite", "<init>", "(IIII)V"⟩ ∈ lwg := List.mem_filter.mpr ⟨List.mem_of_getElem? (i := 487) (by decide +kernel), rfl⟩
set_option maxRecDepth 40000 in
theorem tw_494 : Cond.superclass "KitePost$Kite" "java/lang/Object" ∈ lwg := List.mem_filter.mpr ⟨List.mem_of_getElem? (i := 494) (by decide +kernel), rfl⟩
set_option maxRecDepth 40000 in
theorem tw_495 : Cond.methodLink "KitePostLaw" 31 ⟨"KitePost", "ofKite", "(II)I"⟩ ∈ lwg := List.mem_filter.mpr ⟨List.mem_of_getElem? (i := 495) (by decide +kernel), rfl⟩
set_option maxRecDepth 40000 in
theorem tw_496 : Cond.instanceMethod ⟨"KitePost", "ofKite", "(II)I"⟩ ∈ lwg := List.mem_filter.mpr ⟨List.mem_of_getElem? (i := 496) (by decide +kernel), rfl⟩
set_option maxRecDepth 40000 in
theorem tw_497 : Cond.selects "KitePost" ⟨"KitePost", "ofKite", "(II)I"⟩ ⟨"KitePost", "ofKite", "(II)I"⟩ ∈ lwg := List.mem_filter.mpr ⟨List.mem_of_getElem? (i := 497) (by decide +kernel), rfl⟩
set_option maxRecDepth 40000 in
theorem tw_498 : Cond.code ⟨"KitePost", "ofKite", "(II)I"⟩ prog_1_method_6_code 4 (some .int) ∈ lwg := List.mem_filter.mpr ⟨List.mem_of_getElem? (i := 498) rfl, rfl⟩
set_option maxRecDepth 40000 in
theorem tw_499 : Cond.methodLink "KitePost" 91 ⟨"KitePost$Post", "kiteAt", "(I)LKitePost$Kite;"⟩ ∈ lwg := List.mem_filter.mpr ⟨List.mem_of_getElem? (i := 499) (by decide +kernel), rfl⟩
set_option maxRecDepth 40000 in
theorem tw_500 : Cond.instanceMethod ⟨"KitePost$Post", "kiteAt", "(I)LKitePost$Kite;"⟩ ∈ lwg := List.mem_filter.mpr ⟨List.mem_of_getElem? (i := 500) (by decide +kernel), rfl⟩
set_option maxRecDepth 40000 in
theorem tw_501 : Cond.selects "KitePost$Post" ⟨"KitePost$Post", "kiteAt", "(I)LKitePost$Kite;"⟩ ⟨"KitePost$Post", "kiteAt", "(I)LKitePost$Kite;"⟩ ∈ lwg := List.mem_filter.mpr ⟨List.mem_of_getElem? (i := 501) (by decide +kernel), rfl⟩
set_option maxRecDepth 40000 in
theorem tw_502 : Cond.code ⟨"KitePost$Post", "kiteAt", "(I)LKitePost$Kite;"⟩ prog_7_method_15_code 2 (some (.object "KitePost$Kite")) ∈ lwg := List.mem_filter.mpr ⟨List.mem_of_getElem? (i := 502) rfl, rfl⟩
set_option maxRecDepth 40000 in
theorem tw_503 : Cond.methodLink "KitePost" 112 ⟨"KitePost$Post", "aimOf", "(I)I"⟩ ∈ lwg := List.mem_filter.mpr ⟨List.mem_of_getElem? (i := 503) (by decide +kernel), rfl⟩
set_option maxRecDepth 40000 in
theorem tw_504 : Cond.instanceMethod ⟨"KitePost$Post", "aimOf", "(I)I"⟩ ∈ lwg := List.mem_filter.mpr ⟨List.mem_of_getElem? (i := 504) (by decide +kernel), rfl⟩
set_option maxRecDepth 40000 in
theorem tw_505 : Cond.selects "KitePost$Post" ⟨"KitePost$Post", "aimOf", "(I)I"⟩ ⟨"KitePost$Post", "aimOf", "(I)I"⟩ ∈ lwg := List.mem_filter.mpr ⟨List.mem_of_getElem? (i := 505) (by decide +kernel), rfl⟩
set_option maxRecDepth 40000 in
theorem tw_506 : Cond.code ⟨"KitePost$Post", "aimOf", "(I)I"⟩ prog_7_method_18_code 2 (some .int) ∈ lwg := List.mem_filter.mpr ⟨List.mem_of_getElem? (i := 506) rfl, rfl⟩
set_option maxRecDepth 40000 in
theorem tw_507 : Cond.methodLink "KitePostLaw" 35 ⟨"KitePost", "as", "(II)I"⟩ ∈ lwg := List.mem_filter.mpr ⟨List.mem_of_getElem? (i := 507) (by decide +kernel), rfl⟩
set_option maxRecDepth 40000 in
theorem tw_508 : Cond.instanceMethod ⟨"KitePost", "as", "(II)I"⟩ ∈ lwg := List.mem_filter.mpr ⟨List.mem_of_getElem? (i := 508) (by decide +kernel), rfl⟩
set_option maxRecDepth 40000 in
theorem tw_509 : Cond.selects "KitePost" ⟨"KitePost", "as", "(II)I"⟩ ⟨"KitePost", "as", "(II)I"⟩ ∈ lwg := List.mem_filter.mpr ⟨List.mem_of_getElem? (i := 509) (by decide +kernel), rfl⟩
set_option maxRecDepth 40000 in
theorem tw_510 : Cond.code ⟨"KitePost", "as", "(II)I"⟩ prog_1_method_7_code 4 (some .int) ∈ lwg := List.mem_filter.mpr ⟨List.mem_of_getElem? (i := 510) rfl, rfl⟩
set_option maxRecDepth 40000 in
theorem tw_511 : Cond.methodLink "KitePost" 115 ⟨"KitePost", "isOfKind", "(LKitePost$Kite;I)Z"⟩ ∈ lwg := List.mem_filter.mpr ⟨List.mem_of_getElem? (i := 511) (by decide +kernel), rfl⟩
set_option maxRecDepth 40000 in
theorem tw_512 : Cond.static ⟨"KitePost", "isOfKind", "(LKitePost$Kite;I)Z"⟩ ∈ lwg := List.mem_filter.mpr ⟨List.mem_of_getElem? (i := 512) (by decide +kernel), rfl⟩
set_option maxRecDepth 40000 in
theorem tw_513 : Cond.code ⟨"KitePost", "isOfKind", "(LKitePost$Kite;I)Z"⟩ prog_1_method_45_code 2 (some .boolean) ∈ lwg := List.mem_filter.mpr ⟨List.mem_of_getElem? (i := 513) rfl, rfl⟩
set_option maxRecDepth 40000 in
theorem tw_514 : Cond.classLink "KitePost" 290 "KitePost$Boxed" ∈ lwg := List.mem_filter.mpr ⟨List.mem_of_getElem? (i := 514) (by decide +kernel), rfl⟩
set_option maxRecDepth 40000 in
theorem tw_515 : Cond.classLink "KitePost" 292 "KitePost$Tailed" ∈ lwg := List.mem_filter.mpr ⟨List.mem_of_getElem? (i := 515) (by decide +kernel), rfl⟩
set_option maxRecDepth 40000 in
theorem tw_516 : Cond.classLink "KitePost" 294 "KitePost$Silk" ∈ lwg := List.mem_filter.mpr ⟨List.mem_of_getElem? (i := 516) (by decide +kernel), rfl⟩
set_option maxRecDepth 40000 in
theorem tw_517 : Cond.classLink "KitePost" 296 "KitePost$Doubled" ∈ lwg := List.mem_filter.mpr ⟨List.mem_of_getElem? (i := 517) (by decide +kernel), rfl⟩
set_option maxRecDepth 40000 in
theorem tw_518 : Cond.classLink "KitePost" 298 "KitePost$LongTailed" ∈ lwg := List.mem_filter.mpr ⟨List.mem_of_getElem? (i := 518) (by decide +kernel), rfl⟩
set_option maxRecDepth 40000 in
theorem tw_519 : Cond.classLink "KitePost" 300 "KitePost$Old" ∈ lwg := List.mem_filter.mpr ⟨List.mem_of_getElem? (i := 519) (by decide +kernel), rfl⟩
set_option maxRecDepth 40000 in
theorem tw_520 : Cond.methodLink "KitePostLaw" 39 ⟨"KitePost", "aim", "(II)I"⟩ ∈ lwg := List.mem_filter.mpr ⟨List.mem_of_getElem? (i := 520) (by decide +kernel), rfl⟩
set_option maxRecDepth 40000 in
theorem tw_521 : Cond.instanceMethod ⟨"KitePost", "aim", "(II)I"⟩ ∈ lwg := List.mem_filter.mpr ⟨List.mem_of_getElem? (i := 521) (by decide +kernel), rfl⟩
set_option maxRecDepth 40000 in
theorem tw_522 : Cond.selects "KitePost" ⟨"KitePost", "aim", "(II)I"⟩ ⟨"KitePost", "aim", "(II)I"⟩ ∈ lwg := List.mem_filter.mpr ⟨List.mem_of_getElem? (i := 522) (by decide +kernel), rfl⟩
set_option maxRecDepth 40000 in
theorem tw_523 : Cond.code ⟨"KitePost", "aim", "(II)I"⟩ prog_1_method_8_code 5 (some .int) ∈ lwg := List.mem_filter.mpr ⟨List.mem_of_getElem? (i := 523) rfl, rfl⟩
set_option maxRecDepth 40000 in
theorem tw_524 : Cond.methodLink "KitePost" 119 ⟨"KitePost$Post", "changeAim", "(II)V"⟩ ∈ lwg := List.mem_filter.mpr ⟨List.mem_of_getElem? (i := 524) (by decide +kernel), rfl⟩
set_option maxRecDepth 40000 in
theorem tw_525 : Cond.instanceMethod ⟨"KitePost$Post", "changeAim", "(II)V"⟩ ∈ lwg := List.mem_filter.mpr ⟨List.mem_of_getElem? (i := 525) (by decide +kernel), rfl⟩
set_option maxRecDepth 40000 in
theorem tw_526 : Cond.selects "KitePost$Post" ⟨"KitePost$Post", "changeAim", "(II)V"⟩ ⟨"KitePost$Post", "changeAim", "(II)V"⟩ ∈ lwg := List.mem_filter.mpr ⟨List.mem_of_getElem? (i := 526) (by decide +kernel), rfl⟩
set_option maxRecDepth 40000 in
theorem tw_527 : Cond.code ⟨"KitePost$Post", "changeAim", "(II)V"⟩ prog_7_method_19_code 3 none ∈ lwg := List.mem_filter.mpr ⟨List.mem_of_getElem? (i := 527) rfl, rfl⟩
set_option maxRecDepth 40000 in
theorem tw_528 : Cond.methodLink "KitePostLaw" 43 ⟨"KitePost", "pull", "(III)I"⟩ ∈ lwg := List.mem_filter.mpr ⟨List.mem_of_getElem? (i := 528) (by decide +kernel), rfl⟩
set_option maxRecDepth 40000 in
theorem tw_529 : Cond.instanceMethod ⟨"KitePost", "pull", "(III)I"⟩ ∈ lwg := List.mem_filter.mpr ⟨List.mem_of_getElem? (i := 529) (by decide +kernel), rfl⟩
set_option maxRecDepth 40000 in
theorem tw_530 : Cond.selects "KitePost" ⟨"KitePost", "pull", "(III)I"⟩ ⟨"KitePost", "pull", "(III)I"⟩ ∈ lwg := List.mem_filter.mpr ⟨List.mem_of_getElem? (i := 530) (by decide +kernel), rfl⟩
set_option maxRecDepth 40000 in
theorem tw_531 : Cond.code ⟨"KitePost", "pull", "(III)I"⟩ prog_1_method_9_code 5 (some .int) ∈ lwg := List.mem_filter.mpr ⟨List.mem_of_getElem? (i := 531) rfl, rfl⟩
set_option maxRecDepth 40000 in
theorem tw_532 : Cond.methodLink "KitePost" 125 ⟨"KitePost$Post", "pullAt", "(LKitePost$Kite;III)I"⟩ ∈ lwg := List.mem_filter.mpr ⟨List.mem_of_getElem? (i := 532) (by decide +kernel), rfl⟩
set_option maxRecDepth 40000 in
theorem tw_533 : Cond.instanceMethod ⟨"KitePost$Post", "pullAt", "(LKitePost$Kite;III)I"⟩ ∈ lwg := List.mem_filter.mpr ⟨List.mem_of_getElem? (i := 533) (by decide +kernel), rfl⟩
set_option maxRecDepth 40000 in
theorem tw_534 : Cond.selects "KitePost$Post" ⟨"KitePost$Post", "pullAt", "(LKitePost$Kite;III)I"⟩ ⟨"KitePost$Post", "pullAt", "(LKitePost$Kite;III)I"⟩ ∈ lwg := List.mem_filter.mpr ⟨List.mem_of_getElem? (i := 534) (by decide +kernel), rfl⟩
set_option maxRecDepth 40000 in
theorem tw_535 : Cond.code ⟨"KitePost$Post", "pullAt", "(LKitePost$Kite;III)I"⟩ prog_7_method_20_code 8 (some .int) ∈ lwg := List.mem_filter.mpr ⟨List.mem_of_getElem? (i := 535) rfl, rfl⟩
set_option maxRecDepth 40000 in
theorem tw_536 : Cond.methodLink "KitePost$Post" 151 ⟨"KitePost$Post", "windAt", "(I)I"⟩ ∈ lwg := List.mem_filter.mpr ⟨List.mem_of_getElem? (i := 536) (by decide +kernel), rfl⟩
set_option maxRecDepth 40000 in
theorem tw_537 : Cond.methodLink "KitePost$Post" 154 ⟨"KitePost$Post", "heightOf", "(I)I"⟩ ∈ lwg := List.mem_filter.mpr ⟨List.mem_of_getElem? (i := 537) (by decide +kernel), rfl⟩
set_option maxRecDepth 40000 in
theorem tw_538 : Cond.methodLink "KitePost$Post" 160 ⟨"java/lang/Math", "max", "(II)I"⟩ ∈ lwg := List.mem_filter.mpr ⟨List.mem_of_getElem? (i := 538) (by decide +kernel), rfl⟩
set_option maxRecDepth 40000 in
theorem tw_539 : Cond.methodLink "KitePost$Post" 167 ⟨"KitePost$Kite", "strength", "(III)I"⟩ ∈ lwg := List.mem_filter.mpr ⟨List.mem_of_getElem? (i := 539) (by decide +kernel), rfl⟩
set_option maxRecDepth 40000 in
theorem tw_540 : Cond.instanceMethod ⟨"KitePost$Kite", "strength", "(III)I"⟩ ∈ lwg := List.mem_filter.mpr ⟨List.mem_of_getElem? (i := 540) (by decide +kernel), rfl⟩
set_option maxRecDepth 40000 in
theorem tw_541 : Cond.selects "KitePost$Kite" ⟨"KitePost$Kite", "strength", "(III)I"⟩ ⟨"KitePost$Kite", "strength", "(III)I"⟩ ∈ lwg := List.mem_filter.mpr ⟨List.mem_of_getElem? (i := 541) (by decide +kernel), rfl⟩
set_option maxRecDepth 40000 in
theorem tw_542 : Cond.sameMethod "KitePost$Kite" "KitePost$Kite" "strength" "(III)I" ∈ lwg := List.mem_filter.mpr ⟨List.mem_of_getElem? (i := 542) (by decide +kernel), rfl⟩
set_option maxRecDepth 40000 in
theorem tw_543 : Cond.selects "KitePost$Boxed" ⟨"KitePost$Kite", "strength", "(III)I"⟩ ⟨"KitePost$Boxed", "strength", "(III)I"⟩ ∈ lwg := List.mem_filter.mpr ⟨List.mem_of_getElem? (i := 543) (by decide +kernel), rfl⟩
set_option maxRecDepth 40000 in
theorem tw_544 : Cond.instanceMethod ⟨"KitePost$Boxed", "strength", "(III)I"⟩ ∈ lwg := List.mem_filter.mpr ⟨List.mem_of_getElem? (i := 544) (by decide +kernel), rfl⟩
set_option maxRecDepth 40000 in
theorem tw_545 : Cond.code ⟨"KitePost$Boxed", "strength", "(III)I"⟩ prog_2_method_2_code 4 (some .int) ∈ lwg := List.mem_filter.mpr ⟨List.mem_of_getElem? (i := 545) rfl, rfl⟩
set_option maxRecDepth 40000 in
theorem tw_546 : Cond.selects "KitePost$Doubled" ⟨"KitePost$Kite", "strength", "(III)I"⟩ ⟨"KitePost$Doubled", "strength", "(III)I"⟩ ∈ lwg := List.mem_filter.mpr ⟨List.mem_of_getElem? (i := 546) (by decide +kernel), rfl⟩
set_option maxRecDepth 40000 in
theorem tw_547 : Cond.instanceMethod ⟨"KitePost$Doubled", "strength", "(III)I"⟩ ∈ lwg := List.mem_filter.mpr ⟨List.mem_of_getElem? (i := 547) (by decide +kernel), rfl⟩
set_option maxRecDepth 40000 in
theorem tw_548 : Cond.code ⟨"KitePost$Doubled", "strength", "(III)I"⟩ prog_3_method_2_code 4 (some .int) ∈ lwg := List.mem_filter.mpr ⟨List.mem_of_getElem? (i := 548) rfl, rfl⟩
set_option maxRecDepth 40000 in
theorem tw_549 : Cond.methodLink "KitePost$Doubled" 7 ⟨"KitePost$Boxed", "strength", "(III)I"⟩ ∈ lwg := List.mem_filter.mpr ⟨List.mem_of_getElem? (i := 549) (by decide +kernel), rfl⟩
set_option maxRecDepth 40000 in
theorem tw_550 : Cond.selects "KitePost$LongTailed" ⟨"KitePost$Kite", "strength", "(III)I"⟩ ⟨"KitePost$LongTailed", "strength", "(III)I"⟩ ∈ lwg := List.mem_filter.mpr ⟨List.mem_of_getElem? (i := 550) (by decide +kernel), rfl⟩
set_option maxRecDepth 40000 in
theorem tw_551 : Cond.instanceMethod ⟨"KitePost$LongTailed", "strength", "(III)I"⟩ ∈ lwg := List.mem_filter.mpr ⟨List.mem_of_getElem? (i := 551) (by decide +kernel), rfl⟩
set_option maxRecDepth 40000 in
theorem tw_552 : Cond.code ⟨"KitePost$LongTailed", "strength", "(III)I"⟩ prog_5_method_2_code 4 (some .int) ∈ lwg := List.mem_filter.mpr ⟨List.mem_of_getElem? (i := 552) rfl, rfl⟩
set_option maxRecDepth 40000 in
theorem tw_553 : Cond.methodLink "KitePost$LongTailed" 7 ⟨"KitePost$Tailed", "strength", "(III)I"⟩ ∈ lwg := List.mem_filter.mpr ⟨List.mem_of_getElem? (i := 553) (by decide +kernel), rfl⟩
set_option maxRecDepth 40000 in
theorem tw_554 : Cond.instanceMethod ⟨"KitePost$Tailed", "strength", "(III)I"⟩ ∈ lwg := List.mem_filter.mpr ⟨List.mem_of_getElem? (i := 554) (by decide +kernel), rfl⟩
set_option maxRecDepth 40000 in
theorem tw_555 : Cond.code ⟨"KitePost$Tailed", "strength", "(III)I"⟩ prog_11_method_2_code 4 (some .int) ∈ lwg := List.mem_filter.mpr ⟨List.mem_of_getElem? (i := 555) rfl, rfl⟩
set_option maxRecDepth 40000 in
theorem tw_556 : Cond.selects "KitePost$Old" ⟨"KitePost$Kite", "strength", "(III)I"⟩ ⟨"KitePost$Old", "strength", "(III)I"⟩ ∈ lwg := List.mem_filter.mpr ⟨List.mem_of_getElem? (i := 556) (by decide +kernel), rfl⟩
set_option maxRecDepth 40000 in
theorem tw_557 : Cond.instanceMethod ⟨"KitePost$Old", "strength", "(III)I"⟩ ∈ lwg := List.mem_filter.mpr ⟨List.mem_of_getElem? (i := 557) (by decide +kernel), rfl⟩
set_option maxRecDepth 40000 in
theorem tw_558 : Cond.code ⟨"KitePost$Old", "strength", "(III)I"⟩ prog_6_method_2_code 4 (some .int) ∈ lwg := List.mem_filter.mpr ⟨List.mem_of_getElem? (i := 558) rfl, rfl⟩
set_option maxRecDepth 40000 in
theorem tw_559 : Cond.methodLink "KitePost$Old" 7 ⟨"KitePost$Silk", "strength", "(III)I"⟩ ∈ lwg := List.mem_filter.mpr ⟨List.mem_of_getElem? (i := 559) (by decide +kernel), rfl⟩
set_option maxRecDepth 40000 in
theorem tw_560 : Cond.instanceMethod ⟨"KitePost$Silk", "strength", "(III)I"⟩ ∈ lwg := List.mem_filter.mpr ⟨List.mem_of_getElem? (i := 560) (by decide +kernel), rfl⟩
set_option maxRecDepth 40000 in
theorem tw_561 : Cond.code ⟨"KitePost$Silk", "strength", "(III)I"⟩ prog_10_method_2_code 4 (some .int) ∈ lwg := List.mem_filter.mpr ⟨List.mem_of_getElem? (i := 561) rfl, rfl⟩
set_option maxRecDepth 40000 in
theorem tw_562 : Cond.selects "KitePost$Silk" ⟨"KitePost$Kite", "strength", "(III)I"⟩ ⟨"KitePost$Silk", "strength", "(III)I"⟩ ∈ lwg := List.mem_filter.mpr ⟨List.mem_of_getElem? (i := 562) (by decide +kernel), rfl⟩
set_option maxRecDepth 40000 in
theorem tw_563 : Cond.selects "KitePost$Tailed" ⟨"KitePost$Kite", "strength", "(III)I"⟩ ⟨"KitePost$Tailed", "strength", "(III)I"⟩ ∈ lwg := List.mem_filter.mpr ⟨List.mem_of_getElem? (i := 563) (by decide +kernel), rfl⟩
set_option maxRecDepth 40000 in
theorem tw_564 : Cond.code ⟨"KitePost$Kite", "strength", "(III)I"⟩ prog_4_method_2_code 4 (some .int) ∈ lwg := List.mem_filter.mpr ⟨List.mem_of_getElem? (i := 564) rfl, rfl⟩
set_option maxRecDepth 40000 in
theorem tw_565 : Cond.methodLink "KitePost$Post" 171 ⟨"KitePost$Post", "far", "(II)I"⟩ ∈ lwg := List.mem_filter.mpr ⟨List.mem_of_getElem? (i := 565) (by decide +kernel), rfl⟩
set_option maxRecDepth 40000 in
theorem tw_567 : Cond.instanceMethod ⟨"KitePost$Post", "far", "(II)I"⟩ ∈ lwg := List.mem_filter.mpr ⟨List.mem_of_getElem? (i := 567) (by decide +kernel), rfl⟩
set_option maxRecDepth 40000 in
theorem tw_568 : Cond.code ⟨"KitePost$Post", "far", "(II)I"⟩ prog_7_method_12_code 3 (some .int) ∈ lwg := List.mem_filter.mpr ⟨List.mem_of_getElem? (i := 568) rfl, rfl⟩
set_option maxRecDepth 40000 in
theorem tw_569 : Cond.methodLink "KitePost$Post" 117 ⟨"java/lang/Math", "abs", "(I)I"⟩ ∈ lwg := List.mem_filter.mpr ⟨List.mem_of_getElem? (i := 569) (by decide +kernel), rfl⟩
set_option maxRecDepth 40000 in
theorem tw_570 : Cond.static ⟨"java/lang/Math", "abs", "(I)I"⟩ ∈ lwg := List.mem_filter.mpr ⟨List.mem_of_getElem? (i := 570) (by decide +kernel), rfl⟩
set_option maxRecDepth 40000 in
theorem tw_571 : Cond.code ⟨"java/lang/Math", "abs", "(I)I"⟩ prog_16_method_59_code 1 (some .int) ∈ lwg := List.mem_filter.mpr ⟨List.mem_of_getElem? (i := 571) rfl, rfl⟩
set_option maxRecDepth 40000 in
theorem tw_572 : Cond.methodLink "KitePost$Post" 177 ⟨"KitePost$Text", "givenBy", "(IIII)I"⟩ ∈ lwg := List.mem_filter.mpr ⟨List.mem_of_getElem? (i := 572) (by decide +kernel), rfl⟩
set_option maxRecDepth 40000 in
theorem tw_573 : Cond.instanceMethod ⟨"KitePost$Text", "givenBy", "(IIII)I"⟩ ∈ lwg := List.mem_filter.mpr ⟨List.mem_of_getElem? (i := 573) (by decide +kernel), rfl⟩
set_option maxRecDepth 40000 in
theorem tw_574 : Cond.selects "KitePost$Text" ⟨"KitePost$Text", "givenBy", "(IIII)I"⟩ ⟨"KitePost$Text", "givenBy", "(IIII)I"⟩ ∈ lwg := List.mem_filter.mpr ⟨List.mem_of_getElem? (i := 574) (by decide +kernel), rfl⟩
set_option maxRecDepth 40000 in
theorem tw_575 : Cond.code ⟨"KitePost$Text", "givenBy", "(IIII)I"⟩ prog_12_method_12_code 8 (some .int) ∈ lwg := List.mem_filter.mpr ⟨List.mem_of_getElem? (i := 575) rfl, rfl⟩
set_option maxRecDepth 40000 in
theorem tw_576 : Cond.methodLink "KitePost$Text" 59 ⟨"KitePost$Row", "get", "(I)I"⟩ ∈ lwg := List.mem_filter.mpr ⟨List.mem_of_getElem? (i := 576) (by decide +kernel), rfl⟩
set_option maxRecDepth 40000 in
theorem tw_577 : Cond.instanceMethod ⟨"KitePost$Row", "get", "(I)I"⟩ ∈ lwg := List.mem_filter.mpr ⟨List.mem_of_getElem? (i := 577) (by decide +kernel), rfl⟩
set_option maxRecDepth 40000 in
theorem tw_578 : Cond.selects "KitePost$Row" ⟨"KitePost$Row", "get", "(I)I"⟩ ⟨"KitePost$Row", "get", "(I)I"⟩ ∈ lwg := List.mem_filter.mpr ⟨List.mem_of_getElem? (i := 578) (by decide +kernel), rfl⟩
set_option maxRecDepth 40000 in
theorem tw_579 : Cond.code ⟨"KitePost$Row", "get", "(I)I"⟩ prog_8_method_3_code 2 (some .int) ∈ lwg := List.mem_filter.mpr ⟨List.mem_of_getElem? (i := 579) rfl, rfl⟩
set_option maxRecDepth 40000 in
theorem tw_580 : Cond.methodLink "KitePost$Text" 106 ⟨"KitePost$Text", "nameOf", "(IIIII)I"⟩ ∈ lwg := List.mem_filter.mpr ⟨List.mem_of_getElem? (i := 580) (by decide +kernel), rfl⟩
set_option maxRecDepth 40000 in
theorem tw_581 : Cond.static ⟨"KitePost$Text", "nameOf", "(IIIII)I"⟩ ∈ lwg := List.mem_filter.mpr ⟨List.mem_of_getElem? (i := 581) (by decide +kernel), rfl⟩
set_option maxRecDepth 40000 in
theorem tw_582 : Cond.code ⟨"KitePost$Text", "nameOf", "(IIIII)I"⟩ prog_12_method_13_code 5 (some .int) ∈ lwg := List.mem_filter.mpr ⟨List.mem_of_getElem? (i := 582) rfl, rfl⟩
set_option maxRecDepth 40000 in
theorem tw_583 : Cond.methodLink "KitePost$Text" 110 ⟨"KitePost$Text", "joined", "(III)I"⟩ ∈ lwg := List.mem_filter.mpr ⟨List.mem_of_getElem? (i := 583) (by decide +kernel), rfl⟩
set_option maxRecDepth 40000 in
theorem tw_584 : Cond.static ⟨"KitePost$Text", "joined", "(III)I"⟩ ∈ lwg := List.mem_filter.mpr ⟨List.mem_of_getElem? (i := 584) (by decide +kernel), rfl⟩
set_option maxRecDepth 40000 in
theorem tw_585 : Cond.code ⟨"KitePost$Text", "joined", "(III)I"⟩ prog_12_method_14_code 3 (some .int) ∈ lwg := List.mem_filter.mpr ⟨List.mem_of_getElem? (i := 585) rfl, rfl⟩
set_option maxRecDepth 40000 in
theorem tw_586 : Cond.methodLink "KitePost$Text" 114 ⟨"java/lang/Math", "min", "(II)I"⟩ ∈ lwg := List.mem_filter.mpr ⟨List.mem_of_getElem? (i := 586) (by decide +kernel), rfl⟩
set_option maxRecDepth 40000 in
theorem tw_587 : Cond.static ⟨"java/lang/Math", "min", "(II)I"⟩ ∈ lwg := List.mem_filter.mpr ⟨List.mem_of_getElem? (i := 587) (by decide +kernel), rfl⟩
set_option maxRecDepth 40000 in
theorem tw_588 : Cond.code ⟨"java/lang/Math", "min", "(II)I"⟩ prog_16_method_69_code 2 (some .int) ∈ lwg := List.mem_filter.mpr ⟨List.mem_of_getElem? (i := 588) rfl, rfl⟩
set_option maxRecDepth 40000 in
theorem tw_589 : Cond.methodLink "KitePost$Text" 120 ⟨"java/lang/Math", "max", "(II)I"⟩ ∈ lwg := List.mem_filter.mpr ⟨List.mem_of_getElem? (i := 589) (by decide +kernel), rfl⟩
set_option maxRecDepth 40000 in
theorem tw_590 : Cond.methodLink "KitePostLaw" 47 ⟨"KitePost", "stands", "(III)I"⟩ ∈ lwg := List.mem_filter.mpr ⟨List.mem_of_getElem? (i := 590) (by decide +kernel), rfl⟩
set_option maxRecDepth 40000 in
theorem tw_591 : Cond.instanceMethod ⟨"KitePost", "stands", "(III)I"⟩ ∈ lwg := List.mem_filter.mpr ⟨List.mem_of_getElem? (i := 591) (by decide +kernel), rfl⟩
set_option maxRecDepth 40000 in
theorem tw_592 : Cond.selects "KitePost" ⟨"KitePost", "stands", "(III)I"⟩ ⟨"KitePost", "stands", "(III)I"⟩ ∈ lwg := List.mem_filter.mpr ⟨List.mem_of_getElem? (i := 592) (by decide +kernel), rfl⟩
set_option maxRecDepth 40000 in
theorem tw_593 : Cond.code ⟨"KitePost", "stands", "(III)I"⟩ prog_1_method_10_code 5 (some .int) ∈ lwg := List.mem_filter.mpr ⟨List.mem_of_getElem? (i := 593) rfl, rfl⟩
set_option maxRecDepth 40000 in
theorem tw_594 : Cond.methodLink "KitePost" 129 ⟨"KitePost$Post", "standsAt", "(LKitePost$Kite;III)Z"⟩ ∈ lwg := List.mem_filter.mpr ⟨List.mem_of_getElem? (i := 594) (by decide +kernel), rfl⟩
set_option maxRecDepth 40000 in
theorem tw_595 : Cond.instanceMethod ⟨"KitePost$Post", "standsAt", "(LKitePost$Kite;III)Z"⟩ ∈ lwg := List.mem_filter.mpr ⟨List.mem_of_getElem? (i := 595) (by decide +kernel), rfl⟩
set_option maxRecDepth 40000 in
theorem tw_596 : Cond.selects "KitePost$Post" ⟨"KitePost$Post", "standsAt", "(LKitePost$Kite;III)Z"⟩ ⟨"KitePost$Post", "standsAt", "(LKitePost$Kite;III)Z"⟩ ∈ lwg := List.mem_filter.mpr ⟨List.mem_of_getElem? (i := 596) (by decide +kernel), rfl⟩
set_option maxRecDepth 40000 in
theorem tw_597 : Cond.code ⟨"KitePost$Post", "standsAt", "(LKitePost$Kite;III)Z"⟩ prog_7_method_21_code 6 (some .boolean) ∈ lwg := List.mem_filter.mpr ⟨List.mem_of_getElem? (i := 597) rfl, rfl⟩
set_option maxRecDepth 40000 in
theorem tw_598 : Cond.methodLink "KitePost$Post" 184 ⟨"KitePost$Post", "isDownWind", "(III)Z"⟩ ∈ lwg := List.mem_filter.mpr ⟨List.mem_of_getElem? (i := 598) (by decide +kernel), rfl⟩
set_option maxRecDepth 40000 in
theorem tw_600 : Cond.instanceMethod ⟨"KitePost$Post", "isDownWind", "(III)Z"⟩ ∈ lwg := List.mem_filter.mpr ⟨List.mem_of_getElem? (i := 600) (by decide +kernel), rfl⟩
set_option maxRecDepth 40000 in
theorem tw_601 : Cond.code ⟨"KitePost$Post", "isDownWind", "(III)Z"⟩ prog_7_method_22_code 6 (some .boolean) ∈ lwg := List.mem_filter.mpr ⟨List.mem_of_getElem? (i := 601) rfl, rfl⟩
set_option maxRecDepth 40000 in
theorem tw_606 : Cond.methodLink "KitePost$Post" 187 ⟨"KitePost$Post", "pullAt", "(LKitePost$Kite;III)I"⟩ ∈ lwg := List.mem_filter.mpr ⟨List.mem_of_getElem? (i := 606) (by decide +kernel), rfl⟩
set_option maxRecDepth 40000 in
theorem tw_607 : Cond.methodLink "KitePostLaw" 51 ⟨"KitePost", "over", "(III)I"⟩ ∈ lwg := List.mem_filter.mpr ⟨List.mem_of_getElem? (i := 607) (by decide +kernel), rfl⟩
set_option maxRecDepth 40000 in
theorem tw_608 : Cond.instanceMethod ⟨"KitePost", "over", "(III)I"⟩ ∈ lwg := List.mem_filter.mpr ⟨List.mem_of_getElem? (i := 608) (by decide +kernel), rfl⟩
set_option maxRecDepth 40000 in
theorem tw_609 : Cond.selects "KitePost" ⟨"KitePost", "over", "(III)I"⟩ ⟨"KitePost", "over", "(III)I"⟩ ∈ lwg := List.mem_filter.mpr ⟨List.mem_of_getElem? (i := 609) (by decide +kernel), rfl⟩
set_option maxRecDepth 40000 in
theorem tw_610 : Cond.code ⟨"KitePost", "over", "(III)I"⟩ prog_1_method_11_code 6 (some .int) ∈ lwg := List.mem_filter.mpr ⟨List.mem_of_getElem? (i := 610) rfl, rfl⟩
set_option maxRecDepth 40000 in
theorem tw_611 : Cond.methodLink "KitePost" 133 ⟨"KitePost$Post", "overAt", "(LKitePost$Kite;II)I"⟩ ∈ lwg := List.mem_filter.mpr ⟨List.mem_of_getElem? (i := 611) (by decide +kernel), rfl⟩
set_option maxRecDepth 40000 in
theorem tw_612 : Cond.instanceMethod ⟨"KitePost$Post", "overAt", "(LKitePost$Kite;II)I"⟩ ∈ lwg := List.mem_filter.mpr ⟨List.mem_of_getElem? (i := 612) (by decide +kernel), rfl⟩
set_option maxRecDepth 40000 in
theorem tw_613 : Cond.selects "KitePost$Post" ⟨"KitePost$Post", "overAt", "(LKitePost$Kite;II)I"⟩ ⟨"KitePost$Post", "overAt", "(LKitePost$Kite;II)I"⟩ ∈ lwg := List.mem_filter.mpr ⟨List.mem_of_getElem? (i := 613) (by decide +kernel), rfl⟩
set_option maxRecDepth 40000 in
theorem tw_614 : Cond.code ⟨"KitePost$Post", "overAt", "(LKitePost$Kite;II)I"⟩ prog_7_method_23_code 6 (some .int) ∈ lwg := List.mem_filter.mpr ⟨List.mem_of_getElem? (i := 614) rfl, rfl⟩
set_option maxRecDepth 40000 in
theorem tw_615 : Cond.methodLink "KitePost$Post" 197 ⟨"KitePost$Post", "standsAt", "(LKitePost$Kite;III)Z"⟩ ∈ lwg := List.mem_filter.mpr ⟨List.mem_of_getElem? (i := 615) (by decide +kernel), rfl⟩
set_option maxRecDepth 40000 in
theorem tw_616 : Cond.methodLink "KitePostLaw" 57 ⟨"KitePost", "feed", "(JI)I"⟩ ∈ lwg := List.mem_filter.mpr ⟨List.mem_of_getElem? (i := 616) (by decide +kernel), rfl⟩
set_option maxRecDepth 40000 in
theorem tw_617 : Cond.instanceMethod ⟨"KitePost", "feed", "(JI)I"⟩ ∈ lwg := List.mem_filter.mpr ⟨List.mem_of_getElem? (i := 617) (by decide +kernel), rfl⟩
set_option maxRecDepth 40000 in
theorem tw_618 : Cond.selects "KitePost" ⟨"KitePost", "feed", "(JI)I"⟩ ⟨"KitePost", "feed", "(JI)I"⟩ ∈ lwg := List.mem_filter.mpr ⟨List.mem_of_getElem? (i := 618) (by decide +kernel), rfl⟩
set_option maxRecDepth 40000 in
theorem tw_619 : Cond.code ⟨"KitePost", "feed", "(JI)I"⟩ prog_1_method_12_code 5 (some .int) ∈ lwg := List.mem_filter.mpr ⟨List.mem_of_getElem? (i := 619) rfl, rfl⟩
set_option maxRecDepth 40000 in
theorem tw_620 : Cond.methodLink "KitePost" 143 ⟨"KitePost$Row", "add", "(I)Z"⟩ ∈ lwg := List.mem_filter.mpr ⟨List.mem_of_getElem? (i := 620) (by decide +kernel), rfl⟩
set_option maxRecDepth 40000 in
theorem tw_621 : Cond.methodLink "KitePostLaw" 62 ⟨"KitePost", "text", "(I)I"⟩ ∈ lwg := List.mem_filter.mpr ⟨List.mem_of_getElem? (i := 621) (by decide +kernel), rfl⟩
set_option maxRecDepth 40000 in
theorem tw_622 : Cond.instanceMethod ⟨"KitePost", "text", "(I)I"⟩ ∈ lwg := List.mem_filter.mpr ⟨List.mem_of_getElem? (i := 622) (by decide +kernel), rfl⟩
set_option maxRecDepth 40000 in
theorem tw_623 : Cond.selects "KitePost" ⟨"KitePost", "text", "(I)I"⟩ ⟨"KitePost", "text", "(I)I"⟩ ∈ lwg := List.mem_filter.mpr ⟨List.mem_of_getElem? (i := 623) (by decide +kernel), rfl⟩
set_option maxRecDepth 40000 in
theorem tw_624 : Cond.code ⟨"KitePost", "text", "(I)I"⟩ prog_1_method_13_code 4 (some .int) ∈ lwg := List.mem_filter.mpr ⟨List.mem_of_getElem? (i := 624) rfl, rfl⟩
set_option maxRecDepth 40000 in
theorem tw_625 : Cond.methodLink "KitePost" 153 ⟨"KitePost$Text", "read", "(LKitePost$Row;)I"⟩ ∈ lwg := List.mem_filter.mpr ⟨List.mem_of_getElem? (i := 625) (by decide +kernel), rfl⟩
set_option maxRecDepth 40000 in
theorem tw_626 : Cond.instanceMethod ⟨"KitePost$Text", "read", "(LKitePost$Row;)I"⟩ ∈ lwg := List.mem_filter.mpr ⟨List.mem_of_getElem? (i := 626) (by decide +kernel), rfl⟩
set_option maxRecDepth 40000 in
theorem tw_627 : Cond.selects "KitePost$Text" ⟨"KitePost$Text", "read", "(LKitePost$Row;)I"⟩ ⟨"KitePost$Text", "read", "(LKitePost$Row;)I"⟩ ∈ lwg := List.mem_filter.mpr ⟨List.mem_of_getElem? (i := 627) (by decide +kernel), rfl⟩
set_option maxRecDepth 40000 in
theorem tw_628 : Cond.code ⟨"KitePost$Text", "read", "(LKitePost$Row;)I"⟩ prog_12_method_3_code 2 (some .int) ∈ lwg := List.mem_filter.mpr ⟨List.mem_of_getElem? (i := 628) rfl, rfl⟩
set_option maxRecDepth 40000 in
theorem tw_629 : Cond.methodLink "KitePost$Text" 49 ⟨"KitePost$Row", "clear", "()V"⟩ ∈ lwg := List.mem_filter.mpr ⟨List.mem_of_getElem? (i := 629) (by decide +kernel), rfl⟩
set_option maxRecDepth 40000 in
theorem tw_630 : Cond.instanceMethod ⟨"KitePost$Row", "clear", "()V"⟩ ∈ lwg := List.mem_filter.mpr ⟨List.mem_of_getElem? (i := 630) (by decide +kernel), rfl⟩
set_option maxRecDepth 40000 in
theorem tw_631 : Cond.selects "KitePost$Row" ⟨"KitePost$Row", "clear", "()V"⟩ ⟨"KitePost$Row", "clear", "()V"⟩ ∈ lwg := List.mem_filter.mpr ⟨List.mem_of_getElem? (i := 631) (by decide +kernel), rfl⟩
set_option maxRecDepth 40000 in
theorem tw_632 : Cond.code ⟨"KitePost$Row", "clear", "()V"⟩ prog_8_method_4_code 1 none ∈ lwg := List.mem_filter.mpr ⟨List.mem_of_getElem? (i := 632) rfl, rfl⟩
set_option maxRecDepth 40000 in
theorem tw_633 : Cond.methodLink "KitePost$Text" 52 ⟨"KitePost$Text", "readLevel", "(II)V"⟩ ∈ lwg := List.mem_filter.mpr ⟨List.mem_of_getElem? (i := 633) (by decide +kernel), rfl⟩
set_option maxRecDepth 40000 in
theorem tw_635 : Cond.instanceMethod ⟨"KitePost$Text", "readLevel", "(II)V"⟩ ∈ lwg := List.mem_filter.mpr ⟨List.mem_of_getElem? (i := 635) (by decide +kernel), rfl⟩
set_option maxRecDepth 40000 in
theorem tw_636 : Cond.code ⟨"KitePost$Text", "readLevel", "(II)V"⟩ prog_12_method_7_code 7 none ∈ lwg := List.mem_filter.mpr ⟨List.mem_of_getElem? (i := 636) rfl, rfl⟩
set_option maxRecDepth 40000 in
theorem tw_637 : Cond.methodLink "KitePost$Text" 78 ⟨"KitePost$Text", "readPart", "(I)V"⟩ ∈ lwg := List.mem_filter.mpr ⟨List.mem_of_getElem? (i := 637) (by decide +kernel), rfl⟩
set_option maxRecDepth 40000 in
theorem tw_639 : Cond.instanceMethod ⟨"KitePost$Text", "readPart", "(I)V"⟩ ∈ lwg := List.mem_filter.mpr ⟨List.mem_of_getElem? (i := 639) (by decide +kernel), rfl⟩
set_option maxRecDepth 40000 in
theorem tw_640 : Cond.code ⟨"KitePost$Text", "readPart", "(I)V"⟩ prog_12_method_8_code 4 none ∈ lwg := List.mem_filter.mpr ⟨List.mem_of_getElem? (i := 640) rfl, rfl⟩
set_option maxRecDepth 40000 in
theorem tw_641 : Cond.methodLink "KitePost$Text" 85 ⟨"KitePost$Text", "next", "()I"⟩ ∈ lwg := List.mem_filter.mpr ⟨List.mem_of_getElem? (i := 641) (by decide +kernel), rfl⟩
set_option maxRecDepth 40000 in
theorem tw_643 : Cond.instanceMethod ⟨"KitePost$Text", "next", "()I"⟩ ∈ lwg := List.mem_filter.mpr ⟨List.mem_of_getElem? (i := 643) (by decide +kernel), rfl⟩
set_option maxRecDepth 40000 in
theorem tw_644 : Cond.code ⟨"KitePost$Text", "next", "()I"⟩ prog_12_method_4_code 1 (some .int) ∈ lwg := List.mem_filter.mpr ⟨List.mem_of_getElem? (i := 644) rfl, rfl⟩
set_option maxRecDepth 40000 in
theorem tw_647 : Cond.methodLink "KitePost$Text" 89 ⟨"KitePost$Text", "indexIn", "(Ljava/lang/String;I)I"⟩ ∈ lwg := List.mem_filter.mpr ⟨List.mem_of_getElem? (i := 647) (by decide +kernel), rfl⟩
set_option maxRecDepth 40000 in
theorem tw_648 : Cond.static ⟨"KitePost$Text", "indexIn", "(Ljava/lang/String;I)I"⟩ ∈ lwg := List.mem_filter.mpr ⟨List.mem_of_getElem? (i := 648) (by decide +kernel), rfl⟩
set_option maxRecDepth 40000 in
theorem tw_649 : Cond.code ⟨"KitePost$Text", "indexIn", "(Ljava/lang/String;I)I"⟩ prog_12_method_6_code 2 (some .int) ∈ lwg := List.mem_filter.mpr ⟨List.mem_of_getElem? (i := 649) rfl, rfl⟩
set_option maxRecDepth 40000 in
theorem tw_650 : Cond.methodLink "KitePost$Text" 73 ⟨"java/lang/String", "indexOf", "(I)I"⟩ ∈ lwg := List.mem_filter.mpr ⟨List.mem_of_getElem? (i := 650) (by decide +kernel), rfl⟩
set_option maxRecDepth 40000 in
theorem tw_651 : Cond.instanceMethod ⟨"java/lang/String", "indexOf", "(I)I"⟩ ∈ lwg := List.mem_filter.mpr ⟨List.mem_of_getElem? (i := 651) (by decide +kernel), rfl⟩
set_option maxRecDepth 40000 in
theorem tw_652 : Cond.selects "java/lang/String" ⟨"java/lang/String", "indexOf", "(I)I"⟩ ⟨"java/lang/String", "indexOf", "(I)I"⟩ ∈ lwg := List.mem_filter.mpr ⟨List.mem_of_getElem? (i := 652) (by decide +kernel), rfl⟩
set_option maxRecDepth 40000 in
theorem tw_653 : Cond.code ⟨"java/lang/String", "indexOf", "(I)I"⟩ prog_17_method_79_code 2 (some .int) ∈ lwg := List.mem_filter.mpr ⟨List.mem_of_getElem? (i := 653) rfl, rfl⟩
set_option maxRecDepth 40000 in
theorem tw_654 : Cond.methodLink "java/lang/String" 633 ⟨"java/lang/String", "indexOf", "(II)I"⟩ ∈ lwg := List.mem_filter.mpr ⟨List.mem_of_getElem? (i := 654) (by decide +kernel), rfl⟩
set_option maxRecDepth 40000 in
theorem tw_655 : Cond.instanceMethod ⟨"java/lang/String", "indexOf", "(II)I"⟩ ∈ lwg := List.mem_filter.mpr ⟨List.mem_of_getElem? (i := 655) (by decide +kernel), rfl⟩
set_option maxRecDepth 40000 in
theorem tw_656 : Cond.selects "java/lang/String" ⟨"java/lang/String", "indexOf", "(II)I"⟩ ⟨"java/lang/String", "indexOf", "(II)I"⟩ ∈ lwg := List.mem_filter.mpr ⟨List.mem_of_getElem? (i := 656) (by decide +kernel), rfl⟩
set_option maxRecDepth 40000 in
theorem tw_657 : Cond.code ⟨"java/lang/String", "indexOf", "(II)I"⟩ prog_17_method_80_code 3 (some .int) ∈ lwg := List.mem_filter.mpr ⟨List.mem_of_getElem? (i := 657) rfl, rfl⟩
set_option maxRecDepth 40000 in
theorem tw_658 : Cond.methodLink "java/lang/String" 492 ⟨"java/lang/String", "isLatin1", "()Z"⟩ ∈ lwg := List.mem_filter.mpr ⟨List.mem_of_getElem? (i := 658) (by decide +kernel), rfl⟩
set_option maxRecDepth 40000 in
theorem tw_659 : Cond.instanceMethod ⟨"java/lang/String", "isLatin1", "()Z"⟩ ∈ lwg := List.mem_filter.mpr ⟨List.mem_of_getElem? (i := 659) (by decide +kernel), rfl⟩
set_option maxRecDepth 40000 in
theorem tw_660 : Cond.selects "java/lang/String" ⟨"java/lang/String", "isLatin1", "()Z"⟩ ⟨"java/lang/String", "isLatin1", "()Z"⟩ ∈ lwg := List.mem_filter.mpr ⟨List.mem_of_getElem? (i := 660) (by decide +kernel), rfl⟩
set_option maxRecDepth 40000 in
theorem tw_661 : Cond.code ⟨"java/lang/String", "isLatin1", "()Z"⟩ prog_17_method_154_code 1 (some .boolean) ∈ lwg := List.mem_filter.mpr ⟨List.mem_of_getElem? (i := 661) rfl, rfl⟩
set_option maxRecDepth 40000 in
theorem tw_662 : Cond.fieldLink "java/lang/String" 38 "java/lang/String" "COMPACT_STRINGS" "Z" ∈ lwg := List.mem_filter.mpr ⟨List.mem_of_getElem? (i := 662) (by decide +kernel), rfl⟩
set_option maxRecDepth 40000 in
theorem tw_664 : Cond.methodLink "java/lang/String" 505 ⟨"java/lang/String", "length", "()I"⟩ ∈ lwg := List.mem_filter.mpr ⟨List.mem_of_getElem? (i := 664) (by decide +kernel), rfl⟩
set_option maxRecDepth 40000 in
theorem tw_665 : Cond.instanceMethod ⟨"java/lang/String", "length", "()I"⟩ ∈ lwg := List.mem_filter.mpr ⟨List.mem_of_getElem? (i := 665) (by decide +kernel), rfl⟩
set_option maxRecDepth 40000 in
theorem tw_666 : Cond.selects "java/lang/String" ⟨"java/lang/String", "length", "()I"⟩ ⟨"java/lang/String", "length", "()I"⟩ ∈ lwg := List.mem_filter.mpr ⟨List.mem_of_getElem? (i := 666) (by decide +kernel), rfl⟩
set_option maxRecDepth 40000 in
theorem tw_667 : Cond.code ⟨"java/lang/String", "length", "()I"⟩ prog_17_method_54_code 1 (some .int) ∈ lwg := List.mem_filter.mpr ⟨List.mem_of_getElem? (i := 667) rfl, rfl⟩
set_option maxRecDepth 40000 in
theorem tw_668 : Cond.methodLink "java/lang/String" 335 ⟨"java/lang/String", "coder", "()B"⟩ ∈ lwg := List.mem_filter.mpr ⟨List.mem_of_getElem? (i := 668) (by decide +kernel), rfl⟩
set_option maxRecDepth 40000 in
theorem tw_669 : Cond.instanceMethod ⟨"java/lang/String", "coder", "()B"⟩ ∈ lwg := List.mem_filter.mpr ⟨List.mem_of_getElem? (i := 669) (by decide +kernel), rfl⟩
set_option maxRecDepth 40000 in
theorem tw_670 : Cond.selects "java/lang/String" ⟨"java/lang/String", "coder", "()B"⟩ ⟨"java/lang/String", "coder", "()B"⟩ ∈ lwg := List.mem_filter.mpr ⟨List.mem_of_getElem? (i := 670) (by decide +kernel), rfl⟩
set_option maxRecDepth 40000 in
theorem tw_671 : Cond.code ⟨"java/lang/String", "coder", "()B"⟩ prog_17_method_152_code 1 (some .byte) ∈ lwg := List.mem_filter.mpr ⟨List.mem_of_getElem? (i := 671) rfl, rfl⟩
set_option maxRecDepth 40000 in
theorem tw_672 : Cond.methodLink "java/lang/String" 637 ⟨"java/lang/StringLatin1", "indexOf", "([BIII)I"⟩ ∈ lwg := List.mem_filter.mpr ⟨List.mem_of_getElem? (i := 672) (by decide +kernel), rfl⟩
set_option maxRecDepth 40000 in
theorem tw_673 : Cond.static ⟨"java/lang/StringLatin1", "indexOf", "([BIII)I"⟩ ∈ lwg := List.mem_filter.mpr ⟨List.mem_of_getElem? (i := 673) (by decide +kernel), rfl⟩
set_option maxRecDepth 40000 in
theorem tw_674 : Cond.code ⟨"java/lang/StringLatin1", "indexOf", "([BIII)I"⟩ prog_18_method_22_code 4 (some .int) ∈ lwg := List.mem_filter.mpr ⟨List.mem_of_getElem? (i := 674) rfl, rfl⟩
set_option maxRecDepth 40000 in
theorem tw_675 : Cond.methodLink "java/lang/StringLatin1" 88 ⟨"java/lang/StringLatin1", "canEncode", "(I)Z"⟩ ∈ lwg := List.mem_filter.mpr ⟨List.mem_of_getElem? (i := 675) (by decide +kernel), rfl⟩
set_option maxRecDepth 40000 in
theorem tw_676 : Cond.static ⟨"java/lang/StringLatin1", "canEncode", "(I)Z"⟩ ∈ lwg := List.mem_filter.mpr ⟨List.mem_of_getElem? (i := 676) (by decide +kernel), rfl⟩
set_option maxRecDepth 40000 in
theorem tw_677 : Cond.code ⟨"java/lang/StringLatin1", "canEncode", "(I)Z"⟩ prog_18_method_4_code 1 (some .boolean) ∈ lwg := List.mem_filter.mpr ⟨List.mem_of_getElem? (i := 677) rfl, rfl⟩
set_option maxRecDepth 40000 in
theorem tw_678 : Cond.methodLink "java/lang/StringLatin1" 92 ⟨"java/lang/Math", "max", "(II)I"⟩ ∈ lwg := List.mem_filter.mpr ⟨List.mem_of_getElem? (i := 678) (by decide +kernel), rfl⟩
set_option maxRecDepth 40000 in
theorem tw_679 : Cond.methodLink "java/lang/StringLatin1" 38 ⟨"java/lang/Math", "min", "(II)I"⟩ ∈ lwg := List.mem_filter.mpr ⟨List.mem_of_getElem? (i := 679) (by decide +kernel), rfl⟩
set_option maxRecDepth 40000 in
theorem tw_680 : Cond.methodLink "java/lang/StringLatin1" 95 ⟨"java/lang/StringLatin1", "indexOfChar", "([BIII)I"⟩ ∈ lwg := List.mem_filter.mpr ⟨List.mem_of_getElem? (i := 680) (by decide +kernel), rfl⟩
set_option maxRecDepth 40000 in
theorem tw_681 : Cond.static ⟨"java/lang/StringLatin1", "indexOfChar", "([BIII)I"⟩ ∈ lwg := List.mem_filter.mpr ⟨List.mem_of_getElem? (i := 681) (by decide +kernel), rfl⟩
set_option maxRecDepth 40000 in
theorem tw_682 : Cond.code ⟨"java/lang/StringLatin1", "indexOfChar", "([BIII)I"⟩ prog_18_method_23_code 6 (some .int) ∈ lwg := List.mem_filter.mpr ⟨List.mem_of_getElem? (i := 682) rfl, rfl⟩
set_option maxRecDepth 40000 in
theorem tw_683 : Cond.methodLink "java/lang/String" 640 ⟨"java/lang/StringUTF16", "indexOf", "([BIII)I"⟩ ∈ lwg := List.mem_filter.mpr ⟨List.mem_of_getElem? (i := 683) (by decide +kernel), rfl⟩
set_option maxRecDepth 40000 in
theorem tw_684 : Cond.static ⟨"java/lang/StringUTF16", "indexOf", "([BIII)I"⟩ ∈ lwg := List.mem_filter.mpr ⟨List.mem_of_getElem? (i := 684) (by decide +kernel), rfl⟩
set_option maxRecDepth 40000 in
theorem tw_685 : Cond.code ⟨"java/lang/StringUTF16", "indexOf", "([BIII)I"⟩ prog_19_method_40_code 4 (some .int) ∈ lwg := List.mem_filter.mpr ⟨List.mem_of_getElem? (i := 685) rfl, rfl⟩
set_option maxRecDepth 40000 in
theorem tw_686 : Cond.methodLink "java/lang/StringUTF16" 224 ⟨"java/lang/Math", "max", "(II)I"⟩ ∈ lwg := List.mem_filter.mpr ⟨List.mem_of_getElem? (i := 686) (by decide +kernel), rfl⟩
set_option maxRecDepth 40000 in
theorem tw_687 : Cond.methodLink "java/lang/StringUTF16" 183 ⟨"java/lang/Math", "min", "(II)I"⟩ ∈ lwg := List.mem_filter.mpr ⟨List.mem_of_getElem? (i := 687) (by decide +kernel), rfl⟩
set_option maxRecDepth 40000 in
theorem tw_688 : Cond.constant "java/lang/StringUTF16" 227 65536 ∈ lwg := List.mem_filter.mpr ⟨List.mem_of_getElem? (i := 688) (by decide +kernel), rfl⟩
set_option maxRecDepth 40000 in
theorem tw_689 : Cond.methodLink "java/lang/StringUTF16" 228 ⟨"java/lang/StringUTF16", "indexOfChar", "([BIII)I"⟩ ∈ lwg := List.mem_filter.mpr ⟨List.mem_of_getElem? (i := 689) (by decide +kernel), rfl⟩
set_option maxRecDepth 40000 in
theorem tw_690 : Cond.static ⟨"java/lang/StringUTF16", "indexOfChar", "([BIII)I"⟩ ∈ lwg := List.mem_filter.mpr ⟨List.mem_of_getElem? (i := 690) (by decide +kernel), rfl⟩
set_option maxRecDepth 40000 in
theorem tw_691 : Cond.code ⟨"java/lang/StringUTF16", "indexOfChar", "([BIII)I"⟩ prog_19_method_47_code 4 (some .int) ∈ lwg := List.mem_filter.mpr ⟨List.mem_of_getElem? (i := 691) rfl, rfl⟩
set_option maxRecDepth 40000 in
theorem tw_692 : Cond.methodLink "java/lang/StringUTF16" 96 ⟨"java/lang/StringUTF16", "checkBoundsBeginEnd", "(II[B)V"⟩ ∈ lwg := List.mem_filter.mpr ⟨List.mem_of_getElem? (i := 692) (by decide +kernel), rfl⟩
set_option maxRecDepth 40000 in
theorem tw_693 : Cond.static ⟨"java/lang/StringUTF16", "checkBoundsBeginEnd", "(II[B)V"⟩ ∈ lwg := List.mem_filter.mpr ⟨List.mem_of_getElem? (i := 693) (by decide +kernel), rfl⟩
set_option maxRecDepth 40000 in
theorem tw_694 : Cond.code ⟨"java/lang/StringUTF16", "checkBoundsBeginEnd", "(II[B)V"⟩ prog_19_method_93_code 3 none ∈ lwg := List.mem_filter.mpr ⟨List.mem_of_getElem? (i := 694) rfl, rfl⟩
set_option maxRecDepth 40000 in
theorem tw_695 : Cond.methodLink "java/lang/StringUTF16" 48 ⟨"java/lang/StringUTF16", "length", "([B)I"⟩ ∈ lwg := List.mem_filter.mpr ⟨List.mem_of_getElem? (i := 695) (by decide +kernel), rfl⟩
set_option maxRecDepth 40000 in
theorem tw_696 : Cond.static ⟨"java/lang/StringUTF16", "length", "([B)I"⟩ ∈ lwg := List.mem_filter.mpr ⟨List.mem_of_getElem? (i := 696) (by decide +kernel), rfl⟩
set_option maxRecDepth 40000 in
theorem tw_697 : Cond.code ⟨"java/lang/StringUTF16", "length", "([B)I"⟩ prog_19_method_6_code 1 (some .int) ∈ lwg := List.mem_filter.mpr ⟨List.mem_of_getElem? (i := 697) rfl, rfl⟩
set_option maxRecDepth 40000 in
theorem tw_698 : Cond.methodLink "java/lang/StringUTF16" 241 ⟨"java/lang/String", "checkBoundsBeginEnd", "(III)V"⟩ ∈ lwg := List.mem_filter.mpr ⟨List.mem_of_getElem? (i := 698) (by decide +kernel), rfl⟩
set_option maxRecDepth 40000 in
theorem tw_699 : Cond.static ⟨"java/lang/String", "checkBoundsBeginEnd", "(III)V"⟩ ∈ lwg := List.mem_filter.mpr ⟨List.mem_of_getElem? (i := 699) (by decide +kernel), rfl⟩
set_option maxRecDepth 40000 in
theorem tw_700 : Cond.code ⟨"java/lang/String", "checkBoundsBeginEnd", "(III)V"⟩ prog_17_method_158_code 3 none ∈ lwg := List.mem_filter.mpr ⟨List.mem_of_getElem? (i := 700) rfl, rfl⟩
set_option maxRecDepth 40000 in
theorem tw_701 : Cond.fieldLink "java/lang/String" 1053 "jdk/internal/util/Preconditions" "SIOOBE_FORMATTER" "Ljava/util/function/BiFunction;" ∈ lwg := List.mem_filter.mpr ⟨List.mem_of_getElem? (i := 701) (by decide +kernel), rfl⟩
set_option maxRecDepth 40000 in
theorem tw_703 : Cond.methodLink "java/lang/String" 1062 ⟨"jdk/internal/util/Preconditions", "checkFromToIndex", "(IIILjava/util/function/BiFunction;)I"⟩ ∈ lwg := List.mem_filter.mpr ⟨List.mem_of_getElem? (i := 703) (by decide +kernel), rfl⟩
set_option maxRecDepth 40000 in
theorem tw_704 : Cond.static ⟨"jdk/internal/util/Preconditions", "checkFromToIndex", "(IIILjava/util/function/BiFunction;)I"⟩ ∈ lwg := List.mem_filter.mpr ⟨List.mem_of_getElem? (i := 704) (by decide +kernel), rfl⟩
set_option maxRecDepth 40000 in
theorem tw_705 : Cond.code ⟨"jdk/internal/util/Preconditions", "checkFromToIndex", "(IIILjava/util/function/BiFunction;)I"⟩ prog_22_method_12_code 4 (some .int) ∈ lwg := List.mem_filter.mpr ⟨List.mem_of_getElem? (i := 705) rfl, rfl⟩
set_option maxRecDepth 40000 in
theorem tw_706 : Cond.methodLink "java/lang/StringUTF16" 244 ⟨"java/lang/StringUTF16", "indexOfCharUnsafe", "([BIII)I"⟩ ∈ lwg := List.mem_filter.mpr ⟨List.mem_of_getElem? (i := 706) (by decide +kernel), rfl⟩
set_option maxRecDepth 40000 in
theorem tw_707 : Cond.static ⟨"java/lang/StringUTF16", "indexOfCharUnsafe", "([BIII)I"⟩ ∈ lwg := List.mem_filter.mpr ⟨List.mem_of_getElem? (i := 707) (by decide +kernel), rfl⟩
set_option maxRecDepth 40000 in
theorem tw_708 : Cond.code ⟨"java/lang/StringUTF16", "indexOfCharUnsafe", "([BIII)I"⟩ prog_19_method_48_code 5 (some .int) ∈ lwg := List.mem_filter.mpr ⟨List.mem_of_getElem? (i := 708) rfl, rfl⟩
set_option maxRecDepth 40000 in
theorem tw_709 : Cond.methodLink "java/lang/StringUTF16" 71 ⟨"java/lang/StringUTF16", "getChar", "([BI)C"⟩ ∈ lwg := List.mem_filter.mpr ⟨List.mem_of_getElem? (i := 709) (by decide +kernel), rfl⟩
set_option maxRecDepth 40000 in
theorem tw_710 : Cond.static ⟨"java/lang/StringUTF16", "getChar", "([BI)C"⟩ ∈ lwg := List.mem_filter.mpr ⟨List.mem_of_getElem? (i := 710) (by decide +kernel), rfl⟩
set_option maxRecDepth 40000 in
theorem tw_711 : Cond.code ⟨"java/lang/StringUTF16", "getChar", "([BI)C"⟩ prog_19_method_5_code 2 (some .char) ∈ lwg := List.mem_filter.mpr ⟨List.mem_of_getElem? (i := 711) rfl, rfl⟩
set_option maxRecDepth 40000 in
theorem tw_712 : Cond.fieldLink "java/lang/StringUTF16" 44 "java/lang/StringUTF16" "$assertionsDisabled" "Z" ∈ lwg := List.mem_filter.mpr ⟨List.mem_of_getElem? (i := 712) (by decide +kernel), rfl⟩
set_option maxRecDepth 40000 in
theorem tw_714 : Cond.fieldLink "java/lang/StringUTF16" 59 "java/lang/StringUTF16" "HI_BYTE_SHIFT" "I" ∈ lwg := List.mem_filter.mpr ⟨List.mem_of_getElem? (i := 714) (by decide +kernel), rfl⟩
set_option maxRecDepth 40000 in
theorem tw_716 : Cond.fieldLink "java/lang/StringUTF16" 63 "java/lang/StringUTF16" "LO_BYTE_SHIFT" "I" ∈ lwg := List.mem_filter.mpr ⟨List.mem_of_getElem? (i := 716) (by decide +kernel), rfl⟩
set_option maxRecDepth 40000 in
theorem tw_718 : Cond.methodLink "java/lang/StringUTF16" 232 ⟨"java/lang/StringUTF16", "indexOfSupplementary", "([BIII)I"⟩ ∈ lwg := List.mem_filter.mpr ⟨List.mem_of_getElem? (i := 718) (by decide +kernel), rfl⟩
set_option maxRecDepth 40000 in
theorem tw_719 : Cond.static ⟨"java/lang/StringUTF16", "indexOfSupplementary", "([BIII)I"⟩ ∈ lwg := List.mem_filter.mpr ⟨List.mem_of_getElem? (i := 719) (by decide +kernel), rfl⟩
set_option maxRecDepth 40000 in
theorem tw_720 : Cond.code ⟨"java/lang/StringUTF16", "indexOfSupplementary", "([BIII)I"⟩ prog_19_method_49_code 7 (some .int) ∈ lwg := List.mem_filter.mpr ⟨List.mem_of_getElem? (i := 720) rfl, rfl⟩
set_option maxRecDepth 40000 in
theorem tw_721 : Cond.methodLink "java/lang/StringUTF16" 164 ⟨"java/lang/Character", "isValidCodePoint", "(I)Z"⟩ ∈ lwg := List.mem_filter.mpr ⟨List.mem_of_getElem? (i := 721) (by decide +kernel), rfl⟩
set_option maxRecDepth 40000 in
theorem tw_722 : Cond.static ⟨"java/lang/Character", "isValidCodePoint", "(I)Z"⟩ ∈ lwg := List.mem_filter.mpr ⟨List.mem_of_getElem? (i := 722) (by decide +kernel), rfl⟩
set_option maxRecDepth 40000 in
theorem tw_723 : Cond.code ⟨"java/lang/Character", "isValidCodePoint", "(I)Z"⟩ prog_15_method_11_code 2 (some .boolean) ∈ lwg := List.mem_filter.mpr ⟨List.mem_of_getElem? (i := 723) rfl, rfl⟩
set_option maxRecDepth 40000 in
theorem tw_724 : Cond.methodLink "java/lang/StringUTF16" 157 ⟨"java/lang/Character", "highSurrogate", "(I)C"⟩ ∈ lwg := List.mem_filter.mpr ⟨List.mem_of_getElem? (i := 724) (by decide +kernel), rfl⟩
set_option maxRecDepth 40000 in
theorem tw_725 : Cond.static ⟨"java/lang/Character", "highSurrogate", "(I)C"⟩ ∈ lwg := List.mem_filter.mpr ⟨List.mem_of_getElem? (i := 725) (by decide +kernel), rfl⟩
set_option maxRecDepth 40000 in
theorem tw_726 : Cond.code ⟨"java/lang/Character", "highSurrogate", "(I)C"⟩ prog_15_method_28_code 1 (some .char) ∈ lwg := List.mem_filter.mpr ⟨List.mem_of_getElem? (i := 726) rfl, rfl⟩
set_option maxRecDepth 40000 in
theorem tw_727 : Cond.constant "java/lang/Character" 110 55232 ∈ lwg := List.mem_filter.mpr ⟨List.mem_of_getElem? (i := 727) (by decide +kernel), rfl⟩
set_option maxRecDepth 40000 in
theorem tw_728 : Cond.methodLink "java/lang/StringUTF16" 161 ⟨"java/lang/Character", "lowSurrogate", "(I)C"⟩ ∈ lwg := List.mem_filter.mpr ⟨List.mem_of_getElem? (i := 728) (by decide +kernel), rfl⟩
set_option maxRecDepth 40000 in
theorem tw_729 : Cond.static ⟨"java/lang/Character", "lowSurrogate", "(I)C"⟩ ∈ lwg := List.mem_filter.mpr ⟨List.mem_of_getElem? (i := 729) (by decide +kernel), rfl⟩
set_option maxRecDepth 40000 in
theorem tw_730 : Cond.code ⟨"java/lang/Character", "lowSurrogate", "(I)C"⟩ prog_15_method_29_code 1 (some .char) ∈ lwg := List.mem_filter.mpr ⟨List.mem_of_getElem? (i := 730) rfl, rfl⟩
set_option maxRecDepth 40000 in
theorem tw_731 : Cond.constant "java/lang/Character" 76 56320 ∈ lwg := List.mem_filter.mpr ⟨List.mem_of_getElem? (i := 731) (by decide +kernel), rfl⟩
set_option maxRecDepth 40000 in
theorem tw_732 : Cond.methodLink "KitePost$Text" 97 ⟨"KitePost$Text", "isDigit", "(I)Z"⟩ ∈ lwg := List.mem_filter.mpr ⟨List.mem_of_getElem? (i := 732) (by decide +kernel), rfl⟩
set_option maxRecDepth 40000 in
theorem tw_733 : Cond.static ⟨"KitePost$Text", "isDigit", "(I)Z"⟩ ∈ lwg := List.mem_filter.mpr ⟨List.mem_of_getElem? (i := 733) (by decide +kernel), rfl⟩
set_option maxRecDepth 40000 in
theorem tw_734 : Cond.code ⟨"KitePost$Text", "isDigit", "(I)Z"⟩ prog_12_method_9_code 1 (some .boolean) ∈ lwg := List.mem_filter.mpr ⟨List.mem_of_getElem? (i := 734) rfl, rfl⟩
set_option maxRecDepth 40000 in
theorem tw_735 : Cond.methodLink "KitePost$Text" 100 ⟨"KitePost$Text", "readNumber", "()V"⟩ ∈ lwg := List.mem_filter.mpr ⟨List.mem_of_getElem? (i := 735) (by decide +kernel), rfl⟩
set_option maxRecDepth 40000 in
theorem tw_737 : Cond.instanceMethod ⟨"KitePost$Text", "readNumber", "()V"⟩ ∈ lwg := List.mem_filter.mpr ⟨List.mem_of_getElem? (i := 737) (by decide +kernel), rfl⟩
set_option maxRecDepth 40000 in
theorem tw_738 : Cond.code ⟨"KitePost$Text", "readNumber", "()V"⟩ prog_12_method_10_code 3 none ∈ lwg := List.mem_filter.mpr ⟨List.mem_of_getElem? (i := 738) rfl, rfl⟩
set_option maxRecDepth 40000 in
theorem tw_739 : Cond.methodLink "KitePost$Text" 103 ⟨"KitePost$Text", "readClosing", "()V"⟩ ∈ lwg := List.mem_filter.mpr ⟨List.mem_of_getElem? (i := 739) (by decide +kernel), rfl⟩
set_option maxRecDepth 40000 in
theorem tw_741 : Cond.instanceMethod ⟨"KitePost$Text", "readClosing", "()V"⟩ ∈ lwg := List.mem_filter.mpr ⟨List.mem_of_getElem? (i := 741) (by decide +kernel), rfl⟩
set_option maxRecDepth 40000 in
theorem tw_742 : Cond.code ⟨"KitePost$Text", "readClosing", "()V"⟩ prog_12_method_11_code 1 none ∈ lwg := List.mem_filter.mpr ⟨List.mem_of_getElem? (i := 742) rfl, rfl⟩
set_option maxRecDepth 40000 in
theorem tw_743 : Cond.methodLink "KitePost$Text" 81 ⟨"KitePost$Text", "signsOf", "(I)Ljava/lang/String;"⟩ ∈ lwg := List.mem_filter.mpr ⟨List.mem_of_getElem? (i := 743) (by decide +kernel), rfl⟩
set_option maxRecDepth 40000 in
theorem tw_744 : Cond.static ⟨"KitePost$Text", "signsOf", "(I)Ljava/lang/String;"⟩ ∈ lwg := List.mem_filter.mpr ⟨List.mem_of_getElem? (i := 744) (by decide +kernel), rfl⟩
set_option maxRecDepth 40000 in
theorem tw_745 : Cond.code ⟨"KitePost$Text", "signsOf", "(I)Ljava/lang/String;"⟩ prog_12_method_5_code 1 (some (.object "java/lang/String")) ∈ lwg := List.mem_filter.mpr ⟨List.mem_of_getElem? (i := 745) rfl, rfl⟩
set_option maxRecDepth 40000 in
theorem tw_751 : Cond.methodLink "KitePost$Text" 35 ⟨"KitePost$Row", "copyFrom", "(LKitePost$Row;)V"⟩ ∈ lwg := List.mem_filter.mpr ⟨List.mem_of_getElem? (i := 751) (by decide +kernel), rfl⟩
set_option maxRecDepth 40000 in
theorem tw_752 : Cond.instanceMethod ⟨"KitePost$Row", "copyFrom", "(LKitePost$Row;)V"⟩ ∈ lwg := List.mem_filter.mpr ⟨List.mem_of_getElem? (i := 752) (by decide +kernel), rfl⟩
set_option maxRecDepth 40000 in
theorem tw_753 : Cond.selects "KitePost$Row" ⟨"KitePost$Row", "copyFrom", "(LKitePost$Row;)V"⟩ ⟨"KitePost$Row", "copyFrom", "(LKitePost$Row;)V"⟩ ∈ lwg := List.mem_filter.mpr ⟨List.mem_of_getElem? (i := 753) (by decide +kernel), rfl⟩
set_option maxRecDepth 40000 in
theorem tw_754 : Cond.code ⟨"KitePost$Row", "copyFrom", "(LKitePost$Row;)V"⟩ prog_8_method_5_code 3 none ∈ lwg := List.mem_filter.mpr ⟨List.mem_of_getElem? (i := 754) rfl, rfl⟩
set_option maxRecDepth 40000 in
theorem tw_755 : Cond.methodLink "KitePost$Row" 23 ⟨"java/lang/Math", "min", "(II)I"⟩ ∈ lwg := List.mem_filter.mpr ⟨List.mem_of_getElem? (i := 755) (by decide +kernel), rfl⟩
set_option maxRecDepth 40000 in
theorem tw_756 : Cond.methodLink "KitePost$Row" 26 ⟨"java/lang/System", "arraycopy", "(Ljava/lang/Object;ILjava/lang/Object;II)V"⟩ ∈ lwg := List.mem_filter.mpr ⟨List.mem_of_getElem? (i := 756) (by decide +kernel), rfl⟩
set_option maxRecDepth 40000 in
theorem tw_757 : Cond.static ⟨"java/lang/System", "arraycopy", "(Ljava/lang/Object;ILjava/lang/Object;II)V"⟩ ∈ lwg := List.mem_filter.mpr ⟨List.mem_of_getElem? (i := 757) (by decide +kernel), rfl⟩
set_option maxRecDepth 40000 in
theorem tw_758 : Cond.native ⟨"java/lang/System", "arraycopy", "(Ljava/lang/Object;ILjava/lang/Object;II)V"⟩ ∈ lwg := List.mem_filter.mpr ⟨List.mem_of_getElem? (i := 758) (by decide +kernel), rfl⟩
set_option maxRecDepth 40000 in
theorem tw_759 : Cond.methodLink "KitePost" 159 ⟨"KitePost$Row", "clear", "()V"⟩ ∈ lwg := List.mem_filter.mpr ⟨List.mem_of_getElem? (i := 759) (by decide +kernel), rfl⟩
set_option maxRecDepth 40000 in
theorem tw_760 : Cond.arrayClass .byte ∈ lwg := List.mem_filter.mpr ⟨List.mem_of_getElem? (i := 760) (by decide +kernel), rfl⟩
set_option maxRecDepth 40000 in
theorem tw_761 : Cond.methodLink "KitePostLaw" 67 ⟨"KitePost", "law", "(IIIII)I"⟩ ∈ lwg := List.mem_filter.mpr ⟨List.mem_of_getElem? (i := 761) (by decide +kernel), rfl⟩
set_option maxRecDepth 40000 in
theorem tw_762 : Cond.instanceMethod ⟨"KitePost", "law", "(IIIII)I"⟩ ∈ lwg := List.mem_filter.mpr ⟨List.mem_of_getElem? (i := 762) (by decide +kernel), rfl⟩
set_option maxRecDepth 40000 in
theorem tw_763 : Cond.selects "KitePost" ⟨"KitePost", "law", "(IIIII)I"⟩ ⟨"KitePost", "law", "(IIIII)I"⟩ ∈ lwg := List.mem_filter.mpr ⟨List.mem_of_getElem? (i := 763) (by decide +kernel), rfl⟩
set_option maxRecDepth 40000 in
theorem tw_764 : Cond.code ⟨"KitePost", "law", "(IIIII)I"⟩ prog_1_method_14_code 6 (some .int) ∈ lwg := List.mem_filter.mpr ⟨List.mem_of_getElem? (i := 764) rfl, rfl⟩
set_option maxRecDepth 40000 in
theorem tw_765 : Cond.methodLink "KitePost" 162 ⟨"KitePost$Text", "givenBy", "(IIII)I"⟩ ∈ lwg := List.mem_filter.mpr ⟨List.mem_of_getElem? (i := 765) (by decide +kernel), rfl⟩
set_option maxRecDepth 40000 in
theorem tw_766 : Cond.methodLink "KitePostLaw" 72 ⟨"KitePost", "cross", "(II)I"⟩ ∈ lwg := List.mem_filter.mpr ⟨List.mem_of_getElem? (i := 766) (by decide +kernel), rfl⟩
set_option maxRecDepth 40000 in
theorem tw_767 : Cond.instanceMethod ⟨"KitePost", "cross", "(II)I"⟩ ∈ lwg := List.mem_filter.mpr ⟨List.mem_of_getElem? (i := 767) (by decide +kernel), rfl⟩
set_option maxRecDepth 40000 in
theorem tw_768 : Cond.selects "KitePost" ⟨"KitePost", "cross", "(II)I"⟩ ⟨"KitePost", "cross", "(II)I"⟩ ∈ lwg := List.mem_filter.mpr ⟨List.mem_of_getElem? (i := 768) (by decide +kernel), rfl⟩
set_option maxRecDepth 40000 in
theorem tw_769 : Cond.code ⟨"KitePost", "cross", "(II)I"⟩ prog_1_method_15_code 5 (some .int) ∈ lwg := List.mem_filter.mpr ⟨List.mem_of_getElem? (i := 769) rfl, rfl⟩
set_option maxRecDepth 40000 in
theorem tw_770 : Cond.methodLink "KitePost" 166 ⟨"KitePost$Post", "lineBits", "(I)I"⟩ ∈ lwg := List.mem_filter.mpr ⟨List.mem_of_getElem? (i := 770) (by decide +kernel), rfl⟩
set_option maxRecDepth 40000 in
theorem tw_771 : Cond.instanceMethod ⟨"KitePost$Post", "lineBits", "(I)I"⟩ ∈ lwg := List.mem_filter.mpr ⟨List.mem_of_getElem? (i := 771) (by decide +kernel), rfl⟩
set_option maxRecDepth 40000 in
theorem tw_772 : Cond.selects "KitePost$Post" ⟨"KitePost$Post", "lineBits", "(I)I"⟩ ⟨"KitePost$Post", "lineBits", "(I)I"⟩ ∈ lwg := List.mem_filter.mpr ⟨List.mem_of_getElem? (i := 772) (by decide +kernel), rfl⟩
set_option maxRecDepth 40000 in
theorem tw_773 : Cond.code ⟨"KitePost$Post", "lineBits", "(I)I"⟩ prog_7_method_24_code 6 (some .int) ∈ lwg := List.mem_filter.mpr ⟨List.mem_of_getElem? (i := 773) rfl, rfl⟩
set_option maxRecDepth 40000 in
theorem tw_774 : Cond.methodLink "KitePost$Post" 201 ⟨"KitePost$Post", "kiteAt", "(I)LKitePost$Kite;"⟩ ∈ lwg := List.mem_filter.mpr ⟨List.mem_of_getElem? (i := 774) (by decide +kernel), rfl⟩
set_option maxRecDepth 40000 in
theorem tw_775 : Cond.methodLink "KitePost$Post" 205 ⟨"KitePost$Post", "aimOf", "(I)I"⟩ ∈ lwg := List.mem_filter.mpr ⟨List.mem_of_getElem? (i := 775) (by decide +kernel), rfl⟩
set_option maxRecDepth 40000 in
theorem tw_776 : Cond.methodLink "KitePost" 169 ⟨"KitePost$Post", "linesMeet", "(II)Z"⟩ ∈ lwg := List.mem_filter.mpr ⟨List.mem_of_getElem? (i := 776) (by decide +kernel), rfl⟩
set_option maxRecDepth 40000 in
theorem tw_777 : Cond.instanceMethod ⟨"KitePost$Post", "linesMeet", "(II)Z"⟩ ∈ lwg := List.mem_filter.mpr ⟨List.mem_of_getElem? (i := 777) (by decide +kernel), rfl⟩
set_option maxRecDepth 40000 in
theorem tw_778 : Cond.selects "KitePost$Post" ⟨"KitePost$Post", "linesMeet", "(II)Z"⟩ ⟨"KitePost$Post", "linesMeet", "(II)Z"⟩ ∈ lwg := List.mem_filter.mpr ⟨List.mem_of_getElem? (i := 778) (by decide +kernel), rfl⟩
set_option maxRecDepth 40000 in
theorem tw_779 : Cond.code ⟨"KitePost$Post", "linesMeet", "(II)Z"⟩ prog_7_method_27_code 9 (some .boolean) ∈ lwg := List.mem_filter.mpr ⟨List.mem_of_getElem? (i := 779) rfl, rfl⟩
set_option maxRecDepth 40000 in
theorem tw_780 : Cond.methodLink "KitePost$Post" 215 ⟨"KitePost$Post", "isInside", "(III)Z"⟩ ∈ lwg := List.mem_filter.mpr ⟨List.mem_of_getElem? (i := 780) (by decide +kernel), rfl⟩
set_option maxRecDepth 40000 in
theorem tw_782 : Cond.instanceMethod ⟨"KitePost$Post", "isInside", "(III)Z"⟩ ∈ lwg := List.mem_filter.mpr ⟨List.mem_of_getElem? (i := 782) (by decide +kernel), rfl⟩
set_option maxRecDepth 40000 in
theorem tw_783 : Cond.code ⟨"KitePost$Post", "isInside", "(III)Z"⟩ prog_7_method_30_code 4 (some .boolean) ∈ lwg := List.mem_filter.mpr ⟨List.mem_of_getElem? (i := 783) rfl, rfl⟩
set_option maxRecDepth 40000 in
theorem tw_784 : Cond.methodLink "KitePost$Post" 218 ⟨"KitePost$Post", "turn", "(III)I"⟩ ∈ lwg := List.mem_filter.mpr ⟨List.mem_of_getElem? (i := 784) (by decide +kernel), rfl⟩
set_option maxRecDepth 40000 in
theorem tw_786 : Cond.instanceMethod ⟨"KitePost$Post", "turn", "(III)I"⟩ ∈ lwg := List.mem_filter.mpr ⟨List.mem_of_getElem? (i := 786) (by decide +kernel), rfl⟩
set_option maxRecDepth 40000 in
theorem tw_787 : Cond.code ⟨"KitePost$Post", "turn", "(III)I"⟩ prog_7_method_29_code 4 (some .int) ∈ lwg := List.mem_filter.mpr ⟨List.mem_of_getElem? (i := 787) rfl, rfl⟩
set_option maxRecDepth 40000 in
theorem tw_788 : Cond.methodLink "KitePost$Post" 221 ⟨"KitePost$Post", "areApart", "(II)Z"⟩ ∈ lwg := List.mem_filter.mpr ⟨List.mem_of_getElem? (i := 788) (by decide +kernel), rfl⟩
set_option maxRecDepth 40000 in
theorem tw_789 : Cond.static ⟨"KitePost$Post", "areApart", "(II)Z"⟩ ∈ lwg := List.mem_filter.mpr ⟨List.mem_of_getElem? (i := 789) (by decide +kernel), rfl⟩
set_option maxRecDepth 40000 in
theorem tw_790 : Cond.code ⟨"KitePost$Post", "areApart", "(II)Z"⟩ prog_7_method_28_code 2 (some .boolean) ∈ lwg := List.mem_filter.mpr ⟨List.mem_of_getElem? (i := 790) rfl, rfl⟩
set_option maxRecDepth 40000 in
theorem tw_791 : Cond.methodLink "KitePostLaw" 76 ⟨"KitePost", "lines", "(I)I"⟩ ∈ lwg := List.mem_filter.mpr ⟨List.mem_of_getElem? (i := 791) (by decide +kernel), rfl⟩
set_option maxRecDepth 40000 in
theorem tw_792 : Cond.instanceMethod ⟨"KitePost", "lines", "(I)I"⟩ ∈ lwg := List.mem_filter.mpr ⟨List.mem_of_getElem? (i := 792) (by decide +kernel), rfl⟩
set_option maxRecDepth 40000 in
theorem tw_793 : Cond.selects "KitePost" ⟨"KitePost", "lines", "(I)I"⟩ ⟨"KitePost", "lines", "(I)I"⟩ ∈ lwg := List.mem_filter.mpr ⟨List.mem_of_getElem? (i := 793) (by decide +kernel), rfl⟩
set_option maxRecDepth 40000 in
theorem tw_794 : Cond.code ⟨"KitePost", "lines", "(I)I"⟩ prog_1_method_16_code 3 (some .int) ∈ lwg := List.mem_filter.mpr ⟨List.mem_of_getElem? (i := 794) rfl, rfl⟩
set_option maxRecDepth 40000 in
theorem tw_795 : Cond.methodLink "KitePost" 173 ⟨"KitePost$Post", "downBits", "(I)I"⟩ ∈ lwg := List.mem_filter.mpr ⟨List.mem_of_getElem? (i := 795) (by decide +kernel), rfl⟩
set_option maxRecDepth 40000 in
theorem tw_796 : Cond.instanceMethod ⟨"KitePost$Post", "downBits", "(I)I"⟩ ∈ lwg := List.mem_filter.mpr ⟨List.mem_of_getElem? (i := 796) (by decide +kernel), rfl⟩
set_option maxRecDepth 40000 in
theorem tw_797 : Cond.selects "KitePost$Post" ⟨"KitePost$Post", "downBits", "(I)I"⟩ ⟨"KitePost$Post", "downBits", "(I)I"⟩ ∈ lwg := List.mem_filter.mpr ⟨List.mem_of_getElem? (i := 797) (by decide +kernel), rfl⟩
set_option maxRecDepth 40000 in
theorem tw_798 : Cond.code ⟨"KitePost$Post", "downBits", "(I)I"⟩ prog_7_method_25_code 8 (some .int) ∈ lwg := List.mem_filter.mpr ⟨List.mem_of_getElem? (i := 798) rfl, rfl⟩
set_option maxRecDepth 40000 in
theorem tw_799 : Cond.methodLink "KitePost$Post" 208 ⟨"KitePost$Post", "greatestLift", "(I)I"⟩ ∈ lwg := List.mem_filter.mpr ⟨List.mem_of_getElem? (i := 799) (by decide +kernel), rfl⟩
set_option maxRecDepth 40000 in
theorem tw_801 : Cond.instanceMethod ⟨"KitePost$Post", "greatestLift", "(I)I"⟩ ∈ lwg := List.mem_filter.mpr ⟨List.mem_of_getElem? (i := 801) (by decide +kernel), rfl⟩
set_option maxRecDepth 40000 in
theorem tw_802 : Cond.code ⟨"KitePost$Post", "greatestLift", "(I)I"⟩ prog_7_method_26_code 6 (some .int) ∈ lwg := List.mem_filter.mpr ⟨List.mem_of_getElem? (i := 802) rfl, rfl⟩
set_option maxRecDepth 40000 in
theorem tw_803 : Cond.methodLink "KitePost$Post" 211 ⟨"KitePost$Post", "linesMeet", "(II)Z"⟩ ∈ lwg := List.mem_filter.mpr ⟨List.mem_of_getElem? (i := 803) (by decide +kernel), rfl⟩
set_option maxRecDepth 40000 in
theorem tw_804 : Cond.methodLink "KitePostLaw" 80 ⟨"KitePost", "letter", "(IIII)I"⟩ ∈ lwg := List.mem_filter.mpr ⟨List.mem_of_getElem? (i := 804) (by decide +kernel), rfl⟩
set_option maxRecDepth 40000 in
theorem tw_805 : Cond.instanceMethod ⟨"KitePost", "letter", "(IIII)I"⟩ ∈ lwg := List.mem_filter.mpr ⟨List.mem_of_getElem? (i := 805) (by decide +kernel), rfl⟩
set_option maxRecDepth 40000 in
theorem tw_806 : Cond.selects "KitePost" ⟨"KitePost", "letter", "(IIII)I"⟩ ⟨"KitePost", "letter", "(IIII)I"⟩ ∈ lwg := List.mem_filter.mpr ⟨List.mem_of_getElem? (i := 806) (by decide +kernel), rfl⟩
set_option maxRecDepth 40000 in
theorem tw_807 : Cond.code ⟨"KitePost", "letter", "(IIII)I"⟩ prog_1_method_17_code 5 (some .int) ∈ lwg := List.mem_filter.mpr ⟨List.mem_of_getElem? (i := 807) rfl, rfl⟩
set_option maxRecDepth 40000 in
theorem tw_808 : Cond.methodLink "KitePost" 176 ⟨"KitePost$Post", "areTwoHills", "(II)Z"⟩ ∈ lwg := List.mem_filter.mpr ⟨List.mem_of_getElem? (i := 808) (by decide +kernel), rfl⟩
set_option maxRecDepth 40000 in
theorem tw_809 : Cond.instanceMethod ⟨"KitePost$Post", "areTwoHills", "(II)Z"⟩ ∈ lwg := List.mem_filter.mpr ⟨List.mem_of_getElem? (i := 809) (by decide +kernel), rfl⟩
set_option maxRecDepth 40000 in
theorem tw_810 : Cond.selects "KitePost$Post" ⟨"KitePost$Post", "areTwoHills", "(II)Z"⟩ ⟨"KitePost$Post", "areTwoHills", "(II)Z"⟩ ∈ lwg := List.mem_filter.mpr ⟨List.mem_of_getElem? (i := 810) (by decide +kernel), rfl⟩
set_option maxRecDepth 40000 in
theorem tw_811 : Cond.code ⟨"KitePost$Post", "areTwoHills", "(II)Z"⟩ prog_7_method_4_code 3 (some .boolean) ∈ lwg := List.mem_filter.mpr ⟨List.mem_of_getElem? (i := 811) rfl, rfl⟩
set_option maxRecDepth 40000 in
theorem tw_812 : Cond.methodLink "KitePost" 182 ⟨"KitePost$Post", "addLetter", "(IIII)I"⟩ ∈ lwg := List.mem_filter.mpr ⟨List.mem_of_getElem? (i := 812) (by decide +kernel), rfl⟩
set_option maxRecDepth 40000 in
theorem tw_813 : Cond.instanceMethod ⟨"KitePost$Post", "addLetter", "(IIII)I"⟩ ∈ lwg := List.mem_filter.mpr ⟨List.mem_of_getElem? (i := 813) (by decide +kernel), rfl⟩
set_option maxRecDepth 40000 in
theorem tw_814 : Cond.selects "KitePost$Post" ⟨"KitePost$Post", "addLetter", "(IIII)I"⟩ ⟨"KitePost$Post", "addLetter", "(IIII)I"⟩ ∈ lwg := List.mem_filter.mpr ⟨List.mem_of_getElem? (i := 814) (by decide +kernel), rfl⟩
set_option maxRecDepth 40000 in
theorem tw_815 : Cond.code ⟨"KitePost$Post", "addLetter", "(IIII)I"⟩ prog_7_method_34_code 6 (some .int) ∈ lwg := List.mem_filter.mpr ⟨List.mem_of_getElem? (i := 815) rfl, rfl⟩
set_option maxRecDepth 40000 in
theorem tw_816 : Cond.methodLink "KitePost$Post" 227 ⟨"KitePost$Post", "change", "(III)V"⟩ ∈ lwg := List.mem_filter.mpr ⟨List.mem_of_getElem? (i := 816) (by decide +kernel), rfl⟩
set_option maxRecDepth 40000 in
theorem tw_818 : Cond.instanceMethod ⟨"KitePost$Post", "change", "(III)V"⟩ ∈ lwg := List.mem_filter.mpr ⟨List.mem_of_getElem? (i := 818) (by decide +kernel), rfl⟩
set_option maxRecDepth 40000 in
theorem tw_819 : Cond.code ⟨"KitePost$Post", "change", "(III)V"⟩ prog_7_method_33_code 4 none ∈ lwg := List.mem_filter.mpr ⟨List.mem_of_getElem? (i := 819) rfl, rfl⟩
set_option maxRecDepth 40000 in
theorem tw_820 : Cond.methodLink "KitePostLaw" 85 ⟨"KitePost", "ofLetter", "(II)I"⟩ ∈ lwg := List.mem_filter.mpr ⟨List.mem_of_getElem? (i := 820) (by decide +kernel), rfl⟩
set_option maxRecDepth 40000 in
theorem tw_821 : Cond.instanceMethod ⟨"KitePost", "ofLetter", "(II)I"⟩ ∈ lwg := List.mem_filter.mpr ⟨List.mem_of_getElem? (i := 821) (by decide +kernel), rfl⟩
set_option maxRecDepth 40000 in
theorem tw_822 : Cond.selects "KitePost" ⟨"KitePost", "ofLetter", "(II)I"⟩ ⟨"KitePost", "ofLetter", "(II)I"⟩ ∈ lwg := List.mem_filter.mpr ⟨List.mem_of_getElem? (i := 822) (by decide +kernel), rfl⟩
set_option maxRecDepth 40000 in
theorem tw_823 : Cond.code ⟨"KitePost", "ofLetter", "(II)I"⟩ prog_1_method_18_code 3 (some .int) ∈ lwg := List.mem_filter.mpr ⟨List.mem_of_getElem? (i := 823) rfl, rfl⟩
set_option maxRecDepth 40000 in
theorem tw_824 : Cond.methodLink "KitePost" 185 ⟨"KitePost$Post", "isLetter", "(I)Z"⟩ ∈ lwg := List.mem_filter.mpr ⟨List.mem_of_getElem? (i := 824) (by decide +kernel), rfl⟩
set_option maxRecDepth 40000 in
theorem tw_825 : Cond.methodLink "KitePost" 188 ⟨"KitePost$Post", "ofOne", "(II)I"⟩ ∈ lwg := List.mem_filter.mpr ⟨List.mem_of_getElem? (i := 825) (by decide +kernel), rfl⟩
set_option maxRecDepth 40000 in
theorem tw_826 : Cond.methodLink "KitePostLaw" 89 ⟨"KitePost", "hours", "(I)I"⟩ ∈ lwg := List.mem_filter.mpr ⟨List.mem_of_getElem? (i := 826) (by decide +kernel), rfl⟩
set_option maxRecDepth 40000 in
theorem tw_827 : Cond.instanceMethod ⟨"KitePost", "hours", "(I)I"⟩ ∈ lwg := List.mem_filter.mpr ⟨List.mem_of_getElem? (i := 827) (by decide +kernel), rfl⟩
set_option maxRecDepth 40000 in
theorem tw_828 : Cond.selects "KitePost" ⟨"KitePost", "hours", "(I)I"⟩ ⟨"KitePost", "hours", "(I)I"⟩ ∈ lwg := List.mem_filter.mpr ⟨List.mem_of_getElem? (i := 828) (by decide +kernel), rfl⟩
set_option maxRecDepth 40000 in
theorem tw_829 : Cond.code ⟨"KitePost", "hours", "(I)I"⟩ prog_1_method_19_code 2 (some .int) ∈ lwg := List.mem_filter.mpr ⟨List.mem_of_getElem? (i := 829) rfl, rfl⟩
set_option maxRecDepth 40000 in
theorem tw_830 : Cond.methodLink "KitePost" 191 ⟨"KitePost$Post", "passHours", "(I)V"⟩ ∈ lwg := List.mem_filter.mpr ⟨List.mem_of_getElem? (i := 830) (by decide +kernel), rfl⟩
set_option maxRecDepth 40000 in
theorem tw_831 : Cond.instanceMethod ⟨"KitePost$Post", "passHours", "(I)V"⟩ ∈ lwg := List.mem_filter.mpr ⟨List.mem_of_getElem? (i := 831) (by decide +kernel), rfl⟩
set_option maxRecDepth 40000 in
theorem tw_832 : Cond.selects "KitePost$Post" ⟨"KitePost$Post", "passHours", "(I)V"⟩ ⟨"KitePost$Post", "passHours", "(I)V"⟩ ∈ lwg := List.mem_filter.mpr ⟨List.mem_of_getElem? (i := 832) (by decide +kernel), rfl⟩
set_option maxRecDepth 40000 in
theorem tw_833 : Cond.code ⟨"KitePost$Post", "passHours", "(I)V"⟩ prog_7_method_37_code 3 none ∈ lwg := List.mem_filter.mpr ⟨List.mem_of_getElem? (i := 833) rfl, rfl⟩
set_option maxRecDepth 40000 in
theorem tw_834 : Cond.methodLink "KitePost$Post" 237 ⟨"KitePost$Post", "passHour", "()V"⟩ ∈ lwg := List.mem_filter.mpr ⟨List.mem_of_getElem? (i := 834) (by decide +kernel), rfl⟩
set_option maxRecDepth 40000 in
theorem tw_836 : Cond.instanceMethod ⟨"KitePost$Post", "passHour", "()V"⟩ ∈ lwg := List.mem_filter.mpr ⟨List.mem_of_getElem? (i := 836) (by decide +kernel), rfl⟩
set_option maxRecDepth 40000 in
theorem tw_837 : Cond.code ⟨"KitePost$Post", "passHour", "()V"⟩ prog_7_method_39_code 5 none ∈ lwg := List.mem_filter.mpr ⟨List.mem_of_getElem? (i := 837) rfl, rfl⟩
set_option maxRecDepth 40000 in
theorem tw_838 : Cond.methodLink "KitePost$Post" 244 ⟨"KitePost$Post", "lineBits", "(I)I"⟩ ∈ lwg := List.mem_filter.mpr ⟨List.mem_of_getElem? (i := 838) (by decide +kernel), rfl⟩
set_option maxRecDepth 40000 in
theorem tw_839 : Cond.methodLink "KitePost$Post" 247 ⟨"KitePost$Post", "anyHasLetters", "(I)Z"⟩ ∈ lwg := List.mem_filter.mpr ⟨List.mem_of_getElem? (i := 839) (by decide +kernel), rfl⟩
set_option maxRecDepth 40000 in
theorem tw_841 : Cond.instanceMethod ⟨"KitePost$Post", "anyHasLetters", "(I)Z"⟩ ∈ lwg := List.mem_filter.mpr ⟨List.mem_of_getElem? (i := 841) (by decide +kernel), rfl⟩
set_option maxRecDepth 40000 in
theorem tw_842 : Cond.code ⟨"KitePost$Post", "anyHasLetters", "(I)Z"⟩ prog_7_method_40_code 4 (some .boolean) ∈ lwg := List.mem_filter.mpr ⟨List.mem_of_getElem? (i := 842) rfl, rfl⟩
set_option maxRecDepth 40000 in
theorem tw_843 : Cond.methodLink "KitePost$Post" 256 ⟨"KitePost$Post", "lettersOn", "(I)I"⟩ ∈ lwg := List.mem_filter.mpr ⟨List.mem_of_getElem? (i := 843) (by decide +kernel), rfl⟩
set_option maxRecDepth 40000 in
theorem tw_844 : Cond.methodLink "KitePost$Post" 250 ⟨"KitePost$Post", "downBits", "(I)I"⟩ ∈ lwg := List.mem_filter.mpr ⟨List.mem_of_getElem? (i := 844) (by decide +kernel), rfl⟩
set_option maxRecDepth 40000 in
theorem tw_845 : Cond.methodLink "KitePost$Post" 253 ⟨"KitePost$Post", "takenBy", "(II)I"⟩ ∈ lwg := List.mem_filter.mpr ⟨List.mem_of_getElem? (i := 845) (by decide +kernel), rfl⟩
set_option maxRecDepth 40000 in
theorem tw_847 : Cond.instanceMethod ⟨"KitePost$Post", "takenBy", "(II)I"⟩ ∈ lwg := List.mem_filter.mpr ⟨List.mem_of_getElem? (i := 847) (by decide +kernel), rfl⟩
set_option maxRecDepth 40000 in
theorem tw_848 : Cond.code ⟨"KitePost$Post", "takenBy", "(II)I"⟩ prog_7_method_41_code 9 (some .int) ∈ lwg := List.mem_filter.mpr ⟨List.mem_of_getElem? (i := 848) rfl, rfl⟩
set_option maxRecDepth 40000 in
theorem tw_849 : Cond.methodLink "KitePost$Post" 259 ⟨"KitePost$Post", "bring", "(II)V"⟩ ∈ lwg := List.mem_filter.mpr ⟨List.mem_of_getElem? (i := 849) (by decide +kernel), rfl⟩
set_option maxRecDepth 40000 in
theorem tw_851 : Cond.instanceMethod ⟨"KitePost$Post", "bring", "(II)V"⟩ ∈ lwg := List.mem_filter.mpr ⟨List.mem_of_getElem? (i := 851) (by decide +kernel), rfl⟩
set_option maxRecDepth 40000 in
theorem tw_852 : Cond.code ⟨"KitePost$Post", "bring", "(II)V"⟩ prog_7_method_42_code 6 none ∈ lwg := List.mem_filter.mpr ⟨List.mem_of_getElem? (i := 852) rfl, rfl⟩
set_option maxRecDepth 40000 in
theorem tw_853 : Cond.methodLink "KitePost$Post" 262 ⟨"KitePost$Row", "add", "(I)Z"⟩ ∈ lwg := List.mem_filter.mpr ⟨List.mem_of_getElem? (i := 853) (by decide +kernel), rfl⟩
set_option maxRecDepth 40000 in
theorem tw_854 : Cond.constant "KitePost$Post" 265 999999 ∈ lwg := List.mem_filter.mpr ⟨List.mem_of_getElem? (i := 854) (by decide +kernel), rfl⟩
set_option maxRecDepth 40000 in
theorem tw_855 : Cond.methodLink "KitePost$Post" 266 ⟨"java/lang/Math", "min", "(II)I"⟩ ∈ lwg := List.mem_filter.mpr ⟨List.mem_of_getElem? (i := 855) (by decide +kernel), rfl⟩
set_option maxRecDepth 40000 in
theorem tw_856 : Cond.methodLink "KitePostLaw" 93 ⟨"KitePost", "loose", "(II)I"⟩ ∈ lwg := List.mem_filter.mpr ⟨List.mem_of_getElem? (i := 856) (by decide +kernel), rfl⟩
set_option maxRecDepth 40000 in
theorem tw_857 : Cond.instanceMethod ⟨"KitePost", "loose", "(II)I"⟩ ∈ lwg := List.mem_filter.mpr ⟨List.mem_of_getElem? (i := 857) (by decide +kernel), rfl⟩
set_option maxRecDepth 40000 in
theorem tw_858 : Cond.selects "KitePost" ⟨"KitePost", "loose", "(II)I"⟩ ⟨"KitePost", "loose", "(II)I"⟩ ∈ lwg := List.mem_filter.mpr ⟨List.mem_of_getElem? (i := 858) (by decide +kernel), rfl⟩
set_option maxRecDepth 40000 in
theorem tw_859 : Cond.code ⟨"KitePost", "loose", "(II)I"⟩ prog_1_method_20_code 4 (some .int) ∈ lwg := List.mem_filter.mpr ⟨List.mem_of_getElem? (i := 859) rfl, rfl⟩
set_option maxRecDepth 40000 in
theorem tw_860 : Cond.methodLink "KitePost" 194 ⟨"KitePost$Post", "nextDraw", "()I"⟩ ∈ lwg := List.mem_filter.mpr ⟨List.mem_of_getElem? (i := 860) (by decide +kernel), rfl⟩
set_option maxRecDepth 40000 in
theorem tw_861 : Cond.instanceMethod ⟨"KitePost$Post", "nextDraw", "()I"⟩ ∈ lwg := List.mem_filter.mpr ⟨List.mem_of_getElem? (i := 861) (by decide +kernel), rfl⟩
set_option maxRecDepth 40000 in
theorem tw_862 : Cond.selects "KitePost$Post" ⟨"KitePost$Post", "nextDraw", "()I"⟩ ⟨"KitePost$Post", "nextDraw", "()I"⟩ ∈ lwg := List.mem_filter.mpr ⟨List.mem_of_getElem? (i := 862) (by decide +kernel), rfl⟩
set_option maxRecDepth 40000 in
theorem tw_863 : Cond.code ⟨"KitePost$Post", "nextDraw", "()I"⟩ prog_7_method_38_code 1 (some .int) ∈ lwg := List.mem_filter.mpr ⟨List.mem_of_getElem? (i := 863) rfl, rfl⟩
set_option maxRecDepth 40000 in
theorem tw_864 : Cond.constant "KitePost$Post" 240 1103515245 ∈ lwg := List.mem_filter.mpr ⟨List.mem_of_getElem? (i := 864) (by decide +kernel), rfl⟩
set_option maxRecDepth 40000 in
theorem tw_865 : Cond.methodLink "KitePostLaw" 97 ⟨"KitePost", "then", "(II)I"⟩ ∈ lwg := List.mem_filter.mpr ⟨List.mem_of_getElem? (i := 865) (by decide +kernel), rfl⟩
set_option maxRecDepth 40000 in
theorem tw_866 : Cond.instanceMethod ⟨"KitePost", "then", "(II)I"⟩ ∈ lwg := List.mem_filter.mpr ⟨List.mem_of_getElem? (i := 866) (by decide +kernel), rfl⟩
set_option maxRecDepth 40000 in
theorem tw_867 : Cond.selects "KitePost" ⟨"KitePost", "then", "(II)I"⟩ ⟨"KitePost", "then", "(II)I"⟩ ∈ lwg := List.mem_filter.mpr ⟨List.mem_of_getElem? (i := 867) (by decide +kernel), rfl⟩
set_option maxRecDepth 40000 in
theorem tw_868 : Cond.code ⟨"KitePost", "then", "(II)I"⟩ prog_1_method_21_code 3 (some .int) ∈ lwg := List.mem_filter.mpr ⟨List.mem_of_getElem? (i := 868) rfl, rfl⟩
set_option maxRecDepth 40000 in
theorem tw_869 : Cond.methodLink "KitePost" 198 ⟨"KitePost$Post", "copyFrom", "(LKitePost$Post;)V"⟩ ∈ lwg := List.mem_filter.mpr ⟨List.mem_of_getElem? (i := 869) (by decide +kernel), rfl⟩
set_option maxRecDepth 40000 in
theorem tw_870 : Cond.instanceMethod ⟨"KitePost$Post", "copyFrom", "(LKitePost$Post;)V"⟩ ∈ lwg := List.mem_filter.mpr ⟨List.mem_of_getElem? (i := 870) (by decide +kernel), rfl⟩
set_option maxRecDepth 40000 in
theorem tw_871 : Cond.selects "KitePost$Post" ⟨"KitePost$Post", "copyFrom", "(LKitePost$Post;)V"⟩ ⟨"KitePost$Post", "copyFrom", "(LKitePost$Post;)V"⟩ ∈ lwg := List.mem_filter.mpr ⟨List.mem_of_getElem? (i := 871) (by decide +kernel), rfl⟩
set_option maxRecDepth 40000 in
theorem tw_872 : Cond.code ⟨"KitePost$Post", "copyFrom", "(LKitePost$Post;)V"⟩ prog_7_method_2_code 3 none ∈ lwg := List.mem_filter.mpr ⟨List.mem_of_getElem? (i := 872) rfl, rfl⟩
set_option maxRecDepth 40000 in
theorem tw_873 : Cond.methodLink "KitePost$Post" 71 ⟨"java/lang/System", "arraycopy", "(Ljava/lang/Object;ILjava/lang/Object;II)V"⟩ ∈ lwg := List.mem_filter.mpr ⟨List.mem_of_getElem? (i := 873) (by decide +kernel), rfl⟩
set_option maxRecDepth 40000 in
theorem tw_874 : Cond.methodLink "KitePost$Post" 86 ⟨"KitePost$Row", "copyFrom", "(LKitePost$Row;)V"⟩ ∈ lwg := List.mem_filter.mpr ⟨List.mem_of_getElem? (i := 874) (by decide +kernel), rfl⟩
set_option maxRecDepth 40000 in
theorem tw_875 : Cond.methodLink "KitePost$Post" 90 ⟨"KitePost$Text", "copyFrom", "(LKitePost$Text;)V"⟩ ∈ lwg := List.mem_filter.mpr ⟨List.mem_of_getElem? (i := 875) (by decide +kernel), rfl⟩
set_option maxRecDepth 40000 in
theorem tw_876 : Cond.instanceMethod ⟨"KitePost$Text", "copyFrom", "(LKitePost$Text;)V"⟩ ∈ lwg := List.mem_filter.mpr ⟨List.mem_of_getElem? (i := 876) (by decide +kernel), rfl⟩
set_option maxRecDepth 40000 in
theorem tw_877 : Cond.selects "KitePost$Text" ⟨"KitePost$Text", "copyFrom", "(LKitePost$Text;)V"⟩ ⟨"KitePost$Text", "copyFrom", "(LKitePost$Text;)V"⟩ ∈ lwg := List.mem_filter.mpr ⟨List.mem_of_getElem? (i := 877) (by decide +kernel), rfl⟩
set_option maxRecDepth 40000 in
theorem tw_878 : Cond.code ⟨"KitePost$Text", "copyFrom", "(LKitePost$Text;)V"⟩ prog_12_method_2_code 2 none ∈ lwg := List.mem_filter.mpr ⟨List.mem_of_getElem? (i := 878) rfl, rfl⟩
set_option maxRecDepth 40000 in
theorem tw_879 : Cond.methodLink "KitePostLaw" 101 ⟨"KitePost", "where", "(III)I"⟩ ∈ lwg := List.mem_filter.mpr ⟨List.mem_of_getElem? (i := 879) (by decide +kernel), rfl⟩
set_option maxRecDepth 40000 in
theorem tw_880 : Cond.instanceMethod ⟨"KitePost", "where", "(III)I"⟩ ∈ lwg := List.mem_filter.mpr ⟨List.mem_of_getElem? (i := 880) (by decide +kernel), rfl⟩
set_option maxRecDepth 40000 in
theorem tw_881 : Cond.selects "KitePost" ⟨"KitePost", "where", "(III)I"⟩ ⟨"KitePost", "where", "(III)I"⟩ ∈ lwg := List.mem_filter.mpr ⟨List.mem_of_getElem? (i := 881) (by decide +kernel), rfl⟩
set_option maxRecDepth 40000 in
theorem tw_882 : Cond.code ⟨"KitePost", "where", "(III)I"⟩ prog_1_method_22_code 4 (some .int) ∈ lwg := List.mem_filter.mpr ⟨List.mem_of_getElem? (i := 882) rfl, rfl⟩
set_option maxRecDepth 40000 in
theorem tw_883 : Cond.methodLink "KitePostLaw" 105 ⟨"KitePost", "soonest", "(III)I"⟩ ∈ lwg := List.mem_filter.mpr ⟨List.mem_of_getElem? (i := 883) (by decide +kernel), rfl⟩
set_option maxRecDepth 40000 in
theorem tw_884 : Cond.instanceMethod ⟨"KitePost", "soonest", "(III)I"⟩ ∈ lwg := List.mem_filter.mpr ⟨List.mem_of_getElem? (i := 884) (by decide +kernel), rfl⟩
set_option maxRecDepth 40000 in
theorem tw_885 : Cond.selects "KitePost" ⟨"KitePost", "soonest", "(III)I"⟩ ⟨"KitePost", "soonest", "(III)I"⟩ ∈ lwg := List.mem_filter.mpr ⟨List.mem_of_getElem? (i := 885) (by decide +kernel), rfl⟩
set_option maxRecDepth 40000 in
theorem tw_886 : Cond.code ⟨"KitePost", "soonest", "(III)I"⟩ prog_1_method_23_code 5 (some .int) ∈ lwg := List.mem_filter.mpr ⟨List.mem_of_getElem? (i := 886) rfl, rfl⟩
set_option maxRecDepth 40000 in
theorem tw_887 : Cond.methodLink "KitePost" 208 ⟨"KitePost$Post", "fewestHours", "(IIII)I"⟩ ∈ lwg := List.mem_filter.mpr ⟨List.mem_of_getElem? (i := 887) (by decide +kernel), rfl⟩
set_option maxRecDepth 40000 in
theorem tw_888 : Cond.instanceMethod ⟨"KitePost$Post", "fewestHours", "(IIII)I"⟩ ∈ lwg := List.mem_filter.mpr ⟨List.mem_of_getElem? (i := 888) (by decide +kernel), rfl⟩
set_option maxRecDepth 40000 in
theorem tw_889 : Cond.selects "KitePost$Post" ⟨"KitePost$Post", "fewestHours", "(IIII)I"⟩ ⟨"KitePost$Post", "fewestHours", "(IIII)I"⟩ ∈ lwg := List.mem_filter.mpr ⟨List.mem_of_getElem? (i := 889) (by decide +kernel), rfl⟩
set_option maxRecDepth 40000 in
theorem tw_890 : Cond.code ⟨"KitePost$Post", "fewestHours", "(IIII)I"⟩ prog_7_method_43_code 9 (some .int) ∈ lwg := List.mem_filter.mpr ⟨List.mem_of_getElem? (i := 890) rfl, rfl⟩
set_option maxRecDepth 40000 in
theorem tw_891 : Cond.methodLink "KitePost$Post" 269 ⟨"KitePost$Post", "reachedBehind", "(III)I"⟩ ∈ lwg := List.mem_filter.mpr ⟨List.mem_of_getElem? (i := 891) (by decide +kernel), rfl⟩
set_option maxRecDepth 40000 in
theorem tw_893 : Cond.instanceMethod ⟨"KitePost$Post", "reachedBehind", "(III)I"⟩ ∈ lwg := List.mem_filter.mpr ⟨List.mem_of_getElem? (i := 893) (by decide +kernel), rfl⟩
set_option maxRecDepth 40000 in
theorem tw_894 : Cond.code ⟨"KitePost$Post", "reachedBehind", "(III)I"⟩ prog_7_method_44_code 8 (some .int) ∈ lwg := List.mem_filter.mpr ⟨List.mem_of_getElem? (i := 894) rfl, rfl⟩
set_option maxRecDepth 40000 in
theorem tw_895 : Cond.methodLink "KitePostLaw" 109 ⟨"KitePost", "sure", "(IIII)J"⟩ ∈ lwg := List.mem_filter.mpr ⟨List.mem_of_getElem? (i := 895) (by decide +kernel), rfl⟩
set_option maxRecDepth 40000 in
theorem tw_896 : Cond.instanceMethod ⟨"KitePost", "sure", "(IIII)J"⟩ ∈ lwg := List.mem_filter.mpr ⟨List.mem_of_getElem? (i := 896) (by decide +kernel), rfl⟩
set_option maxRecDepth 40000 in
theorem tw_897 : Cond.selects "KitePost" ⟨"KitePost", "sure", "(IIII)J"⟩ ⟨"KitePost", "sure", "(IIII)J"⟩ ∈ lwg := List.mem_filter.mpr ⟨List.mem_of_getElem? (i := 897) (by decide +kernel), rfl⟩
set_option maxRecDepth 40000 in
theorem tw_898 : Cond.code ⟨"KitePost", "sure", "(IIII)J"⟩ prog_1_method_24_code 8 (some .long) ∈ lwg := List.mem_filter.mpr ⟨List.mem_of_getElem? (i := 898) rfl, rfl⟩
set_option maxRecDepth 40000 in
theorem tw_899 : Cond.methodLink "KitePost" 211 ⟨"KitePost", "fillReach", "(II)V"⟩ ∈ lwg := List.mem_filter.mpr ⟨List.mem_of_getElem? (i := 899) (by decide +kernel), rfl⟩
set_option maxRecDepth 40000 in
theorem tw_901 : Cond.instanceMethod ⟨"KitePost", "fillReach", "(II)V"⟩ ∈ lwg := List.mem_filter.mpr ⟨List.mem_of_getElem? (i := 901) (by decide +kernel), rfl⟩
set_option maxRecDepth 40000 in
theorem tw_902 : Cond.code ⟨"KitePost", "fillReach", "(II)V"⟩ prog_1_method_46_code 6 none ∈ lwg := List.mem_filter.mpr ⟨List.mem_of_getElem? (i := 902) rfl, rfl⟩
set_option maxRecDepth 40000 in
theorem tw_903 : Cond.methodLink "KitePost" 214 ⟨"KitePost", "casesThere", "(IIIII)J"⟩ ∈ lwg := List.mem_filter.mpr ⟨List.mem_of_getElem? (i := 903) (by decide +kernel), rfl⟩
set_option maxRecDepth 40000 in
theorem tw_905 : Cond.instanceMethod ⟨"KitePost", "casesThere", "(IIIII)J"⟩ ∈ lwg := List.mem_filter.mpr ⟨List.mem_of_getElem? (i := 905) (by decide +kernel), rfl⟩
set_option maxRecDepth 40000 in
theorem tw_906 : Cond.code ⟨"KitePost", "casesThere", "(IIIII)J"⟩ prog_1_method_47_code 9 (some .long) ∈ lwg := List.mem_filter.mpr ⟨List.mem_of_getElem? (i := 906) rfl, rfl⟩
set_option maxRecDepth 40000 in
theorem tw_907 : Cond.methodLink "KitePost" 302 ⟨"KitePost", "tenTo", "(I)J"⟩ ∈ lwg := List.mem_filter.mpr ⟨List.mem_of_getElem? (i := 907) (by decide +kernel), rfl⟩
set_option maxRecDepth 40000 in
theorem tw_908 : Cond.static ⟨"KitePost", "tenTo", "(I)J"⟩ ∈ lwg := List.mem_filter.mpr ⟨List.mem_of_getElem? (i := 908) (by decide +kernel), rfl⟩
set_option maxRecDepth 40000 in
theorem tw_909 : Cond.code ⟨"KitePost", "tenTo", "(I)J"⟩ prog_1_method_49_code 4 (some .long) ∈ lwg := List.mem_filter.mpr ⟨List.mem_of_getElem? (i := 909) rfl, rfl⟩
set_option maxRecDepth 40000 in
theorem tw_910 : Cond.constantLong "KitePost" 309 10 ∈ lwg := List.mem_filter.mpr ⟨List.mem_of_getElem? (i := 910) (by decide +kernel), rfl⟩
set_option maxRecDepth 40000 in
theorem tw_911 : Cond.methodLink "KitePost" 306 ⟨"KitePost", "reachedBehind", "(II)I"⟩ ∈ lwg := List.mem_filter.mpr ⟨List.mem_of_getElem? (i := 911) (by decide +kernel), rfl⟩
set_option maxRecDepth 40000 in
theorem tw_913 : Cond.instanceMethod ⟨"KitePost", "reachedBehind", "(II)I"⟩ ∈ lwg := List.mem_filter.mpr ⟨List.mem_of_getElem? (i := 913) (by decide +kernel), rfl⟩
set_option maxRecDepth 40000 in
theorem tw_914 : Cond.code ⟨"KitePost", "reachedBehind", "(II)I"⟩ prog_1_method_48_code 6 (some .int) ∈ lwg := List.mem_filter.mpr ⟨List.mem_of_getElem? (i := 914) rfl, rfl⟩
set_option maxRecDepth 40000 in
theorem tw_915 : Cond.methodLink "KitePost" 218 ⟨"KitePost", "inLowestTerms", "(JII)J"⟩ ∈ lwg := List.mem_filter.mpr ⟨List.mem_of_getElem? (i := 915) (by decide +kernel), rfl⟩
set_option maxRecDepth 40000 in
theorem tw_916 : Cond.static ⟨"KitePost", "inLowestTerms", "(JII)J"⟩ ∈ lwg := List.mem_filter.mpr ⟨List.mem_of_getElem? (i := 916) (by decide +kernel), rfl⟩
set_option maxRecDepth 40000 in
theorem tw_917 : Cond.code ⟨"KitePost", "inLowestTerms", "(JII)J"⟩ prog_1_method_50_code 9 (some .long) ∈ lwg := List.mem_filter.mpr ⟨List.mem_of_getElem? (i := 917) rfl, rfl⟩
set_option maxRecDepth 40000 in
theorem tw_918 : Cond.constantLong "KitePost" 311 2 ∈ lwg := List.mem_filter.mpr ⟨List.mem_of_getElem? (i := 918) (by decide +kernel), rfl⟩
set_option maxRecDepth 40000 in
theorem tw_919 : Cond.constantLong "KitePost" 313 5 ∈ lwg := List.mem_filter.mpr ⟨List.mem_of_getElem? (i := 919) (by decide +kernel), rfl⟩
set_option maxRecDepth 40000 in
theorem tw_920 : Cond.methodLink "KitePostLaw" 114 ⟨"KitePost", "best", "(II)I"⟩ ∈ lwg := List.mem_filter.mpr ⟨List.mem_of_getElem? (i := 920) (by decide +kernel), rfl⟩
set_option maxRecDepth 40000 in
theorem tw_921 : Cond.instanceMethod ⟨"KitePost", "best", "(II)I"⟩ ∈ lwg := List.mem_filter.mpr ⟨List.mem_of_getElem? (i := 921) (by decide +kernel), rfl⟩
set_option maxRecDepth 40000 in
theorem tw_922 : Cond.selects "KitePost" ⟨"KitePost", "best", "(II)I"⟩ ⟨"KitePost", "best", "(II)I"⟩ ∈ lwg := List.mem_filter.mpr ⟨List.mem_of_getElem? (i := 922) (by decide +kernel), rfl⟩
set_option maxRecDepth 40000 in
theorem tw_923 : Cond.code ⟨"KitePost", "best", "(II)I"⟩ prog_1_method_25_code 7 (some .int) ∈ lwg := List.mem_filter.mpr ⟨List.mem_of_getElem? (i := 923) rfl, rfl⟩
set_option maxRecDepth 40000 in
theorem tw_924 : Cond.methodLink "KitePostLaw" 118 ⟨"KitePost", "fresh", "(IIII)I"⟩ ∈ lwg := List.mem_filter.mpr ⟨List.mem_of_getElem? (i := 924) (by decide +kernel), rfl⟩
set_option maxRecDepth 40000 in
theorem tw_925 : Cond.instanceMethod ⟨"KitePost", "fresh", "(IIII)I"⟩ ∈ lwg := List.mem_filter.mpr ⟨List.mem_of_getElem? (i := 925) (by decide +kernel), rfl⟩
set_option maxRecDepth 40000 in
theorem tw_926 : Cond.selects "KitePost" ⟨"KitePost", "fresh", "(IIII)I"⟩ ⟨"KitePost", "fresh", "(IIII)I"⟩ ∈ lwg := List.mem_filter.mpr ⟨List.mem_of_getElem? (i := 926) (by decide +kernel), rfl⟩
set_option maxRecDepth 40000 in
theorem tw_927 : Cond.code ⟨"KitePost", "fresh", "(IIII)I"⟩ prog_1_method_26_code 11 (some .int) ∈ lwg := List.mem_filter.mpr ⟨List.mem_of_getElem? (i := 927) rfl, rfl⟩
set_option maxRecDepth 40000 in
theorem tw_928 : Cond.methodLink "KitePost" 222 ⟨"KitePost$Post", "changePlace", "(II)V"⟩ ∈ lwg := List.mem_filter.mpr ⟨List.mem_of_getElem? (i := 928) (by decide +kernel), rfl⟩
set_option maxRecDepth 40000 in
theorem tw_929 : Cond.methodLink "KitePostLaw" 122 ⟨"KitePost", "order", "(II)I"⟩ ∈ lwg := List.mem_filter.mpr ⟨List.mem_of_getElem? (i := 929) (by decide +kernel), rfl⟩
set_option maxRecDepth 40000 in
theorem tw_930 : Cond.instanceMethod ⟨"KitePost", "order", "(II)I"⟩ ∈ lwg := List.mem_filter.mpr ⟨List.mem_of_getElem? (i := 930) (by decide +kernel), rfl⟩
set_option maxRecDepth 40000 in
theorem tw_931 : Cond.selects "KitePost" ⟨"KitePost", "order", "(II)I"⟩ ⟨"KitePost", "order", "(II)I"⟩ ∈ lwg := List.mem_filter.mpr ⟨List.mem_of_getElem? (i := 931) (by decide +kernel), rfl⟩
set_option maxRecDepth 40000 in
theorem tw_932 : Cond.code ⟨"KitePost", "order", "(II)I"⟩ prog_1_method_27_code 3 (some .int) ∈ lwg := List.mem_filter.mpr ⟨List.mem_of_getElem? (i := 932) rfl, rfl⟩
set_option maxRecDepth 40000 in
theorem tw_933 : Cond.methodLink "KitePost" 225 ⟨"KitePost$Row", "get", "(I)I"⟩ ∈ lwg := List.mem_filter.mpr ⟨List.mem_of_getElem? (i := 933) (by decide +kernel), rfl⟩
set_option maxRecDepth 40000 in
theorem tw_934 : Cond.methodLink "KitePost" 228 ⟨"KitePost$Post", "mendedAt", "(I)I"⟩ ∈ lwg := List.mem_filter.mpr ⟨List.mem_of_getElem? (i := 934) (by decide +kernel), rfl⟩
set_option maxRecDepth 40000 in
theorem tw_935 : Cond.instanceMethod ⟨"KitePost$Post", "mendedAt", "(I)I"⟩ ∈ lwg := List.mem_filter.mpr ⟨List.mem_of_getElem? (i := 935) (by decide +kernel), rfl⟩
set_option maxRecDepth 40000 in
theorem tw_936 : Cond.selects "KitePost$Post" ⟨"KitePost$Post", "mendedAt", "(I)I"⟩ ⟨"KitePost$Post", "mendedAt", "(I)I"⟩ ∈ lwg := List.mem_filter.mpr ⟨List.mem_of_getElem? (i := 936) (by decide +kernel), rfl⟩
set_option maxRecDepth 40000 in
theorem tw_937 : Cond.code ⟨"KitePost$Post", "mendedAt", "(I)I"⟩ prog_7_method_46_code 5 (some .int) ∈ lwg := List.mem_filter.mpr ⟨List.mem_of_getElem? (i := 937) rfl, rfl⟩
set_option maxRecDepth 40000 in
theorem tw_938 : Cond.methodLink "KitePost$Post" 275 ⟨"KitePost$Post", "firstThatCanBe", "(I)I"⟩ ∈ lwg := List.mem_filter.mpr ⟨List.mem_of_getElem? (i := 938) (by decide +kernel), rfl⟩
set_option maxRecDepth 40000 in
theorem tw_940 : Cond.instanceMethod ⟨"KitePost$Post", "firstThatCanBe", "(I)I"⟩ ∈ lwg := List.mem_filter.mpr ⟨List.mem_of_getElem? (i := 940) (by decide +kernel), rfl⟩
set_option maxRecDepth 40000 in
theorem tw_941 : Cond.code ⟨"KitePost$Post", "firstThatCanBe", "(I)I"⟩ prog_7_method_47_code 6 (some .int) ∈ lwg := List.mem_filter.mpr ⟨List.mem_of_getElem? (i := 941) rfl, rfl⟩
set_option maxRecDepth 40000 in
theorem tw_942 : Cond.methodLink "KitePost$Post" 272 ⟨"KitePost$Row", "get", "(I)I"⟩ ∈ lwg := List.mem_filter.mpr ⟨List.mem_of_getElem? (i := 942) (by decide +kernel), rfl⟩
set_option maxRecDepth 40000 in
theorem tw_943 : Cond.methodLink "KitePostLaw" 126 ⟨"KitePost", "before", "()I"⟩ ∈ lwg := List.mem_filter.mpr ⟨List.mem_of_getElem? (i := 943) (by decide +kernel), rfl⟩
set_option maxRecDepth 40000 in
theorem tw_944 : Cond.instanceMethod ⟨"KitePost", "before", "()I"⟩ ∈ lwg := List.mem_filter.mpr ⟨List.mem_of_getElem? (i := 944) (by decide +kernel), rfl⟩
set_option maxRecDepth 40000 in
theorem tw_945 : Cond.selects "KitePost" ⟨"KitePost", "before", "()I"⟩ ⟨"KitePost", "before", "()I"⟩ ∈ lwg := List.mem_filter.mpr ⟨List.mem_of_getElem? (i := 945) (by decide +kernel), rfl⟩
set_option maxRecDepth 40000 in
theorem tw_946 : Cond.code ⟨"KitePost", "before", "()I"⟩ prog_1_method_28_code 2 (some .int) ∈ lwg := List.mem_filter.mpr ⟨List.mem_of_getElem? (i := 946) rfl, rfl⟩
set_option maxRecDepth 40000 in
theorem tw_947 : Cond.methodLink "KitePost" 231 ⟨"KitePost$Post", "firstBeforeQuestion", "()I"⟩ ∈ lwg := List.mem_filter.mpr ⟨List.mem_of_getElem? (i := 947) (by decide +kernel), rfl⟩
set_option maxRecDepth 40000 in
theorem tw_948 : Cond.instanceMethod ⟨"KitePost$Post", "firstBeforeQuestion", "()I"⟩ ∈ lwg := List.mem_filter.mpr ⟨List.mem_of_getElem? (i := 948) (by decide +kernel), rfl⟩
set_option maxRecDepth 40000 in
theorem tw_949 : Cond.selects "KitePost$Post" ⟨"KitePost$Post", "firstBeforeQuestion", "()I"⟩ ⟨"KitePost$Post", "firstBeforeQuestion", "()I"⟩ ∈ lwg := List.mem_filter.mpr ⟨List.mem_of_getElem? (i := 949) (by decide +kernel), rfl⟩
set_option maxRecDepth 40000 in
theorem tw_950 : Cond.code ⟨"KitePost$Post", "firstBeforeQuestion", "()I"⟩ prog_7_method_45_code 5 (some .int) ∈ lwg := List.mem_filter.mpr ⟨List.mem_of_getElem? (i := 950) rfl, rfl⟩
set_option maxRecDepth 40000 in
theorem tw_951 : Cond.methodLink "KitePostLaw" 131 ⟨"KitePost", "seed", "(I)I"⟩ ∈ lwg := List.mem_filter.mpr ⟨List.mem_of_getElem? (i := 951) (by decide +kernel), rfl⟩
set_option maxRecDepth 40000 in
theorem tw_952 : Cond.instanceMethod ⟨"KitePost", "seed", "(I)I"⟩ ∈ lwg := List.mem_filter.mpr ⟨List.mem_of_getElem? (i := 952) (by decide +kernel), rfl⟩
set_option maxRecDepth 40000 in
theorem tw_953 : Cond.selects "KitePost" ⟨"KitePost", "seed", "(I)I"⟩ ⟨"KitePost", "seed", "(I)I"⟩ ∈ lwg := List.mem_filter.mpr ⟨List.mem_of_getElem? (i := 953) (by decide +kernel), rfl⟩
set_option maxRecDepth 40000 in
theorem tw_954 : Cond.code ⟨"KitePost", "seed", "(I)I"⟩ prog_1_method_29_code 3 (some .int) ∈ lwg := List.mem_filter.mpr ⟨List.mem_of_getElem? (i := 954) rfl, rfl⟩
set_option maxRecDepth 40000 in
theorem tw_955 : Cond.methodLink "KitePostLaw" 135 ⟨"KitePost", "voice", "(III)I"⟩ ∈ lwg := List.mem_filter.mpr ⟨List.mem_of_getElem? (i := 955) (by decide +kernel), rfl⟩
set_option maxRecDepth 40000 in
theorem tw_956 : Cond.instanceMethod ⟨"KitePost", "voice", "(III)I"⟩ ∈ lwg := List.mem_filter.mpr ⟨List.mem_of_getElem? (i := 956) (by decide +kernel), rfl⟩
set_option maxRecDepth 40000 in
theorem tw_957 : Cond.selects "KitePost" ⟨"KitePost", "voice", "(III)I"⟩ ⟨"KitePost", "voice", "(III)I"⟩ ∈ lwg := List.mem_filter.mpr ⟨List.mem_of_getElem? (i := 957) (by decide +kernel), rfl⟩
set_option maxRecDepth 40000 in
theorem tw_958 : Cond.code ⟨"KitePost", "voice", "(III)I"⟩ prog_1_method_30_code 5 (some .int) ∈ lwg := List.mem_filter.mpr ⟨List.mem_of_getElem? (i := 958) rfl, rfl⟩
set_option maxRecDepth 40000 in
theorem tw_959 : Cond.methodLink "KitePost" 237 ⟨"KitePost$Kite", "lifts", "(ILKitePost$Row;)I"⟩ ∈ lwg := List.mem_filter.mpr ⟨List.mem_of_getElem? (i := 959) (by decide +kernel), rfl⟩
set_option maxRecDepth 40000 in
theorem tw_960 : Cond.instanceMethod ⟨"KitePost$Kite", "lifts", "(ILKitePost$Row;)I"⟩ ∈ lwg := List.mem_filter.mpr ⟨List.mem_of_getElem? (i := 960) (by decide +kernel), rfl⟩
set_option maxRecDepth 40000 in
theorem tw_961 : Cond.selects "KitePost$Kite" ⟨"KitePost$Kite", "lifts", "(ILKitePost$Row;)I"⟩ ⟨"KitePost$Kite", "lifts", "(ILKitePost$Row;)I"⟩ ∈ lwg := List.mem_filter.mpr ⟨List.mem_of_getElem? (i := 961) (by decide +kernel), rfl⟩
set_option maxRecDepth 40000 in
theorem tw_962 : Cond.sameMethod "KitePost$Kite" "KitePost$Kite" "lifts" "(ILKitePost$Row;)I" ∈ lwg := List.mem_filter.mpr ⟨List.mem_of_getElem? (i := 962) (by decide +kernel), rfl⟩
set_option maxRecDepth 40000 in
theorem tw_963 : Cond.selects "KitePost$Boxed" ⟨"KitePost$Kite", "lifts", "(ILKitePost$Row;)I"⟩ ⟨"KitePost$Kite", "lifts", "(ILKitePost$Row;)I"⟩ ∈ lwg := List.mem_filter.mpr ⟨List.mem_of_getElem? (i := 963) (by decide +kernel), rfl⟩
set_option maxRecDepth 40000 in
theorem tw_964 : Cond.selects "KitePost$Doubled" ⟨"KitePost$Kite", "lifts", "(ILKitePost$Row;)I"⟩ ⟨"KitePost$Kite", "lifts", "(ILKitePost$Row;)I"⟩ ∈ lwg := List.mem_filter.mpr ⟨List.mem_of_getElem? (i := 964) (by decide +kernel), rfl⟩
set_option maxRecDepth 40000 in
theorem tw_965 : Cond.selects "KitePost$LongTailed" ⟨"KitePost$Kite", "lifts", "(ILKitePost$Row;)I"⟩ ⟨"KitePost$Tailed", "lifts", "(ILKitePost$Row;)I"⟩ ∈ lwg := List.mem_filter.mpr ⟨List.mem_of_getElem? (i := 965) (by decide +kernel), rfl⟩
set_option maxRecDepth 40000 in
theorem tw_966 : Cond.instanceMethod ⟨"KitePost$Tailed", "lifts", "(ILKitePost$Row;)I"⟩ ∈ lwg := List.mem_filter.mpr ⟨List.mem_of_getElem? (i := 966) (by decide +kernel), rfl⟩
set_option maxRecDepth 40000 in
theorem tw_967 : Cond.code ⟨"KitePost$Tailed", "lifts", "(ILKitePost$Row;)I"⟩ prog_11_method_3_code 3 (some .int) ∈ lwg := List.mem_filter.mpr ⟨List.mem_of_getElem? (i := 967) rfl, rfl⟩
set_option maxRecDepth 40000 in
theorem tw_968 : Cond.methodLink "KitePost$Tailed" 7 ⟨"KitePost$Row", "add", "(I)Z"⟩ ∈ lwg := List.mem_filter.mpr ⟨List.mem_of_getElem? (i := 968) (by decide +kernel), rfl⟩
set_option maxRecDepth 40000 in
theorem tw_969 : Cond.methodLink "KitePost$Tailed" 13 ⟨"KitePost$Kite", "lifts", "(ILKitePost$Row;)I"⟩ ∈ lwg := List.mem_filter.mpr ⟨List.mem_of_getElem? (i := 969) (by decide +kernel), rfl⟩
set_option maxRecDepth 40000 in
theorem tw_970 : Cond.selects "KitePost$Old" ⟨"KitePost$Kite", "lifts", "(ILKitePost$Row;)I"⟩ ⟨"KitePost$Kite", "lifts", "(ILKitePost$Row;)I"⟩ ∈ lwg := List.mem_filter.mpr ⟨List.mem_of_getElem? (i := 970) (by decide +kernel), rfl⟩
set_option maxRecDepth 40000 in
theorem tw_971 : Cond.selects "KitePost$Silk" ⟨"KitePost$Kite", "lifts", "(ILKitePost$Row;)I"⟩ ⟨"KitePost$Kite", "lifts", "(ILKitePost$Row;)I"⟩ ∈ lwg := List.mem_filter.mpr ⟨List.mem_of_getElem? (i := 971) (by decide +kernel), rfl⟩
set_option maxRecDepth 40000 in
theorem tw_972 : Cond.selects "KitePost$Tailed" ⟨"KitePost$Kite", "lifts", "(ILKitePost$Row;)I"⟩ ⟨"KitePost$Tailed", "lifts", "(ILKitePost$Row;)I"⟩ ∈ lwg := List.mem_filter.mpr ⟨List.mem_of_getElem? (i := 972) (by decide +kernel), rfl⟩
set_option maxRecDepth 40000 in
theorem tw_973 : Cond.code ⟨"KitePost$Kite", "lifts", "(ILKitePost$Row;)I"⟩ prog_4_method_3_code 3 (some .int) ∈ lwg := List.mem_filter.mpr ⟨List.mem_of_getElem? (i := 973) rfl, rfl⟩
set_option maxRecDepth 40000 in
theorem tw_974 : Cond.methodLink "KitePost$Kite" 28 ⟨"KitePost$Row", "add", "(I)Z"⟩ ∈ lwg := List.mem_filter.mpr ⟨List.mem_of_getElem? (i := 974) (by decide +kernel), rfl⟩
set_option maxRecDepth 40000 in
theorem tw_975 : Cond.methodLink "KitePost" 241 ⟨"KitePost$Kite", "sways", "(ILKitePost$Row;)I"⟩ ∈ lwg := List.mem_filter.mpr ⟨List.mem_of_getElem? (i := 975) (by decide +kernel), rfl⟩
set_option maxRecDepth 40000 in
theorem tw_976 : Cond.instanceMethod ⟨"KitePost$Kite", "sways", "(ILKitePost$Row;)I"⟩ ∈ lwg := List.mem_filter.mpr ⟨List.mem_of_getElem? (i := 976) (by decide +kernel), rfl⟩
set_option maxRecDepth 40000 in
theorem tw_977 : Cond.selects "KitePost$Kite" ⟨"KitePost$Kite", "sways", "(ILKitePost$Row;)I"⟩ ⟨"KitePost$Kite", "sways", "(ILKitePost$Row;)I"⟩ ∈ lwg := List.mem_filter.mpr ⟨List.mem_of_getElem? (i := 977) (by decide +kernel), rfl⟩
set_option maxRecDepth 40000 in
theorem tw_978 : Cond.sameMethod "KitePost$Kite" "KitePost$Kite" "sways" "(ILKitePost$Row;)I" ∈ lwg := List.mem_filter.mpr ⟨List.mem_of_getElem? (i := 978) (by decide +kernel), rfl⟩
set_option maxRecDepth 40000 in
theorem tw_979 : Cond.selects "KitePost$Boxed" ⟨"KitePost$Kite", "sways", "(ILKitePost$Row;)I"⟩ ⟨"KitePost$Boxed", "sways", "(ILKitePost$Row;)I"⟩ ∈ lwg := List.mem_filter.mpr ⟨List.mem_of_getElem? (i := 979) (by decide +kernel), rfl⟩
set_option maxRecDepth 40000 in
theorem tw_980 : Cond.instanceMethod ⟨"KitePost$Boxed", "sways", "(ILKitePost$Row;)I"⟩ ∈ lwg := List.mem_filter.mpr ⟨List.mem_of_getElem? (i := 980) (by decide +kernel), rfl⟩
set_option maxRecDepth 40000 in
theorem tw_981 : Cond.code ⟨"KitePost$Boxed", "sways", "(ILKitePost$Row;)I"⟩ prog_2_method_3_code 3 (some .int) ∈ lwg := List.mem_filter.mpr ⟨List.mem_of_getElem? (i := 981) rfl, rfl⟩
set_option maxRecDepth 40000 in
theorem tw_982 : Cond.methodLink "KitePost$Boxed" 7 ⟨"KitePost$Row", "add", "(I)Z"⟩ ∈ lwg := List.mem_filter.mpr ⟨List.mem_of_getElem? (i := 982) (by decide +kernel), rfl⟩
set_option maxRecDepth 40000 in
theorem tw_983 : Cond.methodLink "KitePost$Boxed" 13 ⟨"KitePost$Kite", "sways", "(ILKitePost$Row;)I"⟩ ∈ lwg := List.mem_filter.mpr ⟨List.mem_of_getElem? (i := 983) (by decide +kernel), rfl⟩
set_option maxRecDepth 40000 in
theorem tw_984 : Cond.methodLink "KitePost$Boxed" 17 ⟨"KitePost$Boxed", "sinks", "(ILKitePost$Row;)I"⟩ ∈ lwg := List.mem_filter.mpr ⟨List.mem_of_getElem? (i := 984) (by decide +kernel), rfl⟩
set_option maxRecDepth 40000 in
theorem tw_985 : Cond.sameMethod "KitePost$Boxed" "KitePost$Kite" "sinks" "(ILKitePost$Row;)I" ∈ lwg := List.mem_filter.mpr ⟨List.mem_of_getElem? (i := 985) (by decide +kernel), rfl⟩
set_option maxRecDepth 40000 in
theorem tw_987 : Cond.selects "KitePost$Boxed" ⟨"KitePost$Boxed", "sinks", "(ILKitePost$Row;)I"⟩ ⟨"KitePost$Kite", "sinks", "(ILKitePost$Row;)I"⟩ ∈ lwg := List.mem_filter.mpr ⟨List.mem_of_getElem? (i := 987) (by decide +kernel), rfl⟩
set_option maxRecDepth 40000 in
theorem tw_988 : Cond.selects "KitePost$Doubled" ⟨"KitePost$Boxed", "sinks", "(ILKitePost$Row;)I"⟩ ⟨"KitePost$Kite", "sinks", "(ILKitePost$Row;)I"⟩ ∈ lwg := List.mem_filter.mpr ⟨List.mem_of_getElem? (i := 988) (by decide +kernel), rfl⟩
set_option maxRecDepth 40000 in
theorem tw_989 : Cond.instanceMethod ⟨"KitePost$Kite", "sinks", "(ILKitePost$Row;)I"⟩ ∈ lwg := List.mem_filter.mpr ⟨List.mem_of_getElem? (i := 989) (by decide +kernel), rfl⟩
set_option maxRecDepth 40000 in
theorem tw_990 : Cond.code ⟨"KitePost$Kite", "sinks", "(ILKitePost$Row;)I"⟩ prog_4_method_5_code 3 (some .int) ∈ lwg := List.mem_filter.mpr ⟨List.mem_of_getElem? (i := 990) rfl, rfl⟩
set_option maxRecDepth 40000 in
theorem tw_991 : Cond.selects "KitePost$Doubled" ⟨"KitePost$Kite", "sways", "(ILKitePost$Row;)I"⟩ ⟨"KitePost$Doubled", "sways", "(ILKitePost$Row;)I"⟩ ∈ lwg := List.mem_filter.mpr ⟨List.mem_of_getElem? (i := 991) (by decide +kernel), rfl⟩
set_option maxRecDepth 40000 in
theorem tw_992 : Cond.instanceMethod ⟨"KitePost$Doubled", "sways", "(ILKitePost$Row;)I"⟩ ∈ lwg := List.mem_filter.mpr ⟨List.mem_of_getElem? (i := 992) (by decide +kernel), rfl⟩
set_option maxRecDepth 40000 in
theorem tw_993 : Cond.code ⟨"KitePost$Doubled", "sways", "(ILKitePost$Row;)I"⟩ prog_3_method_3_code 3 (some .int) ∈ lwg := List.mem_filter.mpr ⟨List.mem_of_getElem? (i := 993) rfl, rfl⟩
set_option maxRecDepth 40000 in
theorem tw_994 : Cond.methodLink "KitePost$Doubled" 11 ⟨"KitePost$Row", "add", "(I)Z"⟩ ∈ lwg := List.mem_filter.mpr ⟨List.mem_of_getElem? (i := 994) (by decide +kernel), rfl⟩
set_option maxRecDepth 40000 in
theorem tw_995 : Cond.methodLink "KitePost$Doubled" 17 ⟨"KitePost$Boxed", "sways", "(ILKitePost$Row;)I"⟩ ∈ lwg := List.mem_filter.mpr ⟨List.mem_of_getElem? (i := 995) (by decide +kernel), rfl⟩
set_option maxRecDepth 40000 in
theorem tw_996 : Cond.selects "KitePost$LongTailed" ⟨"KitePost$Kite", "sways", "(ILKitePost$Row;)I"⟩ ⟨"KitePost$Kite", "sways", "(ILKitePost$Row;)I"⟩ ∈ lwg := List.mem_filter.mpr ⟨List.mem_of_getElem? (i := 996) (by decide +kernel), rfl⟩
set_option maxRecDepth 40000 in
theorem tw_997 : Cond.selects "KitePost$Old" ⟨"KitePost$Kite", "sways", "(ILKitePost$Row;)I"⟩ ⟨"KitePost$Kite", "sways", "(ILKitePost$Row;)I"⟩ ∈ lwg := List.mem_filter.mpr ⟨List.mem_of_getElem? (i := 997) (by decide +kernel), rfl⟩
set_option maxRecDepth 40000 in
theorem tw_998 : Cond.selects "KitePost$Silk" ⟨"KitePost$Kite", "sways", "(ILKitePost$Row;)I"⟩ ⟨"KitePost$Kite", "sways", "(ILKitePost$Row;)I"⟩ ∈ lwg := List.mem_filter.mpr ⟨List.mem_of_getElem? (i := 998) (by decide +kernel), rfl⟩
set_option maxRecDepth 40000 in
theorem tw_999 : Cond.selects "KitePost$Tailed" ⟨"KitePost$Kite", "sways", "(ILKitePost$Row;)I"⟩ ⟨"KitePost$Kite", "sways", "(ILKitePost$Row;)I"⟩ ∈ lwg := List.mem_filter.mpr ⟨List.mem_of_getElem? (i := 999) (by decide +kernel), rfl⟩
set_option maxRecDepth 40000 in
theorem tw_1000 : Cond.code ⟨"KitePost$Kite", "sways", "(ILKitePost$Row;)I"⟩ prog_4_method_4_code 3 (some .int) ∈ lwg := List.mem_filter.mpr ⟨List.mem_of_getElem? (i := 1000) rfl, rfl⟩
set_option maxRecDepth 40000 in
theorem tw_1001 : Cond.methodLink "KitePost$Kite" 34 ⟨"KitePost$Kite", "lifts", "(ILKitePost$Row;)I"⟩ ∈ lwg := List.mem_filter.mpr ⟨List.mem_of_getElem? (i := 1001) (by decide +kernel), rfl⟩
set_option maxRecDepth 40000 in
theorem tw_1002 : Cond.methodLink "KitePost" 244 ⟨"KitePost$Kite", "sinks", "(ILKitePost$Row;)I"⟩ ∈ lwg := List.mem_filter.mpr ⟨List.mem_of_getElem? (i := 1002) (by decide +kernel), rfl⟩
set_option maxRecDepth 40000 in
theorem tw_1003 : Cond.instanceMethod ⟨"KitePost$Old", "sinks", "(ILKitePost$Row;)I"⟩ ∈ lwg := List.mem_filter.mpr ⟨List.mem_of_getElem? (i := 1003) (by decide +kernel), rfl⟩
set_option maxRecDepth 40000 in
theorem tw_1004 : Cond.code ⟨"KitePost$Old", "sinks", "(ILKitePost$Row;)I"⟩ prog_6_method_3_code 3 (some .int) ∈ lwg := List.mem_filter.mpr ⟨List.mem_of_getElem? (i := 1004) rfl, rfl⟩
set_option maxRecDepth 40000 in
theorem tw_1005 : Cond.methodLink "KitePost$Old" 11 ⟨"KitePost$Row", "add", "(I)Z"⟩ ∈ lwg := List.mem_filter.mpr ⟨List.mem_of_getElem? (i := 1005) (by decide +kernel), rfl⟩
set_option maxRecDepth 40000 in
theorem tw_1006 : Cond.methodLink "KitePost$Old" 17 ⟨"KitePost$Silk", "sinks", "(ILKitePost$Row;)I"⟩ ∈ lwg := List.mem_filter.mpr ⟨List.mem_of_getElem? (i := 1006) (by decide +kernel), rfl⟩
set_option maxRecDepth 40000 in
theorem tw_1007 : Cond.instanceMethod ⟨"KitePost$Silk", "sinks", "(ILKitePost$Row;)I"⟩ ∈ lwg := List.mem_filter.mpr ⟨List.mem_of_getElem? (i := 1007) (by decide +kernel), rfl⟩
set_option maxRecDepth 40000 in
theorem tw_1008 : Cond.code ⟨"KitePost$Silk", "sinks", "(ILKitePost$Row;)I"⟩ prog_10_method_3_code 3 (some .int) ∈ lwg := List.mem_filter.mpr ⟨List.mem_of_getElem? (i := 1008) rfl, rfl⟩
set_option maxRecDepth 40000 in
theorem tw_1009 : Cond.methodLink "KitePost$Silk" 13 ⟨"KitePost$Row", "add", "(I)Z"⟩ ∈ lwg := List.mem_filter.mpr ⟨List.mem_of_getElem? (i := 1009) (by decide +kernel), rfl⟩
set_option maxRecDepth 40000 in
theorem tw_1010 : Cond.methodLink "KitePost$Silk" 19 ⟨"KitePost$Kite", "sinks", "(ILKitePost$Row;)I"⟩ ∈ lwg := List.mem_filter.mpr ⟨List.mem_of_getElem? (i := 1010) (by decide +kernel), rfl⟩
set_option maxRecDepth 40000 in
theorem tw_1011 : Cond.methodLink "KitePost" 247 ⟨"KitePost$Kite", "tells", "(ILKitePost$Row;)I"⟩ ∈ lwg := List.mem_filter.mpr ⟨List.mem_of_getElem? (i := 1011) (by decide +kernel), rfl⟩
set_option maxRecDepth 40000 in
theorem tw_1012 : Cond.instanceMethod ⟨"KitePost$Kite", "tells", "(ILKitePost$Row;)I"⟩ ∈ lwg := List.mem_filter.mpr ⟨List.mem_of_getElem? (i := 1012) (by decide +kernel), rfl⟩
set_option maxRecDepth 40000 in
theorem tw_1013 : Cond.selects "KitePost$Kite" ⟨"KitePost$Kite", "tells", "(ILKitePost$Row;)I"⟩ ⟨"KitePost$Kite", "tells", "(ILKitePost$Row;)I"⟩ ∈ lwg := List.mem_filter.mpr ⟨List.mem_of_getElem? (i := 1013) (by decide +kernel), rfl⟩
set_option maxRecDepth 40000 in
theorem tw_1014 : Cond.sameMethod "KitePost$Kite" "KitePost$Kite" "tells" "(ILKitePost$Row;)I" ∈ lwg := List.mem_filter.mpr ⟨List.mem_of_getElem? (i := 1014) (by decide +kernel), rfl⟩
set_option maxRecDepth 40000 in
theorem tw_1015 : Cond.selects "KitePost$Boxed" ⟨"KitePost$Kite", "tells", "(ILKitePost$Row;)I"⟩ ⟨"KitePost$Kite", "tells", "(ILKitePost$Row;)I"⟩ ∈ lwg := List.mem_filter.mpr ⟨List.mem_of_getElem? (i := 1015) (by decide +kernel), rfl⟩
set_option maxRecDepth 40000 in
theorem tw_1016 : Cond.selects "KitePost$Doubled" ⟨"KitePost$Kite", "tells", "(ILKitePost$Row;)I"⟩ ⟨"KitePost$Kite", "tells", "(ILKitePost$Row;)I"⟩ ∈ lwg := List.mem_filter.mpr ⟨List.mem_of_getElem? (i := 1016) (by decide +kernel), rfl⟩
set_option maxRecDepth 40000 in
theorem tw_1017 : Cond.selects "KitePost$LongTailed" ⟨"KitePost$Kite", "tells", "(ILKitePost$Row;)I"⟩ ⟨"KitePost$LongTailed", "tells", "(ILKitePost$Row;)I"⟩ ∈ lwg := List.mem_filter.mpr ⟨List.mem_of_getElem? (i := 1017) (by decide +kernel), rfl⟩
set_option maxRecDepth 40000 in
theorem tw_1018 : Cond.instanceMethod ⟨"KitePost$LongTailed", "tells", "(ILKitePost$Row;)I"⟩ ∈ lwg := List.mem_filter.mpr ⟨List.mem_of_getElem? (i := 1018) (by decide +kernel), rfl⟩
set_option maxRecDepth 40000 in
theorem tw_1019 : Cond.code ⟨"KitePost$LongTailed", "tells", "(ILKitePost$Row;)I"⟩ prog_5_method_3_code 3 (some .int) ∈ lwg := List.mem_filter.mpr ⟨List.mem_of_getElem? (i := 1019) rfl, rfl⟩
set_option maxRecDepth 40000 in
theorem tw_1020 : Cond.methodLink "KitePost$LongTailed" 17 ⟨"KitePost$Row", "add", "(I)Z"⟩ ∈ lwg := List.mem_filter.mpr ⟨List.mem_of_getElem? (i := 1020) (by decide +kernel), rfl⟩
set_option maxRecDepth 40000 in
theorem tw_1021 : Cond.methodLink "KitePost$LongTailed" 23 ⟨"KitePost$Tailed", "tells", "(ILKitePost$Row;)I"⟩ ∈ lwg := List.mem_filter.mpr ⟨List.mem_of_getElem? (i := 1021) (by decide +kernel), rfl⟩
set_option maxRecDepth 40000 in
theorem tw_1022 : Cond.sameMethod "KitePost$Tailed" "KitePost$Kite" "tells" "(ILKitePost$Row;)I" ∈ lwg := List.mem_filter.mpr ⟨List.mem_of_getElem? (i := 1022) (by decide +kernel), rfl⟩
set_option maxRecDepth 40000 in
theorem tw_1024 : Cond.methodLink "KitePost$LongTailed" 27 ⟨"KitePost$LongTailed", "lifts", "(ILKitePost$Row;)I"⟩ ∈ lwg := List.mem_filter.mpr ⟨List.mem_of_getElem? (i := 1024) (by decide +kernel), rfl⟩
set_option maxRecDepth 40000 in
theorem tw_1025 : Cond.sameMethod "KitePost$LongTailed" "KitePost$Tailed" "lifts" "(ILKitePost$Row;)I" ∈ lwg := List.mem_filter.mpr ⟨List.mem_of_getElem? (i := 1025) (by decide +kernel), rfl⟩
set_option maxRecDepth 40000 in
theorem tw_1027 : Cond.selects "KitePost$LongTailed" ⟨"KitePost$LongTailed", "lifts", "(ILKitePost$Row;)I"⟩ ⟨"KitePost$Tailed", "lifts", "(ILKitePost$Row;)I"⟩ ∈ lwg := List.mem_filter.mpr ⟨List.mem_of_getElem? (i := 1027) (by decide +kernel), rfl⟩
set_option maxRecDepth 40000 in
theorem tw_1028 : Cond.selects "KitePost$Old" ⟨"KitePost$Kite", "tells", "(ILKitePost$Row;)I"⟩ ⟨"KitePost$Old", "tells", "(ILKitePost$Row;)I"⟩ ∈ lwg := List.mem_filter.mpr ⟨List.mem_of_getElem? (i := 1028) (by decide +kernel), rfl⟩
set_option maxRecDepth 40000 in
theorem tw_1029 : Cond.instanceMethod ⟨"KitePost$Old", "tells", "(ILKitePost$Row;)I"⟩ ∈ lwg := List.mem_filter.mpr ⟨List.mem_of_getElem? (i := 1029) (by decide +kernel), rfl⟩
set_option maxRecDepth 40000 in
theorem tw_1030 : Cond.code ⟨"KitePost$Old", "tells", "(ILKitePost$Row;)I"⟩ prog_6_method_4_code 3 (some .int) ∈ lwg := List.mem_filter.mpr ⟨List.mem_of_getElem? (i := 1030) rfl, rfl⟩
set_option maxRecDepth 40000 in
theorem tw_1031 : Cond.methodLink "KitePost$Old" 27 ⟨"KitePost$Old", "sways", "(ILKitePost$Row;)I"⟩ ∈ lwg := List.mem_filter.mpr ⟨List.mem_of_getElem? (i := 1031) (by decide +kernel), rfl⟩
set_option maxRecDepth 40000 in
theorem tw_1032 : Cond.sameMethod "KitePost$Old" "KitePost$Kite" "sways" "(ILKitePost$Row;)I" ∈ lwg := List.mem_filter.mpr ⟨List.mem_of_getElem? (i := 1032) (by decide +kernel), rfl⟩
set_option maxRecDepth 40000 in
theorem tw_1034 : Cond.selects "KitePost$Old" ⟨"KitePost$Old", "sways", "(ILKitePost$Row;)I"⟩ ⟨"KitePost$Kite", "sways", "(ILKitePost$Row;)I"⟩ ∈ lwg := List.mem_filter.mpr ⟨List.mem_of_getElem? (i := 1034) (by decide +kernel), rfl⟩
set_option maxRecDepth 40000 in
theorem tw_1035 : Cond.methodLink "KitePost$Old" 30 ⟨"KitePost$Silk", "tells", "(ILKitePost$Row;)I"⟩ ∈ lwg := List.mem_filter.mpr ⟨List.mem_of_getElem? (i := 1035) (by decide +kernel), rfl⟩
set_option maxRecDepth 40000 in
theorem tw_1036 : Cond.sameMethod "KitePost$Silk" "KitePost$Kite" "tells" "(ILKitePost$Row;)I" ∈ lwg := List.mem_filter.mpr ⟨List.mem_of_getElem? (i := 1036) (by decide +kernel), rfl⟩
set_option maxRecDepth 40000 in
theorem tw_1037 : Cond.selects "KitePost$Silk" ⟨"KitePost$Kite", "tells", "(ILKitePost$Row;)I"⟩ ⟨"KitePost$Kite", "tells", "(ILKitePost$Row;)I"⟩ ∈ lwg := List.mem_filter.mpr ⟨List.mem_of_getElem? (i := 1037) (by decide +kernel), rfl⟩
set_option maxRecDepth 40000 in
theorem tw_1038 : Cond.selects "KitePost$Tailed" ⟨"KitePost$Kite", "tells", "(ILKitePost$Row;)I"⟩ ⟨"KitePost$Kite", "tells", "(ILKitePost$Row;)I"⟩ ∈ lwg := List.mem_filter.mpr ⟨List.mem_of_getElem? (i := 1038) (by decide +kernel), rfl⟩
set_option maxRecDepth 40000 in
theorem tw_1039 : Cond.code ⟨"KitePost$Kite", "tells", "(ILKitePost$Row;)I"⟩ prog_4_method_6_code 3 (some .int) ∈ lwg := List.mem_filter.mpr ⟨List.mem_of_getElem? (i := 1039) rfl, rfl⟩
set_option maxRecDepth 40000 in
theorem tw_1040 : Cond.methodLink "KitePost$Kite" 38 ⟨"KitePost$Kite", "sways", "(ILKitePost$Row;)I"⟩ ∈ lwg := List.mem_filter.mpr ⟨List.mem_of_getElem? (i := 1040) (by decide +kernel), rfl⟩
set_option maxRecDepth 40000 in
theorem tw_1041 : Cond.methodLink "KitePost$Kite" 41 ⟨"KitePost$Kite", "sinks", "(ILKitePost$Row;)I"⟩ ∈ lwg := List.mem_filter.mpr ⟨List.mem_of_getElem? (i := 1041) (by decide +kernel), rfl⟩
set_option maxRecDepth 40000 in
theorem tw_1042 : Cond.methodLink "KitePostLaw" 139 ⟨"KitePost", "trace", "(I)I"⟩ ∈ lwg := List.mem_filter.mpr ⟨List.mem_of_getElem? (i := 1042) (by decide +kernel), rfl⟩
set_option maxRecDepth 40000 in
theorem tw_1043 : Cond.instanceMethod ⟨"KitePost", "trace", "(I)I"⟩ ∈ lwg := List.mem_filter.mpr ⟨List.mem_of_getElem? (i := 1043) (by decide +kernel), rfl⟩
set_option maxRecDepth 40000 in
theorem tw_1044 : Cond.selects "KitePost" ⟨"KitePost", "trace", "(I)I"⟩ ⟨"KitePost", "trace", "(I)I"⟩ ∈ lwg := List.mem_filter.mpr ⟨List.mem_of_getElem? (i := 1044) (by decide +kernel), rfl⟩
set_option maxRecDepth 40000 in
theorem tw_1045 : Cond.code ⟨"KitePost", "trace", "(I)I"⟩ prog_1_method_31_code 2 (some .int) ∈ lwg := List.mem_filter.mpr ⟨List.mem_of_getElem? (i := 1045) rfl, rfl⟩
set_option maxRecDepth 40000 in
theorem tw_1046 : Cond.methodLink "KitePostLaw" 143 ⟨"KitePost", "sheet", "(III)I"⟩ ∈ lwg := List.mem_filter.mpr ⟨List.mem_of_getElem? (i := 1046) (by decide +kernel), rfl⟩
set_option maxRecDepth 40000 in
theorem tw_1047 : Cond.instanceMethod ⟨"KitePost", "sheet", "(III)I"⟩ ∈ lwg := List.mem_filter.mpr ⟨List.mem_of_getElem? (i := 1047) (by decide +kernel), rfl⟩
set_option maxRecDepth 40000 in
theorem tw_1048 : Cond.selects "KitePost" ⟨"KitePost", "sheet", "(III)I"⟩ ⟨"KitePost", "sheet", "(III)I"⟩ ∈ lwg := List.mem_filter.mpr ⟨List.mem_of_getElem? (i := 1048) (by decide +kernel), rfl⟩
set_option maxRecDepth 40000 in
theorem tw_1049 : Cond.code ⟨"KitePost", "sheet", "(III)I"⟩ prog_1_method_32_code 5 (some .int) ∈ lwg := List.mem_filter.mpr ⟨List.mem_of_getElem? (i := 1049) rfl, rfl⟩
set_option maxRecDepth 40000 in
theorem tw_1050 : Cond.methodLink "KitePost" 250 ⟨"KitePost", "sheetAt", "(I)LKitePost$Sheet;"⟩ ∈ lwg := List.mem_filter.mpr ⟨List.mem_of_getElem? (i := 1050) (by decide +kernel), rfl⟩
set_option maxRecDepth 40000 in
theorem tw_1052 : Cond.instanceMethod ⟨"KitePost", "sheetAt", "(I)LKitePost$Sheet;"⟩ ∈ lwg := List.mem_filter.mpr ⟨List.mem_of_getElem? (i := 1052) (by decide +kernel), rfl⟩
set_option maxRecDepth 40000 in
theorem tw_1053 : Cond.code ⟨"KitePost", "sheetAt", "(I)LKitePost$Sheet;"⟩ prog_1_method_44_code 2 (some (.object "KitePost$Sheet")) ∈ lwg := List.mem_filter.mpr ⟨List.mem_of_getElem? (i := 1053) rfl, rfl⟩
set_option maxRecDepth 40000 in
theorem tw_1054 : Cond.methodLink "KitePost" 254 ⟨"KitePost$Sheet", "become", "(II)V"⟩ ∈ lwg := List.mem_filter.mpr ⟨List.mem_of_getElem? (i := 1054) (by decide +kernel), rfl⟩
set_option maxRecDepth 40000 in
theorem tw_1055 : Cond.instanceMethod ⟨"KitePost$Sheet", "become", "(II)V"⟩ ∈ lwg := List.mem_filter.mpr ⟨List.mem_of_getElem? (i := 1055) (by decide +kernel), rfl⟩
set_option maxRecDepth 40000 in
theorem tw_1056 : Cond.selects "KitePost$Sheet" ⟨"KitePost$Sheet", "become", "(II)V"⟩ ⟨"KitePost$Sheet", "become", "(II)V"⟩ ∈ lwg := List.mem_filter.mpr ⟨List.mem_of_getElem? (i := 1056) (by decide +kernel), rfl⟩
set_option maxRecDepth 40000 in
theorem tw_1057 : Cond.code ⟨"KitePost$Sheet", "become", "(II)V"⟩ prog_9_method_3_code 3 none ∈ lwg := List.mem_filter.mpr ⟨List.mem_of_getElem? (i := 1057) rfl, rfl⟩
set_option maxRecDepth 40000 in
theorem tw_1058 : Cond.methodLink "KitePost$Sheet" 22 ⟨"java/util/Arrays", "fill", "([II)V"⟩ ∈ lwg := List.mem_filter.mpr ⟨List.mem_of_getElem? (i := 1058) (by decide +kernel), rfl⟩
set_option maxRecDepth 40000 in
theorem tw_1059 : Cond.methodLink "KitePostLaw" 147 ⟨"KitePost", "put", "(III)I"⟩ ∈ lwg := List.mem_filter.mpr ⟨List.mem_of_getElem? (i := 1059) (by decide +kernel), rfl⟩
set_option maxRecDepth 40000 in
theorem tw_1060 : Cond.instanceMethod ⟨"KitePost", "put", "(III)I"⟩ ∈ lwg := List.mem_filter.mpr ⟨List.mem_of_getElem? (i := 1060) (by decide +kernel), rfl⟩
set_option maxRecDepth 40000 in
theorem tw_1061 : Cond.selects "KitePost" ⟨"KitePost", "put", "(III)I"⟩ ⟨"KitePost", "put", "(III)I"⟩ ∈ lwg := List.mem_filter.mpr ⟨List.mem_of_getElem? (i := 1061) (by decide +kernel), rfl⟩
set_option maxRecDepth 40000 in
theorem tw_1062 : Cond.code ⟨"KitePost", "put", "(III)I"⟩ prog_1_method_33_code 5 (some .int) ∈ lwg := List.mem_filter.mpr ⟨List.mem_of_getElem? (i := 1062) rfl, rfl⟩
set_option maxRecDepth 40000 in
theorem tw_1063 : Cond.methodLink "KitePost" 257 ⟨"KitePost$Sheet", "isMissing", "()Z"⟩ ∈ lwg := List.mem_filter.mpr ⟨List.mem_of_getElem? (i := 1063) (by decide +kernel), rfl⟩
set_option maxRecDepth 40000 in
theorem tw_1064 : Cond.instanceMethod ⟨"KitePost$Sheet", "isMissing", "()Z"⟩ ∈ lwg := List.mem_filter.mpr ⟨List.mem_of_getElem? (i := 1064) (by decide +kernel), rfl⟩
set_option maxRecDepth 40000 in
theorem tw_1065 : Cond.selects "KitePost$Sheet" ⟨"KitePost$Sheet", "isMissing", "()Z"⟩ ⟨"KitePost$Sheet", "isMissing", "()Z"⟩ ∈ lwg := List.mem_filter.mpr ⟨List.mem_of_getElem? (i := 1065) (by decide +kernel), rfl⟩
set_option maxRecDepth 40000 in
theorem tw_1066 : Cond.code ⟨"KitePost$Sheet", "isMissing", "()Z"⟩ prog_9_method_2_code 1 (some .boolean) ∈ lwg := List.mem_filter.mpr ⟨List.mem_of_getElem? (i := 1066) rfl, rfl⟩
set_option maxRecDepth 40000 in
theorem tw_1067 : Cond.methodLink "KitePost" 262 ⟨"KitePost$Sheet", "change", "(II)V"⟩ ∈ lwg := List.mem_filter.mpr ⟨List.mem_of_getElem? (i := 1067) (by decide +kernel), rfl⟩
set_option maxRecDepth 40000 in
theorem tw_1068 : Cond.instanceMethod ⟨"KitePost$Sheet", "change", "(II)V"⟩ ∈ lwg := List.mem_filter.mpr ⟨List.mem_of_getElem? (i := 1068) (by decide +kernel), rfl⟩
set_option maxRecDepth 40000 in
theorem tw_1069 : Cond.selects "KitePost$Sheet" ⟨"KitePost$Sheet", "change", "(II)V"⟩ ⟨"KitePost$Sheet", "change", "(II)V"⟩ ∈ lwg := List.mem_filter.mpr ⟨List.mem_of_getElem? (i := 1069) (by decide +kernel), rfl⟩
set_option maxRecDepth 40000 in
theorem tw_1070 : Cond.code ⟨"KitePost$Sheet", "change", "(II)V"⟩ prog_9_method_4_code 3 none ∈ lwg := List.mem_filter.mpr ⟨List.mem_of_getElem? (i := 1070) rfl, rfl⟩
set_option maxRecDepth 40000 in
theorem tw_1071 : Cond.methodLink "KitePostLaw" 151 ⟨"KitePost", "move", "(IIIII)I"⟩ ∈ lwg := List.mem_filter.mpr ⟨List.mem_of_getElem? (i := 1071) (by decide +kernel), rfl⟩
set_option maxRecDepth 40000 in
theorem tw_1072 : Cond.instanceMethod ⟨"KitePost", "move", "(IIIII)I"⟩ ∈ lwg := List.mem_filter.mpr ⟨List.mem_of_getElem? (i := 1072) (by decide +kernel), rfl⟩
set_option maxRecDepth 40000 in
theorem tw_1073 : Cond.selects "KitePost" ⟨"KitePost", "move", "(IIIII)I"⟩ ⟨"KitePost", "move", "(IIIII)I"⟩ ∈ lwg := List.mem_filter.mpr ⟨List.mem_of_getElem? (i := 1073) (by decide +kernel), rfl⟩
set_option maxRecDepth 40000 in
theorem tw_1074 : Cond.code ⟨"KitePost", "move", "(IIIII)I"⟩ prog_1_method_34_code 8 (some .int) ∈ lwg := List.mem_filter.mpr ⟨List.mem_of_getElem? (i := 1074) rfl, rfl⟩
set_option maxRecDepth 40000 in
theorem tw_1075 : Cond.methodLink "KitePost" 268 ⟨"KitePost$Sheet", "holds", "(II)Z"⟩ ∈ lwg := List.mem_filter.mpr ⟨List.mem_of_getElem? (i := 1075) (by decide +kernel), rfl⟩
set_option maxRecDepth 40000 in
theorem tw_1076 : Cond.instanceMethod ⟨"KitePost$Sheet", "holds", "(II)Z"⟩ ∈ lwg := List.mem_filter.mpr ⟨List.mem_of_getElem? (i := 1076) (by decide +kernel), rfl⟩
set_option maxRecDepth 40000 in
theorem tw_1077 : Cond.selects "KitePost$Sheet" ⟨"KitePost$Sheet", "holds", "(II)Z"⟩ ⟨"KitePost$Sheet", "holds", "(II)Z"⟩ ∈ lwg := List.mem_filter.mpr ⟨List.mem_of_getElem? (i := 1077) (by decide +kernel), rfl⟩
set_option maxRecDepth 40000 in
theorem tw_1078 : Cond.code ⟨"KitePost$Sheet", "holds", "(II)Z"⟩ prog_9_method_6_code 3 (some .boolean) ∈ lwg := List.mem_filter.mpr ⟨List.mem_of_getElem? (i := 1078) rfl, rfl⟩
set_option maxRecDepth 40000 in
theorem tw_1079 : Cond.methodLink "KitePost" 274 ⟨"java/lang/System", "arraycopy", "(Ljava/lang/Object;ILjava/lang/Object;II)V"⟩ ∈ lwg := List.mem_filter.mpr ⟨List.mem_of_getElem? (i := 1079) (by decide +kernel), rfl⟩
set_option maxRecDepth 40000 in
theorem tw_1080 : Cond.methodLink "KitePostLaw" 155 ⟨"KitePost", "winds", "(I)I"⟩ ∈ lwg := List.mem_filter.mpr ⟨List.mem_of_getElem? (i := 1080) (by decide +kernel), rfl⟩
set_option maxRecDepth 40000 in
theorem tw_1081 : Cond.instanceMethod ⟨"KitePost", "winds", "(I)I"⟩ ∈ lwg := List.mem_filter.mpr ⟨List.mem_of_getElem? (i := 1081) (by decide +kernel), rfl⟩
set_option maxRecDepth 40000 in
theorem tw_1082 : Cond.selects "KitePost" ⟨"KitePost", "winds", "(I)I"⟩ ⟨"KitePost", "winds", "(I)I"⟩ ∈ lwg := List.mem_filter.mpr ⟨List.mem_of_getElem? (i := 1082) (by decide +kernel), rfl⟩
set_option maxRecDepth 40000 in
theorem tw_1083 : Cond.code ⟨"KitePost", "winds", "(I)I"⟩ prog_1_method_35_code 6 (some .int) ∈ lwg := List.mem_filter.mpr ⟨List.mem_of_getElem? (i := 1083) rfl, rfl⟩
set_option maxRecDepth 40000 in
theorem tw_1084 : Cond.methodLink "KitePost" 280 ⟨"KitePost$Sheet", "numberAt", "(I)I"⟩ ∈ lwg := List.mem_filter.mpr ⟨List.mem_of_getElem? (i := 1084) (by decide +kernel), rfl⟩
set_option maxRecDepth 40000 in
theorem tw_1085 : Cond.instanceMethod ⟨"KitePost$Sheet", "numberAt", "(I)I"⟩ ∈ lwg := List.mem_filter.mpr ⟨List.mem_of_getElem? (i := 1085) (by decide +kernel), rfl⟩
set_option maxRecDepth 40000 in
theorem tw_1086 : Cond.selects "KitePost$Sheet" ⟨"KitePost$Sheet", "numberAt", "(I)I"⟩ ⟨"KitePost$Sheet", "numberAt", "(I)I"⟩ ∈ lwg := List.mem_filter.mpr ⟨List.mem_of_getElem? (i := 1086) (by decide +kernel), rfl⟩
set_option maxRecDepth 40000 in
theorem tw_1087 : Cond.code ⟨"KitePost$Sheet", "numberAt", "(I)I"⟩ prog_9_method_5_code 2 (some .int) ∈ lwg := List.mem_filter.mpr ⟨List.mem_of_getElem? (i := 1087) rfl, rfl⟩
set_option maxRecDepth 40000 in
theorem tw_1088 : Cond.methodLink "KitePostLaw" 159 ⟨"KitePost", "image", "()I"⟩ ∈ lwg := List.mem_filter.mpr ⟨List.mem_of_getElem? (i := 1088) (by decide +kernel), rfl⟩
set_option maxRecDepth 40000 in
theorem tw_1089 : Cond.instanceMethod ⟨"KitePost", "image", "()I"⟩ ∈ lwg := List.mem_filter.mpr ⟨List.mem_of_getElem? (i := 1089) (by decide +kernel), rfl⟩
set_option maxRecDepth 40000 in
theorem tw_1090 : Cond.selects "KitePost" ⟨"KitePost", "image", "()I"⟩ ⟨"KitePost", "image", "()I"⟩ ∈ lwg := List.mem_filter.mpr ⟨List.mem_of_getElem? (i := 1090) (by decide +kernel), rfl⟩
set_option maxRecDepth 40000 in
theorem tw_1091 : Cond.code ⟨"KitePost", "image", "()I"⟩ prog_1_method_36_code 1 (some .int) ∈ lwg := List.mem_filter.mpr ⟨List.mem_of_getElem? (i := 1091) rfl, rfl⟩
set_option maxRecDepth 40000 in
theorem tw_1092 : Cond.methodLink "KitePostLaw" 163 ⟨"KitePost", "restore", "()I"⟩ ∈ lwg := List.mem_filter.mpr ⟨List.mem_of_getElem? (i := 1092) (by decide +kernel), rfl⟩
set_option maxRecDepth 40000 in
theorem tw_1093 : Cond.instanceMethod ⟨"KitePost", "restore", "()I"⟩ ∈ lwg := List.mem_filter.mpr ⟨List.mem_of_getElem? (i := 1093) (by decide +kernel), rfl⟩
set_option maxRecDepth 40000 in
theorem tw_1094 : Cond.selects "KitePost" ⟨"KitePost", "restore", "()I"⟩ ⟨"KitePost", "restore", "()I"⟩ ∈ lwg := List.mem_filter.mpr ⟨List.mem_of_getElem? (i := 1094) (by decide +kernel), rfl⟩
set_option maxRecDepth 40000 in
theorem tw_1095 : Cond.code ⟨"KitePost", "restore", "()I"⟩ prog_1_method_37_code 1 (some .int) ∈ lwg := List.mem_filter.mpr ⟨List.mem_of_getElem? (i := 1095) rfl, rfl⟩
set_option maxRecDepth 40000 in
theorem tw_1096 : Cond.methodLink "KitePostLaw" 167 ⟨"KitePost", "tell", "(I)I"⟩ ∈ lwg := List.mem_filter.mpr ⟨List.mem_of_getElem? (i := 1096) (by decide +kernel), rfl⟩
set_option maxRecDepth 40000 in
theorem tw_1097 : Cond.instanceMethod ⟨"KitePost", "tell", "(I)I"⟩ ∈ lwg := List.mem_filter.mpr ⟨List.mem_of_getElem? (i := 1097) (by decide +kernel), rfl⟩
set_option maxRecDepth 40000 in
theorem tw_1098 : Cond.selects "KitePost" ⟨"KitePost", "tell", "(I)I"⟩ ⟨"KitePost", "tell", "(I)I"⟩ ∈ lwg := List.mem_filter.mpr ⟨List.mem_of_getElem? (i := 1098) (by decide +kernel), rfl⟩
set_option maxRecDepth 40000 in
theorem tw_1099 : Cond.code ⟨"KitePost", "tell", "(I)I"⟩ prog_1_method_38_code 2 (some .int) ∈ lwg := List.mem_filter.mpr ⟨List.mem_of_getElem? (i := 1099) rfl, rfl⟩
set_option maxRecDepth 40000 in
theorem tw_1100 : Cond.methodLink "KitePostLaw" 171 ⟨"KitePost", "check", "(I)I"⟩ ∈ lwg := List.mem_filter.mpr ⟨List.mem_of_getElem? (i := 1100) (by decide +kernel), rfl⟩
set_option maxRecDepth 40000 in
theorem tw_1101 : Cond.instanceMethod ⟨"KitePost", "check", "(I)I"⟩ ∈ lwg := List.mem_filter.mpr ⟨List.mem_of_getElem? (i := 1101) (by decide +kernel), rfl⟩
set_option maxRecDepth 40000 in
theorem tw_1102 : Cond.selects "KitePost" ⟨"KitePost", "check", "(I)I"⟩ ⟨"KitePost", "check", "(I)I"⟩ ∈ lwg := List.mem_filter.mpr ⟨List.mem_of_getElem? (i := 1102) (by decide +kernel), rfl⟩
set_option maxRecDepth 40000 in
theorem tw_1103 : Cond.code ⟨"KitePost", "check", "(I)I"⟩ prog_1_method_39_code 4 (some .int) ∈ lwg := List.mem_filter.mpr ⟨List.mem_of_getElem? (i := 1103) rfl, rfl⟩
set_option maxRecDepth 40000 in
theorem tw_1104 : Cond.methodLink "KitePostLaw" 175 ⟨"KitePost", "count", "(I)I"⟩ ∈ lwg := List.mem_filter.mpr ⟨List.mem_of_getElem? (i := 1104) (by decide +kernel), rfl⟩
set_option maxRecDepth 40000 in
theorem tw_1105 : Cond.instanceMethod ⟨"KitePost", "count", "(I)I"⟩ ∈ lwg := List.mem_filter.mpr ⟨List.mem_of_getElem? (i := 1105) (by decide +kernel), rfl⟩
set_option maxRecDepth 40000 in
theorem tw_1106 : Cond.selects "KitePost" ⟨"KitePost", "count", "(I)I"⟩ ⟨"KitePost", "count", "(I)I"⟩ ∈ lwg := List.mem_filter.mpr ⟨List.mem_of_getElem? (i := 1106) (by decide +kernel), rfl⟩
set_option maxRecDepth 40000 in
theorem tw_1107 : Cond.code ⟨"KitePost", "count", "(I)I"⟩ prog_1_method_40_code 2 (some .int) ∈ lwg := List.mem_filter.mpr ⟨List.mem_of_getElem? (i := 1107) rfl, rfl⟩
set_option maxRecDepth 40000 in
theorem tw_1108 : Cond.methodLink "KitePostLaw" 179 ⟨"KitePost", "told", "(I)I"⟩ ∈ lwg := List.mem_filter.mpr ⟨List.mem_of_getElem? (i := 1108) (by decide +kernel), rfl⟩
set_option maxRecDepth 40000 in
theorem tw_1109 : Cond.instanceMethod ⟨"KitePost", "told", "(I)I"⟩ ∈ lwg := List.mem_filter.mpr ⟨List.mem_of_getElem? (i := 1109) (by decide +kernel), rfl⟩
set_option maxRecDepth 40000 in
theorem tw_1110 : Cond.selects "KitePost" ⟨"KitePost", "told", "(I)I"⟩ ⟨"KitePost", "told", "(I)I"⟩ ∈ lwg := List.mem_filter.mpr ⟨List.mem_of_getElem? (i := 1110) (by decide +kernel), rfl⟩
set_option maxRecDepth 40000 in
theorem tw_1111 : Cond.code ⟨"KitePost", "told", "(I)I"⟩ prog_1_method_41_code 2 (some .int) ∈ lwg := List.mem_filter.mpr ⟨List.mem_of_getElem? (i := 1111) rfl, rfl⟩
set_option maxRecDepth 40000 in
theorem tw_1112 : Cond.classLink "KitePostLaw" 10 "KitePostModel" ∈ lwg := List.mem_filter.mpr ⟨List.mem_of_getElem? (i := 1112) (by decide +kernel), rfl⟩
set_option maxRecDepth 40000 in
theorem tw_1113 : Cond.instantiable "KitePostModel" 25 ∈ lwg := List.mem_filter.mpr ⟨List.mem_of_getElem? (i := 1113) (by decide +kernel), rfl⟩
set_option maxRecDepth 40000 in
theorem tw_1114 : Cond.methodLink "KitePostLaw" 12 ⟨"KitePostModel", "<init>", "()V"⟩ ∈ lwg := List.mem_filter.mpr ⟨List.mem_of_getElem? (i := 1114) (by decide +kernel), rfl⟩
set_option maxRecDepth 40000 in
theorem tw_1115 : Cond.instanceMethod ⟨"KitePostModel", "<init>", "()V"⟩ ∈ lwg := List.mem_filter.mpr ⟨List.mem_of_getElem? (i := 1115) (by decide +kernel), rfl⟩
set_option maxRecDepth 40000 in
theorem tw_1116 : Cond.code ⟨"KitePostModel", "<init>", "()V"⟩ prog_14_method_1_code 2 none ∈ lwg := List.mem_filter.mpr ⟨List.mem_of_getElem? (i := 1116) rfl, rfl⟩
set_option maxRecDepth 40000 in
theorem tw_1117 : Cond.methodLink "KitePostModel" 3 ⟨"java/lang/Object", "<init>", "()V"⟩ ∈ lwg := List.mem_filter.mpr ⟨List.mem_of_getElem? (i := 1117) (by decide +kernel), rfl⟩
set_option maxRecDepth 40000 in
theorem tw_1118 : Cond.classLink "KitePostModel" 28 "java/lang/String" ∈ lwg := List.mem_filter.mpr ⟨List.mem_of_getElem? (i := 1118) (by decide +kernel), rfl⟩
set_option maxRecDepth 40000 in
theorem tw_1122 : Cond.fieldLink "KitePostModel" 9 "KitePostModel" "now" "[I" ∈ lwg := List.mem_filter.mpr ⟨List.mem_of_getElem? (i := 1122) (by decide +kernel), rfl⟩
set_option maxRecDepth 40000 in
theorem tw_1123 : Cond.fieldLink "KitePostModel" 13 "KitePostModel" "kept" "[I" ∈ lwg := List.mem_filter.mpr ⟨List.mem_of_getElem? (i := 1123) (by decide +kernel), rfl⟩
set_option maxRecDepth 40000 in
theorem tw_1124 : Cond.fieldLink "KitePostModel" 16 "KitePostModel" "aside" "[I" ∈ lwg := List.mem_filter.mpr ⟨List.mem_of_getElem? (i := 1124) (by decide +kernel), rfl⟩
set_option maxRecDepth 40000 in
theorem tw_1125 : Cond.fieldLink "KitePostModel" 341 "KitePostModel" "images" "I" ∈ lwg := List.mem_filter.mpr ⟨List.mem_of_getElem? (i := 1125) (by decide +kernel), rfl⟩
set_option maxRecDepth 40000 in
theorem tw_1126 : Cond.fieldLink "KitePostModel" 19 "KitePostModel" "errors" "[I" ∈ lwg := List.mem_filter.mpr ⟨List.mem_of_getElem? (i := 1126) (by decide +kernel), rfl⟩
set_option maxRecDepth 40000 in
theorem tw_1127 : Cond.fieldLink "KitePostModel" 22 "KitePostModel" "toX" "[I" ∈ lwg := List.mem_filter.mpr ⟨List.mem_of_getElem? (i := 1127) (by decide +kernel), rfl⟩
set_option maxRecDepth 40000 in
theorem tw_1128 : Cond.fieldLink "KitePostModel" 25 "KitePostModel" "toY" "[I" ∈ lwg := List.mem_filter.mpr ⟨List.mem_of_getElem? (i := 1128) (by decide +kernel), rfl⟩
set_option maxRecDepth 40000 in
theorem tw_1129 : Cond.fieldLink "KitePostModel" 34 "KitePostModel" "NAMED" "[Ljava/lang/String;" ∈ lwg := List.mem_filter.mpr ⟨List.mem_of_getElem? (i := 1129) (by decide +kernel), rfl⟩
set_option maxRecDepth 40000 in
theorem tw_1130 : Cond.fieldLink "KitePostModel" 168 "KitePostModel" "at" "I" ∈ lwg := List.mem_filter.mpr ⟨List.mem_of_getElem? (i := 1130) (by decide +kernel), rfl⟩
set_option maxRecDepth 40000 in
theorem tw_1131 : Cond.fieldLink "KitePostModel" 211 "KitePostModel" "open" "I" ∈ lwg := List.mem_filter.mpr ⟨List.mem_of_getElem? (i := 1131) (by decide +kernel), rfl⟩
set_option maxRecDepth 40000 in
theorem tw_1132 : Cond.fieldLink "KitePostModel" 201 "KitePostModel" "use" "I" ∈ lwg := List.mem_filter.mpr ⟨List.mem_of_getElem? (i := 1132) (by decide +kernel), rfl⟩
set_option maxRecDepth 40000 in
theorem tw_1133 : Cond.fieldLink "KitePostModel" 164 "KitePostModel" "isWrong" "Z" ∈ lwg := List.mem_filter.mpr ⟨List.mem_of_getElem? (i := 1133) (by decide +kernel), rfl⟩
set_option maxRecDepth 40000 in
theorem tw_1134 : Cond.fieldLink "KitePostModel" 38 "KitePostModel" "code" "[I" ∈ lwg := List.mem_filter.mpr ⟨List.mem_of_getElem? (i := 1134) (by decide +kernel), rfl⟩
set_option maxRecDepth 40000 in
theorem tw_1135 : Cond.fieldLink "KitePostModel" 176 "KitePostModel" "coded" "I" ∈ lwg := List.mem_filter.mpr ⟨List.mem_of_getElem? (i := 1135) (by decide +kernel), rfl⟩
set_option maxRecDepth 40000 in
theorem tw_1136 : Cond.fieldLink "KitePostModel" 41 "KitePostModel" "named" "[I" ∈ lwg := List.mem_filter.mpr ⟨List.mem_of_getElem? (i := 1136) (by decide +kernel), rfl⟩
set_option maxRecDepth 40000 in
theorem tw_1137 : Cond.fieldLink "KitePostModel" 44 "KitePostModel" "pile" "[I" ∈ lwg := List.mem_filter.mpr ⟨List.mem_of_getElem? (i := 1137) (by decide +kernel), rfl⟩
set_option maxRecDepth 40000 in
theorem tw_1138 : Cond.fieldLink "KitePostModel" 305 "KitePostModel" "freshSoonest" "I" ∈ lwg := List.mem_filter.mpr ⟨List.mem_of_getElem? (i := 1138) (by decide +kernel), rfl⟩
set_option maxRecDepth 40000 in
theorem tw_1139 : Cond.fieldLink "KitePostModel" 47 "KitePostModel" "mended" "[I" ∈ lwg := List.mem_filter.mpr ⟨List.mem_of_getElem? (i := 1139) (by decide +kernel), rfl⟩
set_option maxRecDepth 40000 in
theorem tw_1140 : Cond.fieldLink "KitePostModel" 50 "KitePostModel" "trace" "[I" ∈ lwg := List.mem_filter.mpr ⟨List.mem_of_getElem? (i := 1140) (by decide +kernel), rfl⟩
set_option maxRecDepth 40000 in
theorem tw_1141 : Cond.fieldLink "KitePostModel" 317 "KitePostModel" "traced" "I" ∈ lwg := List.mem_filter.mpr ⟨List.mem_of_getElem? (i := 1141) (by decide +kernel), rfl⟩
set_option maxRecDepth 40000 in
theorem tw_1142 : Cond.fieldLink "KitePostModel" 320 "KitePostModel" "speaker" "I" ∈ lwg := List.mem_filter.mpr ⟨List.mem_of_getElem? (i := 1142) (by decide +kernel), rfl⟩
set_option maxRecDepth 40000 in
theorem tw_1143 : Cond.fieldLink "KitePostModel" 53 "KitePostModel" "widths" "[I" ∈ lwg := List.mem_filter.mpr ⟨List.mem_of_getElem? (i := 1143) (by decide +kernel), rfl⟩
set_option maxRecDepth 40000 in
theorem tw_1144 : Cond.fieldLink "KitePostModel" 56 "KitePostModel" "sizes" "[I" ∈ lwg := List.mem_filter.mpr ⟨List.mem_of_getElem? (i := 1144) (by decide +kernel), rfl⟩
set_option maxRecDepth 40000 in
theorem tw_1145 : Cond.fieldLink "KitePostModel" 59 "KitePostModel" "numbers" "[I" ∈ lwg := List.mem_filter.mpr ⟨List.mem_of_getElem? (i := 1145) (by decide +kernel), rfl⟩
set_option maxRecDepth 40000 in
theorem tw_1146 : Cond.fieldLink "KitePostModel" 62 "KitePostModel" "carried" "[I" ∈ lwg := List.mem_filter.mpr ⟨List.mem_of_getElem? (i := 1146) (by decide +kernel), rfl⟩
set_option maxRecDepth 40000 in
theorem tw_1197 : Cond.superclass "KitePostModel" "java/lang/Object" ∈ lwg := List.mem_filter.mpr ⟨List.mem_of_getElem? (i := 1197) (by decide +kernel), rfl⟩
set_option maxRecDepth 40000 in
theorem tw_1198 : Cond.methodLink "KitePostLaw" 17 ⟨"KitePostModel", "hill", "(II)I"⟩ ∈ lwg := List.mem_filter.mpr ⟨List.mem_of_getElem? (i := 1198) (by decide +kernel), rfl⟩
set_option maxRecDepth 40000 in
theorem tw_1199 : Cond.instanceMethod ⟨"KitePostModel", "hill", "(II)I"⟩ ∈ lwg := List.mem_filter.mpr ⟨List.mem_of_getElem? (i := 1199) (by decide +kernel), rfl⟩
set_option maxRecDepth 40000 in
theorem tw_1200 : Cond.selects "KitePostModel" ⟨"KitePostModel", "hill", "(II)I"⟩ ⟨"KitePostModel", "hill", "(II)I"⟩ ∈ lwg := List.mem_filter.mpr ⟨List.mem_of_getElem? (i := 1200) (by decide +kernel), rfl⟩
set_option maxRecDepth 40000 in
theorem tw_1201 : Cond.code ⟨"KitePostModel", "hill", "(II)I"⟩ prog_14_method_15_code 3 (some .int) ∈ lwg := List.mem_filter.mpr ⟨List.mem_of_getElem? (i := 1201) rfl, rfl⟩
set_option maxRecDepth 40000 in
theorem tw_1202 : Cond.methodLink "KitePostModel" 75 ⟨"KitePostModel", "within", "(III)Z"⟩ ∈ lwg := List.mem_filter.mpr ⟨List.mem_of_getElem? (i := 1202) (by decide +kernel), rfl⟩
set_option maxRecDepth 40000 in
theorem tw_1203 : Cond.static ⟨"KitePostModel", "within", "(III)Z"⟩ ∈ lwg := List.mem_filter.mpr ⟨List.mem_of_getElem? (i := 1203) (by decide +kernel), rfl⟩
set_option maxRecDepth 40000 in
theorem tw_1204 : Cond.code ⟨"KitePostModel", "within", "(III)Z"⟩ prog_14_method_3_code 3 (some .boolean) ∈ lwg := List.mem_filter.mpr ⟨List.mem_of_getElem? (i := 1204) rfl, rfl⟩
set_option maxRecDepth 40000 in
theorem tw_1205 : Cond.constant "KitePostModel" 83 (-1000000001) ∈ lwg := List.mem_filter.mpr ⟨List.mem_of_getElem? (i := 1205) (by decide +kernel), rfl⟩
set_option maxRecDepth 40000 in
theorem tw_1206 : Cond.methodLink "KitePostModel" 84 ⟨"KitePostModel", "finding", "(I)I"⟩ ∈ lwg := List.mem_filter.mpr ⟨List.mem_of_getElem? (i := 1206) (by decide +kernel), rfl⟩
set_option maxRecDepth 40000 in
theorem tw_1208 : Cond.instanceMethod ⟨"KitePostModel", "finding", "(I)I"⟩ ∈ lwg := List.mem_filter.mpr ⟨List.mem_of_getElem? (i := 1208) (by decide +kernel), rfl⟩
set_option maxRecDepth 40000 in
theorem tw_1209 : Cond.code ⟨"KitePostModel", "finding", "(I)I"⟩ prog_14_method_2_code 2 (some .int) ∈ lwg := List.mem_filter.mpr ⟨List.mem_of_getElem? (i := 1209) rfl, rfl⟩
set_option maxRecDepth 40000 in
theorem tw_1210 : Cond.constant "KitePostModel" 65 (-1000000000) ∈ lwg := List.mem_filter.mpr ⟨List.mem_of_getElem? (i := 1210) (by decide +kernel), rfl⟩
set_option maxRecDepth 40000 in
theorem tw_1211 : Cond.methodLink "KitePostModel" 88 ⟨"KitePostModel", "isTaken", "(I)Z"⟩ ∈ lwg := List.mem_filter.mpr ⟨List.mem_of_getElem? (i := 1211) (by decide +kernel), rfl⟩
set_option maxRecDepth 40000 in
theorem tw_1213 : Cond.instanceMethod ⟨"KitePostModel", "isTaken", "(I)Z"⟩ ∈ lwg := List.mem_filter.mpr ⟨List.mem_of_getElem? (i := 1213) (by decide +kernel), rfl⟩
set_option maxRecDepth 40000 in
theorem tw_1214 : Cond.code ⟨"KitePostModel", "isTaken", "(I)Z"⟩ prog_14_method_13_code 4 (some .boolean) ∈ lwg := List.mem_filter.mpr ⟨List.mem_of_getElem? (i := 1214) rfl, rfl⟩
set_option maxRecDepth 40000 in
theorem tw_1215 : Cond.constant "KitePostModel" 92 (-1000000003) ∈ lwg := List.mem_filter.mpr ⟨List.mem_of_getElem? (i := 1215) (by decide +kernel), rfl⟩
set_option maxRecDepth 40000 in
theorem tw_1216 : Cond.constant "KitePostModel" 93 (-1000000004) ∈ lwg := List.mem_filter.mpr ⟨List.mem_of_getElem? (i := 1216) (by decide +kernel), rfl⟩
set_option maxRecDepth 40000 in
theorem tw_1217 : Cond.methodLink "KitePostModel" 94 ⟨"KitePostModel", "rises", "(II)I"⟩ ∈ lwg := List.mem_filter.mpr ⟨List.mem_of_getElem? (i := 1217) (by decide +kernel), rfl⟩
set_option maxRecDepth 40000 in
theorem tw_1219 : Cond.instanceMethod ⟨"KitePostModel", "rises", "(II)I"⟩ ∈ lwg := List.mem_filter.mpr ⟨List.mem_of_getElem? (i := 1219) (by decide +kernel), rfl⟩
set_option maxRecDepth 40000 in
theorem tw_1220 : Cond.code ⟨"KitePostModel", "rises", "(II)I"⟩ prog_14_method_14_code 4 (some .int) ∈ lwg := List.mem_filter.mpr ⟨List.mem_of_getElem? (i := 1220) rfl, rfl⟩
set_option maxRecDepth 40000 in
theorem tw_1221 : Cond.methodLink "KitePostLaw" 21 ⟨"KitePostModel", "ofHill", "(II)I"⟩ ∈ lwg := List.mem_filter.mpr ⟨List.mem_of_getElem? (i := 1221) (by decide +kernel), rfl⟩
set_option maxRecDepth 40000 in
theorem tw_1222 : Cond.instanceMethod ⟨"KitePostModel", "ofHill", "(II)I"⟩ ∈ lwg := List.mem_filter.mpr ⟨List.mem_of_getElem? (i := 1222) (by decide +kernel), rfl⟩
set_option maxRecDepth 40000 in
theorem tw_1223 : Cond.selects "KitePostModel" ⟨"KitePostModel", "ofHill", "(II)I"⟩ ⟨"KitePostModel", "ofHill", "(II)I"⟩ ∈ lwg := List.mem_filter.mpr ⟨List.mem_of_getElem? (i := 1223) (by decide +kernel), rfl⟩
set_option maxRecDepth 40000 in
theorem tw_1224 : Cond.code ⟨"KitePostModel", "ofHill", "(II)I"⟩ prog_14_method_17_code 3 (some .int) ∈ lwg := List.mem_filter.mpr ⟨List.mem_of_getElem? (i := 1224) rfl, rfl⟩
set_option maxRecDepth 40000 in
theorem tw_1225 : Cond.methodLink "KitePostModel" 100 ⟨"KitePostModel", "is", "(II)Z"⟩ ∈ lwg := List.mem_filter.mpr ⟨List.mem_of_getElem? (i := 1225) (by decide +kernel), rfl⟩
set_option maxRecDepth 40000 in
theorem tw_1227 : Cond.instanceMethod ⟨"KitePostModel", "is", "(II)Z"⟩ ∈ lwg := List.mem_filter.mpr ⟨List.mem_of_getElem? (i := 1227) (by decide +kernel), rfl⟩
set_option maxRecDepth 40000 in
theorem tw_1228 : Cond.code ⟨"KitePostModel", "is", "(II)Z"⟩ prog_14_method_6_code 3 (some .boolean) ∈ lwg := List.mem_filter.mpr ⟨List.mem_of_getElem? (i := 1228) rfl, rfl⟩
set_option maxRecDepth 40000 in
theorem tw_1229 : Cond.methodLink "KitePostModel" 104 ⟨"KitePostModel", "lettersOn", "(I)I"⟩ ∈ lwg := List.mem_filter.mpr ⟨List.mem_of_getElem? (i := 1229) (by decide +kernel), rfl⟩
set_option maxRecDepth 40000 in
theorem tw_1231 : Cond.instanceMethod ⟨"KitePostModel", "lettersOn", "(I)I"⟩ ∈ lwg := List.mem_filter.mpr ⟨List.mem_of_getElem? (i := 1231) (by decide +kernel), rfl⟩
set_option maxRecDepth 40000 in
theorem tw_1232 : Cond.code ⟨"KitePostModel", "lettersOn", "(I)I"⟩ prog_14_method_16_code 4 (some .int) ∈ lwg := List.mem_filter.mpr ⟨List.mem_of_getElem? (i := 1232) rfl, rfl⟩
set_option maxRecDepth 40000 in
theorem tw_1233 : Cond.methodLink "KitePostModel" 97 ⟨"KitePostModel", "letterIs", "(II)I"⟩ ∈ lwg := List.mem_filter.mpr ⟨List.mem_of_getElem? (i := 1233) (by decide +kernel), rfl⟩
set_option maxRecDepth 40000 in
theorem tw_1235 : Cond.instanceMethod ⟨"KitePostModel", "letterIs", "(II)I"⟩ ∈ lwg := List.mem_filter.mpr ⟨List.mem_of_getElem? (i := 1235) (by decide +kernel), rfl⟩
set_option maxRecDepth 40000 in
theorem tw_1236 : Cond.code ⟨"KitePostModel", "letterIs", "(II)I"⟩ prog_14_method_63_code 3 (some .int) ∈ lwg := List.mem_filter.mpr ⟨List.mem_of_getElem? (i := 1236) rfl, rfl⟩
set_option maxRecDepth 40000 in
theorem tw_1237 : Cond.methodLink "KitePostLaw" 25 ⟨"KitePostModel", "wind", "(II)I"⟩ ∈ lwg := List.mem_filter.mpr ⟨List.mem_of_getElem? (i := 1237) (by decide +kernel), rfl⟩
set_option maxRecDepth 40000 in
theorem tw_1238 : Cond.instanceMethod ⟨"KitePostModel", "wind", "(II)I"⟩ ∈ lwg := List.mem_filter.mpr ⟨List.mem_of_getElem? (i := 1238) (by decide +kernel), rfl⟩
set_option maxRecDepth 40000 in
theorem tw_1239 : Cond.selects "KitePostModel" ⟨"KitePostModel", "wind", "(II)I"⟩ ⟨"KitePostModel", "wind", "(II)I"⟩ ∈ lwg := List.mem_filter.mpr ⟨List.mem_of_getElem? (i := 1239) (by decide +kernel), rfl⟩
set_option maxRecDepth 40000 in
theorem tw_1240 : Cond.code ⟨"KitePostModel", "wind", "(II)I"⟩ prog_14_method_19_code 3 (some .int) ∈ lwg := List.mem_filter.mpr ⟨List.mem_of_getElem? (i := 1240) rfl, rfl⟩
set_option maxRecDepth 40000 in
theorem tw_1241 : Cond.methodLink "KitePostModel" 107 ⟨"KitePostModel", "isWind", "(I)Z"⟩ ∈ lwg := List.mem_filter.mpr ⟨List.mem_of_getElem? (i := 1241) (by decide +kernel), rfl⟩
set_option maxRecDepth 40000 in
theorem tw_1242 : Cond.static ⟨"KitePostModel", "isWind", "(I)Z"⟩ ∈ lwg := List.mem_filter.mpr ⟨List.mem_of_getElem? (i := 1242) (by decide +kernel), rfl⟩
set_option maxRecDepth 40000 in
theorem tw_1243 : Cond.code ⟨"KitePostModel", "isWind", "(I)Z"⟩ prog_14_method_18_code 1 (some .boolean) ∈ lwg := List.mem_filter.mpr ⟨List.mem_of_getElem? (i := 1243) rfl, rfl⟩
set_option maxRecDepth 40000 in
theorem tw_1244 : Cond.methodLink "KitePostModel" 110 ⟨"KitePostModel", "become", "(II)I"⟩ ∈ lwg := List.mem_filter.mpr ⟨List.mem_of_getElem? (i := 1244) (by decide +kernel), rfl⟩
set_option maxRecDepth 40000 in
theorem tw_1246 : Cond.instanceMethod ⟨"KitePostModel", "become", "(II)I"⟩ ∈ lwg := List.mem_filter.mpr ⟨List.mem_of_getElem? (i := 1246) (by decide +kernel), rfl⟩
set_option maxRecDepth 40000 in
theorem tw_1247 : Cond.code ⟨"KitePostModel", "become", "(II)I"⟩ prog_14_method_8_code 4 (some .int) ∈ lwg := List.mem_filter.mpr ⟨List.mem_of_getElem? (i := 1247) rfl, rfl⟩
set_option maxRecDepth 40000 in
theorem tw_1248 : Cond.methodLink "KitePostLaw" 30 ⟨"KitePostModel", "kite", "(III)I"⟩ ∈ lwg := List.mem_filter.mpr ⟨List.mem_of_getElem? (i := 1248) (by decide +kernel), rfl⟩
set_option maxRecDepth 40000 in
theorem tw_1249 : Cond.instanceMethod ⟨"KitePostModel", "kite", "(III)I"⟩ ∈ lwg := List.mem_filter.mpr ⟨List.mem_of_getElem? (i := 1249) (by decide +kernel), rfl⟩
set_option maxRecDepth 40000 in
theorem tw_1250 : Cond.selects "KitePostModel" ⟨"KitePostModel", "kite", "(III)I"⟩ ⟨"KitePostModel", "kite", "(III)I"⟩ ∈ lwg := List.mem_filter.mpr ⟨List.mem_of_getElem? (i := 1250) (by decide +kernel), rfl⟩
set_option maxRecDepth 40000 in
theorem tw_1251 : Cond.code ⟨"KitePostModel", "kite", "(III)I"⟩ prog_14_method_22_code 4 (some .int) ∈ lwg := List.mem_filter.mpr ⟨List.mem_of_getElem? (i := 1251) rfl, rfl⟩
set_option maxRecDepth 40000 in
theorem tw_1252 : Cond.methodLink "KitePostModel" 113 ⟨"KitePostModel", "flies", "(IIIII)I"⟩ ∈ lwg := List.mem_filter.mpr ⟨List.mem_of_getElem? (i := 1252) (by decide +kernel), rfl⟩
set_option maxRecDepth 40000 in
theorem tw_1254 : Cond.instanceMethod ⟨"KitePostModel", "flies", "(IIIII)I"⟩ ∈ lwg := List.mem_filter.mpr ⟨List.mem_of_getElem? (i := 1254) (by decide +kernel), rfl⟩
set_option maxRecDepth 40000 in
theorem tw_1255 : Cond.code ⟨"KitePostModel", "flies", "(IIIII)I"⟩ prog_14_method_21_code 8 (some .int) ∈ lwg := List.mem_filter.mpr ⟨List.mem_of_getElem? (i := 1255) rfl, rfl⟩
set_option maxRecDepth 40000 in
theorem tw_1256 : Cond.methodLink "KitePostLaw" 34 ⟨"KitePostModel", "ofKite", "(II)I"⟩ ∈ lwg := List.mem_filter.mpr ⟨List.mem_of_getElem? (i := 1256) (by decide +kernel), rfl⟩
set_option maxRecDepth 40000 in
theorem tw_1257 : Cond.instanceMethod ⟨"KitePostModel", "ofKite", "(II)I"⟩ ∈ lwg := List.mem_filter.mpr ⟨List.mem_of_getElem? (i := 1257) (by decide +kernel), rfl⟩
set_option maxRecDepth 40000 in
theorem tw_1258 : Cond.selects "KitePostModel" ⟨"KitePostModel", "ofKite", "(II)I"⟩ ⟨"KitePostModel", "ofKite", "(II)I"⟩ ∈ lwg := List.mem_filter.mpr ⟨List.mem_of_getElem? (i := 1258) (by decide +kernel), rfl⟩
set_option maxRecDepth 40000 in
theorem tw_1259 : Cond.code ⟨"KitePostModel", "ofKite", "(II)I"⟩ prog_14_method_23_code 3 (some .int) ∈ lwg := List.mem_filter.mpr ⟨List.mem_of_getElem? (i := 1259) rfl, rfl⟩
set_option maxRecDepth 40000 in
theorem tw_1260 : Cond.methodLink "KitePostModel" 117 ⟨"KitePostModel", "kiteIs", "(II)I"⟩ ∈ lwg := List.mem_filter.mpr ⟨List.mem_of_getElem? (i := 1260) (by decide +kernel), rfl⟩
set_option maxRecDepth 40000 in
theorem tw_1262 : Cond.instanceMethod ⟨"KitePostModel", "kiteIs", "(II)I"⟩ ∈ lwg := List.mem_filter.mpr ⟨List.mem_of_getElem? (i := 1262) (by decide +kernel), rfl⟩
set_option maxRecDepth 40000 in
theorem tw_1263 : Cond.code ⟨"KitePostModel", "kiteIs", "(II)I"⟩ prog_14_method_20_code 3 (some .int) ∈ lwg := List.mem_filter.mpr ⟨List.mem_of_getElem? (i := 1263) rfl, rfl⟩
set_option maxRecDepth 40000 in
theorem tw_1264 : Cond.methodLink "KitePostLaw" 38 ⟨"KitePostModel", "as", "(II)I"⟩ ∈ lwg := List.mem_filter.mpr ⟨List.mem_of_getElem? (i := 1264) (by decide +kernel), rfl⟩
set_option maxRecDepth 40000 in
theorem tw_1265 : Cond.instanceMethod ⟨"KitePostModel", "as", "(II)I"⟩ ∈ lwg := List.mem_filter.mpr ⟨List.mem_of_getElem? (i := 1265) (by decide +kernel), rfl⟩
set_option maxRecDepth 40000 in
theorem tw_1266 : Cond.selects "KitePostModel" ⟨"KitePostModel", "as", "(II)I"⟩ ⟨"KitePostModel", "as", "(II)I"⟩ ∈ lwg := List.mem_filter.mpr ⟨List.mem_of_getElem? (i := 1266) (by decide +kernel), rfl⟩
set_option maxRecDepth 40000 in
theorem tw_1267 : Cond.code ⟨"KitePostModel", "as", "(II)I"⟩ prog_14_method_25_code 4 (some .int) ∈ lwg := List.mem_filter.mpr ⟨List.mem_of_getElem? (i := 1267) rfl, rfl⟩
set_option maxRecDepth 40000 in
theorem tw_1268 : Cond.methodLink "KitePostModel" 120 ⟨"KitePostModel", "above", "(I)I"⟩ ∈ lwg := List.mem_filter.mpr ⟨List.mem_of_getElem? (i := 1268) (by decide +kernel), rfl⟩
set_option maxRecDepth 40000 in
theorem tw_1269 : Cond.static ⟨"KitePostModel", "above", "(I)I"⟩ ∈ lwg := List.mem_filter.mpr ⟨List.mem_of_getElem? (i := 1269) (by decide +kernel), rfl⟩
set_option maxRecDepth 40000 in
theorem tw_1270 : Cond.code ⟨"KitePostModel", "above", "(I)I"⟩ prog_14_method_24_code 1 (some .int) ∈ lwg := List.mem_filter.mpr ⟨List.mem_of_getElem? (i := 1270) rfl, rfl⟩
set_option maxRecDepth 40000 in
theorem tw_1271 : Cond.constant "KitePostModel" 123 (-1000000005) ∈ lwg := List.mem_filter.mpr ⟨List.mem_of_getElem? (i := 1271) (by decide +kernel), rfl⟩
set_option maxRecDepth 40000 in
theorem tw_1272 : Cond.methodLink "KitePostLaw" 42 ⟨"KitePostModel", "aim", "(II)I"⟩ ∈ lwg := List.mem_filter.mpr ⟨List.mem_of_getElem? (i := 1272) (by decide +kernel), rfl⟩
set_option maxRecDepth 40000 in
theorem tw_1273 : Cond.instanceMethod ⟨"KitePostModel", "aim", "(II)I"⟩ ∈ lwg := List.mem_filter.mpr ⟨List.mem_of_getElem? (i := 1273) (by decide +kernel), rfl⟩
set_option maxRecDepth 40000 in
theorem tw_1274 : Cond.selects "KitePostModel" ⟨"KitePostModel", "aim", "(II)I"⟩ ⟨"KitePostModel", "aim", "(II)I"⟩ ∈ lwg := List.mem_filter.mpr ⟨List.mem_of_getElem? (i := 1274) (by decide +kernel), rfl⟩
set_option maxRecDepth 40000 in
theorem tw_1275 : Cond.code ⟨"KitePostModel", "aim", "(II)I"⟩ prog_14_method_26_code 3 (some .int) ∈ lwg := List.mem_filter.mpr ⟨List.mem_of_getElem? (i := 1275) rfl, rfl⟩
set_option maxRecDepth 40000 in
theorem tw_1276 : Cond.methodLink "KitePostLaw" 46 ⟨"KitePostModel", "pull", "(III)I"⟩ ∈ lwg := List.mem_filter.mpr ⟨List.mem_of_getElem? (i := 1276) (by decide +kernel), rfl⟩
set_option maxRecDepth 40000 in
theorem tw_1277 : Cond.instanceMethod ⟨"KitePostModel", "pull", "(III)I"⟩ ∈ lwg := List.mem_filter.mpr ⟨List.mem_of_getElem? (i := 1277) (by decide +kernel), rfl⟩
set_option maxRecDepth 40000 in
theorem tw_1278 : Cond.selects "KitePostModel" ⟨"KitePostModel", "pull", "(III)I"⟩ ⟨"KitePostModel", "pull", "(III)I"⟩ ∈ lwg := List.mem_filter.mpr ⟨List.mem_of_getElem? (i := 1278) (by decide +kernel), rfl⟩
set_option maxRecDepth 40000 in
theorem tw_1279 : Cond.code ⟨"KitePostModel", "pull", "(III)I"⟩ prog_14_method_33_code 4 (some .int) ∈ lwg := List.mem_filter.mpr ⟨List.mem_of_getElem? (i := 1279) rfl, rfl⟩
set_option maxRecDepth 40000 in
theorem tw_1280 : Cond.methodLink "KitePostModel" 156 ⟨"KitePostModel", "isLoad", "(I)Z"⟩ ∈ lwg := List.mem_filter.mpr ⟨List.mem_of_getElem? (i := 1280) (by decide +kernel), rfl⟩
set_option maxRecDepth 40000 in
theorem tw_1281 : Cond.static ⟨"KitePostModel", "isLoad", "(I)Z"⟩ ∈ lwg := List.mem_filter.mpr ⟨List.mem_of_getElem? (i := 1281) (by decide +kernel), rfl⟩
set_option maxRecDepth 40000 in
theorem tw_1282 : Cond.code ⟨"KitePostModel", "isLoad", "(I)Z"⟩ prog_14_method_32_code 1 (some .boolean) ∈ lwg := List.mem_filter.mpr ⟨List.mem_of_getElem? (i := 1282) rfl, rfl⟩
set_option maxRecDepth 40000 in
theorem tw_1283 : Cond.methodLink "KitePostModel" 149 ⟨"KitePostModel", "pullOf", "(IIIII)I"⟩ ∈ lwg := List.mem_filter.mpr ⟨List.mem_of_getElem? (i := 1283) (by decide +kernel), rfl⟩
set_option maxRecDepth 40000 in
theorem tw_1285 : Cond.instanceMethod ⟨"KitePostModel", "pullOf", "(IIIII)I"⟩ ∈ lwg := List.mem_filter.mpr ⟨List.mem_of_getElem? (i := 1285) (by decide +kernel), rfl⟩
set_option maxRecDepth 40000 in
theorem tw_1286 : Cond.code ⟨"KitePostModel", "pullOf", "(IIIII)I"⟩ prog_14_method_28_code 14 (some .int) ∈ lwg := List.mem_filter.mpr ⟨List.mem_of_getElem? (i := 1286) rfl, rfl⟩
set_option maxRecDepth 40000 in
theorem tw_1287 : Cond.methodLink "KitePostModel" 133 ⟨"KitePostModel", "highOf", "(I)I"⟩ ∈ lwg := List.mem_filter.mpr ⟨List.mem_of_getElem? (i := 1287) (by decide +kernel), rfl⟩
set_option maxRecDepth 40000 in
theorem tw_1289 : Cond.instanceMethod ⟨"KitePostModel", "highOf", "(I)I"⟩ ∈ lwg := List.mem_filter.mpr ⟨List.mem_of_getElem? (i := 1289) (by decide +kernel), rfl⟩
set_option maxRecDepth 40000 in
theorem tw_1290 : Cond.code ⟨"KitePostModel", "highOf", "(I)I"⟩ prog_14_method_12_code 2 (some .int) ∈ lwg := List.mem_filter.mpr ⟨List.mem_of_getElem? (i := 1290) rfl, rfl⟩
set_option maxRecDepth 40000 in
theorem tw_1291 : Cond.methodLink "KitePostModel" 72 ⟨"java/lang/Math", "max", "(II)I"⟩ ∈ lwg := List.mem_filter.mpr ⟨List.mem_of_getElem? (i := 1291) (by decide +kernel), rfl⟩
set_option maxRecDepth 40000 in
theorem tw_1292 : Cond.methodLink "KitePostModel" 136 ⟨"KitePostModel", "farOf", "(II)I"⟩ ∈ lwg := List.mem_filter.mpr ⟨List.mem_of_getElem? (i := 1292) (by decide +kernel), rfl⟩
set_option maxRecDepth 40000 in
theorem tw_1294 : Cond.instanceMethod ⟨"KitePostModel", "farOf", "(II)I"⟩ ∈ lwg := List.mem_filter.mpr ⟨List.mem_of_getElem? (i := 1294) (by decide +kernel), rfl⟩
set_option maxRecDepth 40000 in
theorem tw_1295 : Cond.code ⟨"KitePostModel", "farOf", "(II)I"⟩ prog_14_method_27_code 3 (some .int) ∈ lwg := List.mem_filter.mpr ⟨List.mem_of_getElem? (i := 1295) rfl, rfl⟩
set_option maxRecDepth 40000 in
theorem tw_1296 : Cond.methodLink "KitePostModel" 124 ⟨"KitePostModel", "xOf", "(I)I"⟩ ∈ lwg := List.mem_filter.mpr ⟨List.mem_of_getElem? (i := 1296) (by decide +kernel), rfl⟩
set_option maxRecDepth 40000 in
theorem tw_1298 : Cond.instanceMethod ⟨"KitePostModel", "xOf", "(I)I"⟩ ∈ lwg := List.mem_filter.mpr ⟨List.mem_of_getElem? (i := 1298) (by decide +kernel), rfl⟩
set_option maxRecDepth 40000 in
theorem tw_1299 : Cond.code ⟨"KitePostModel", "xOf", "(I)I"⟩ prog_14_method_10_code 2 (some .int) ∈ lwg := List.mem_filter.mpr ⟨List.mem_of_getElem? (i := 1299) rfl, rfl⟩
set_option maxRecDepth 40000 in
theorem tw_1300 : Cond.methodLink "KitePostModel" 127 ⟨"java/lang/Math", "abs", "(I)I"⟩ ∈ lwg := List.mem_filter.mpr ⟨List.mem_of_getElem? (i := 1300) (by decide +kernel), rfl⟩
set_option maxRecDepth 40000 in
theorem tw_1301 : Cond.methodLink "KitePostModel" 130 ⟨"KitePostModel", "yOf", "(I)I"⟩ ∈ lwg := List.mem_filter.mpr ⟨List.mem_of_getElem? (i := 1301) (by decide +kernel), rfl⟩
set_option maxRecDepth 40000 in
theorem tw_1303 : Cond.instanceMethod ⟨"KitePostModel", "yOf", "(I)I"⟩ ∈ lwg := List.mem_filter.mpr ⟨List.mem_of_getElem? (i := 1303) (by decide +kernel), rfl⟩
set_option maxRecDepth 40000 in
theorem tw_1304 : Cond.code ⟨"KitePostModel", "yOf", "(I)I"⟩ prog_14_method_11_code 2 (some .int) ∈ lwg := List.mem_filter.mpr ⟨List.mem_of_getElem? (i := 1304) rfl, rfl⟩
set_option maxRecDepth 40000 in
theorem tw_1305 : Cond.methodLink "KitePostModel" 139 ⟨"KitePostModel", "lifts", "(IIII)I"⟩ ∈ lwg := List.mem_filter.mpr ⟨List.mem_of_getElem? (i := 1305) (by decide +kernel), rfl⟩
set_option maxRecDepth 40000 in
theorem tw_1307 : Cond.instanceMethod ⟨"KitePostModel", "lifts", "(IIII)I"⟩ ∈ lwg := List.mem_filter.mpr ⟨List.mem_of_getElem? (i := 1307) (by decide +kernel), rfl⟩
set_option maxRecDepth 40000 in
theorem tw_1308 : Cond.code ⟨"KitePostModel", "lifts", "(IIII)I"⟩ prog_14_method_29_code 5 (some .int) ∈ lwg := List.mem_filter.mpr ⟨List.mem_of_getElem? (i := 1308) rfl, rfl⟩
set_option maxRecDepth 40000 in
theorem tw_1309 : Cond.methodLink "KitePostModel" 143 ⟨"KitePostModel", "hasText", "(I)Z"⟩ ∈ lwg := List.mem_filter.mpr ⟨List.mem_of_getElem? (i := 1309) (by decide +kernel), rfl⟩
set_option maxRecDepth 40000 in
theorem tw_1311 : Cond.instanceMethod ⟨"KitePostModel", "hasText", "(I)Z"⟩ ∈ lwg := List.mem_filter.mpr ⟨List.mem_of_getElem? (i := 1311) (by decide +kernel), rfl⟩
set_option maxRecDepth 40000 in
theorem tw_1312 : Cond.code ⟨"KitePostModel", "hasText", "(I)Z"⟩ prog_14_method_50_code 2 (some .boolean) ∈ lwg := List.mem_filter.mpr ⟨List.mem_of_getElem? (i := 1312) rfl, rfl⟩
set_option maxRecDepth 40000 in
theorem tw_1313 : Cond.methodLink "KitePostModel" 146 ⟨"KitePostModel", "given", "(IIIII)I"⟩ ∈ lwg := List.mem_filter.mpr ⟨List.mem_of_getElem? (i := 1313) (by decide +kernel), rfl⟩
set_option maxRecDepth 40000 in
theorem tw_1315 : Cond.instanceMethod ⟨"KitePostModel", "given", "(IIIII)I"⟩ ∈ lwg := List.mem_filter.mpr ⟨List.mem_of_getElem? (i := 1315) (by decide +kernel), rfl⟩
set_option maxRecDepth 40000 in
theorem tw_1316 : Cond.code ⟨"KitePostModel", "given", "(IIIII)I"⟩ prog_14_method_51_code 6 (some .int) ∈ lwg := List.mem_filter.mpr ⟨List.mem_of_getElem? (i := 1316) rfl, rfl⟩
set_option maxRecDepth 40000 in
theorem tw_1317 : Cond.methodLink "KitePostModel" 224 ⟨"KitePostModel", "worked", "(I)I"⟩ ∈ lwg := List.mem_filter.mpr ⟨List.mem_of_getElem? (i := 1317) (by decide +kernel), rfl⟩
set_option maxRecDepth 40000 in
theorem tw_1319 : Cond.instanceMethod ⟨"KitePostModel", "worked", "(I)I"⟩ ∈ lwg := List.mem_filter.mpr ⟨List.mem_of_getElem? (i := 1319) (by decide +kernel), rfl⟩
set_option maxRecDepth 40000 in
theorem tw_1320 : Cond.code ⟨"KitePostModel", "worked", "(I)I"⟩ prog_14_method_49_code 5 (some .int) ∈ lwg := List.mem_filter.mpr ⟨List.mem_of_getElem? (i := 1320) rfl, rfl⟩
set_option maxRecDepth 40000 in
theorem tw_1321 : Cond.methodLink "KitePostModel" 220 ⟨"KitePostModel", "done", "(III)I"⟩ ∈ lwg := List.mem_filter.mpr ⟨List.mem_of_getElem? (i := 1321) (by decide +kernel), rfl⟩
set_option maxRecDepth 40000 in
theorem tw_1322 : Cond.static ⟨"KitePostModel", "done", "(III)I"⟩ ∈ lwg := List.mem_filter.mpr ⟨List.mem_of_getElem? (i := 1322) (by decide +kernel), rfl⟩
set_option maxRecDepth 40000 in
theorem tw_1323 : Cond.code ⟨"KitePostModel", "done", "(III)I"⟩ prog_14_method_48_code 3 (some .int) ∈ lwg := List.mem_filter.mpr ⟨List.mem_of_getElem? (i := 1323) rfl, rfl⟩
set_option maxRecDepth 40000 in
theorem tw_1324 : Cond.methodLink "KitePostModel" 227 ⟨"KitePostModel", "held", "(III)I"⟩ ∈ lwg := List.mem_filter.mpr ⟨List.mem_of_getElem? (i := 1324) (by decide +kernel), rfl⟩
set_option maxRecDepth 40000 in
theorem tw_1325 : Cond.static ⟨"KitePostModel", "held", "(III)I"⟩ ∈ lwg := List.mem_filter.mpr ⟨List.mem_of_getElem? (i := 1325) (by decide +kernel), rfl⟩
set_option maxRecDepth 40000 in
theorem tw_1326 : Cond.code ⟨"KitePostModel", "held", "(III)I"⟩ prog_14_method_5_code 3 (some .int) ∈ lwg := List.mem_filter.mpr ⟨List.mem_of_getElem? (i := 1326) rfl, rfl⟩
set_option maxRecDepth 40000 in
theorem tw_1327 : Cond.methodLink "KitePostModel" 66 ⟨"java/lang/Math", "min", "(II)I"⟩ ∈ lwg := List.mem_filter.mpr ⟨List.mem_of_getElem? (i := 1327) (by decide +kernel), rfl⟩
set_option maxRecDepth 40000 in
theorem tw_1328 : Cond.methodLink "KitePostLaw" 50 ⟨"KitePostModel", "stands", "(III)I"⟩ ∈ lwg := List.mem_filter.mpr ⟨List.mem_of_getElem? (i := 1328) (by decide +kernel), rfl⟩
set_option maxRecDepth 40000 in
theorem tw_1329 : Cond.instanceMethod ⟨"KitePostModel", "stands", "(III)I"⟩ ∈ lwg := List.mem_filter.mpr ⟨List.mem_of_getElem? (i := 1329) (by decide +kernel), rfl⟩
set_option maxRecDepth 40000 in
theorem tw_1330 : Cond.selects "KitePostModel" ⟨"KitePostModel", "stands", "(III)I"⟩ ⟨"KitePostModel", "stands", "(III)I"⟩ ∈ lwg := List.mem_filter.mpr ⟨List.mem_of_getElem? (i := 1330) (by decide +kernel), rfl⟩
set_option maxRecDepth 40000 in
theorem tw_1331 : Cond.code ⟨"KitePostModel", "stands", "(III)I"⟩ prog_14_method_34_code 4 (some .int) ∈ lwg := List.mem_filter.mpr ⟨List.mem_of_getElem? (i := 1331) rfl, rfl⟩
set_option maxRecDepth 40000 in
theorem tw_1332 : Cond.methodLink "KitePostModel" 159 ⟨"KitePostModel", "standsNow", "(III)Z"⟩ ∈ lwg := List.mem_filter.mpr ⟨List.mem_of_getElem? (i := 1332) (by decide +kernel), rfl⟩
set_option maxRecDepth 40000 in
theorem tw_1334 : Cond.instanceMethod ⟨"KitePostModel", "standsNow", "(III)Z"⟩ ∈ lwg := List.mem_filter.mpr ⟨List.mem_of_getElem? (i := 1334) (by decide +kernel), rfl⟩
set_option maxRecDepth 40000 in
theorem tw_1335 : Cond.code ⟨"KitePostModel", "standsNow", "(III)Z"⟩ prog_14_method_31_code 4 (some .boolean) ∈ lwg := List.mem_filter.mpr ⟨List.mem_of_getElem? (i := 1335) rfl, rfl⟩
set_option maxRecDepth 40000 in
theorem tw_1336 : Cond.methodLink "KitePostModel" 152 ⟨"KitePostModel", "standsOver", "(IIIII)Z"⟩ ∈ lwg := List.mem_filter.mpr ⟨List.mem_of_getElem? (i := 1336) (by decide +kernel), rfl⟩
set_option maxRecDepth 40000 in
theorem tw_1338 : Cond.instanceMethod ⟨"KitePostModel", "standsOver", "(IIIII)Z"⟩ ∈ lwg := List.mem_filter.mpr ⟨List.mem_of_getElem? (i := 1338) (by decide +kernel), rfl⟩
set_option maxRecDepth 40000 in
theorem tw_1339 : Cond.code ⟨"KitePostModel", "standsOver", "(IIIII)Z"⟩ prog_14_method_30_code 9 (some .boolean) ∈ lwg := List.mem_filter.mpr ⟨List.mem_of_getElem? (i := 1339) rfl, rfl⟩
set_option maxRecDepth 40000 in
theorem tw_1340 : Cond.methodLink "KitePostLaw" 54 ⟨"KitePostModel", "over", "(III)I"⟩ ∈ lwg := List.mem_filter.mpr ⟨List.mem_of_getElem? (i := 1340) (by decide +kernel), rfl⟩
set_option maxRecDepth 40000 in
theorem tw_1341 : Cond.instanceMethod ⟨"KitePostModel", "over", "(III)I"⟩ ∈ lwg := List.mem_filter.mpr ⟨List.mem_of_getElem? (i := 1341) (by decide +kernel), rfl⟩
set_option maxRecDepth 40000 in
theorem tw_1342 : Cond.selects "KitePostModel" ⟨"KitePostModel", "over", "(III)I"⟩ ⟨"KitePostModel", "over", "(III)I"⟩ ∈ lwg := List.mem_filter.mpr ⟨List.mem_of_getElem? (i := 1342) (by decide +kernel), rfl⟩
set_option maxRecDepth 40000 in
theorem tw_1343 : Cond.code ⟨"KitePostModel", "over", "(III)I"⟩ prog_14_method_35_code 6 (some .int) ∈ lwg := List.mem_filter.mpr ⟨List.mem_of_getElem? (i := 1343) rfl, rfl⟩
set_option maxRecDepth 40000 in
theorem tw_1344 : Cond.methodLink "KitePostLaw" 61 ⟨"KitePostModel", "feed", "(JI)I"⟩ ∈ lwg := List.mem_filter.mpr ⟨List.mem_of_getElem? (i := 1344) (by decide +kernel), rfl⟩
set_option maxRecDepth 40000 in
theorem tw_1345 : Cond.instanceMethod ⟨"KitePostModel", "feed", "(JI)I"⟩ ∈ lwg := List.mem_filter.mpr ⟨List.mem_of_getElem? (i := 1345) (by decide +kernel), rfl⟩
set_option maxRecDepth 40000 in
theorem tw_1346 : Cond.selects "KitePostModel" ⟨"KitePostModel", "feed", "(JI)I"⟩ ⟨"KitePostModel", "feed", "(JI)I"⟩ ∈ lwg := List.mem_filter.mpr ⟨List.mem_of_getElem? (i := 1346) (by decide +kernel), rfl⟩
set_option maxRecDepth 40000 in
theorem tw_1347 : Cond.code ⟨"KitePostModel", "feed", "(JI)I"⟩ prog_14_method_36_code 5 (some .int) ∈ lwg := List.mem_filter.mpr ⟨List.mem_of_getElem? (i := 1347) rfl, rfl⟩
set_option maxRecDepth 40000 in
theorem tw_1348 : Cond.constantLong "KitePostModel" 162 255 ∈ lwg := List.mem_filter.mpr ⟨List.mem_of_getElem? (i := 1348) (by decide +kernel), rfl⟩
set_option maxRecDepth 40000 in
theorem tw_1349 : Cond.methodLink "KitePostLaw" 66 ⟨"KitePostModel", "text", "(I)I"⟩ ∈ lwg := List.mem_filter.mpr ⟨List.mem_of_getElem? (i := 1349) (by decide +kernel), rfl⟩
set_option maxRecDepth 40000 in
theorem tw_1350 : Cond.instanceMethod ⟨"KitePostModel", "text", "(I)I"⟩ ∈ lwg := List.mem_filter.mpr ⟨List.mem_of_getElem? (i := 1350) (by decide +kernel), rfl⟩
set_option maxRecDepth 40000 in
theorem tw_1351 : Cond.selects "KitePostModel" ⟨"KitePostModel", "text", "(I)I"⟩ ⟨"KitePostModel", "text", "(I)I"⟩ ∈ lwg := List.mem_filter.mpr ⟨List.mem_of_getElem? (i := 1351) (by decide +kernel), rfl⟩
set_option maxRecDepth 40000 in
theorem tw_1352 : Cond.code ⟨"KitePostModel", "text", "(I)I"⟩ prog_14_method_47_code 3 (some .int) ∈ lwg := List.mem_filter.mpr ⟨List.mem_of_getElem? (i := 1352) rfl, rfl⟩
set_option maxRecDepth 40000 in
theorem tw_1353 : Cond.methodLink "KitePostModel" 214 ⟨"KitePostModel", "either", "()V"⟩ ∈ lwg := List.mem_filter.mpr ⟨List.mem_of_getElem? (i := 1353) (by decide +kernel), rfl⟩
set_option maxRecDepth 40000 in
theorem tw_1355 : Cond.instanceMethod ⟨"KitePostModel", "either", "()V"⟩ ∈ lwg := List.mem_filter.mpr ⟨List.mem_of_getElem? (i := 1355) (by decide +kernel), rfl⟩
set_option maxRecDepth 40000 in
theorem tw_1356 : Cond.code ⟨"KitePostModel", "either", "()V"⟩ prog_14_method_40_code 1 none ∈ lwg := List.mem_filter.mpr ⟨List.mem_of_getElem? (i := 1356) rfl, rfl⟩
set_option maxRecDepth 40000 in
theorem tw_1357 : Cond.methodLink "KitePostModel" 179 ⟨"KitePostModel", "both", "()V"⟩ ∈ lwg := List.mem_filter.mpr ⟨List.mem_of_getElem? (i := 1357) (by decide +kernel), rfl⟩
set_option maxRecDepth 40000 in
theorem tw_1359 : Cond.instanceMethod ⟨"KitePostModel", "both", "()V"⟩ ∈ lwg := List.mem_filter.mpr ⟨List.mem_of_getElem? (i := 1359) (by decide +kernel), rfl⟩
set_option maxRecDepth 40000 in
theorem tw_1360 : Cond.code ⟨"KitePostModel", "both", "()V"⟩ prog_14_method_41_code 1 none ∈ lwg := List.mem_filter.mpr ⟨List.mem_of_getElem? (i := 1360) rfl, rfl⟩
set_option maxRecDepth 40000 in
theorem tw_1361 : Cond.methodLink "KitePostModel" 189 ⟨"KitePostModel", "compared", "()V"⟩ ∈ lwg := List.mem_filter.mpr ⟨List.mem_of_getElem? (i := 1361) (by decide +kernel), rfl⟩
set_option maxRecDepth 40000 in
theorem tw_1363 : Cond.instanceMethod ⟨"KitePostModel", "compared", "()V"⟩ ∈ lwg := List.mem_filter.mpr ⟨List.mem_of_getElem? (i := 1363) (by decide +kernel), rfl⟩
set_option maxRecDepth 40000 in
theorem tw_1364 : Cond.code ⟨"KitePostModel", "compared", "()V"⟩ prog_14_method_42_code 2 none ∈ lwg := List.mem_filter.mpr ⟨List.mem_of_getElem? (i := 1364) rfl, rfl⟩
set_option maxRecDepth 40000 in
theorem tw_1365 : Cond.methodLink "KitePostModel" 192 ⟨"KitePostModel", "sum", "()V"⟩ ∈ lwg := List.mem_filter.mpr ⟨List.mem_of_getElem? (i := 1365) (by decide +kernel), rfl⟩
set_option maxRecDepth 40000 in
theorem tw_1367 : Cond.instanceMethod ⟨"KitePostModel", "sum", "()V"⟩ ∈ lwg := List.mem_filter.mpr ⟨List.mem_of_getElem? (i := 1367) (by decide +kernel), rfl⟩
set_option maxRecDepth 40000 in
theorem tw_1368 : Cond.code ⟨"KitePostModel", "sum", "()V"⟩ prog_14_method_43_code 2 none ∈ lwg := List.mem_filter.mpr ⟨List.mem_of_getElem? (i := 1368) rfl, rfl⟩
set_option maxRecDepth 40000 in
theorem tw_1369 : Cond.methodLink "KitePostModel" 195 ⟨"KitePostModel", "product", "()V"⟩ ∈ lwg := List.mem_filter.mpr ⟨List.mem_of_getElem? (i := 1369) (by decide +kernel), rfl⟩
set_option maxRecDepth 40000 in
theorem tw_1371 : Cond.instanceMethod ⟨"KitePostModel", "product", "()V"⟩ ∈ lwg := List.mem_filter.mpr ⟨List.mem_of_getElem? (i := 1371) (by decide +kernel), rfl⟩
set_option maxRecDepth 40000 in
theorem tw_1372 : Cond.code ⟨"KitePostModel", "product", "()V"⟩ prog_14_method_44_code 2 none ∈ lwg := List.mem_filter.mpr ⟨List.mem_of_getElem? (i := 1372) rfl, rfl⟩
set_option maxRecDepth 40000 in
theorem tw_1373 : Cond.methodLink "KitePostModel" 198 ⟨"KitePostModel", "one", "()V"⟩ ∈ lwg := List.mem_filter.mpr ⟨List.mem_of_getElem? (i := 1373) (by decide +kernel), rfl⟩
set_option maxRecDepth 40000 in
theorem tw_1375 : Cond.instanceMethod ⟨"KitePostModel", "one", "()V"⟩ ∈ lwg := List.mem_filter.mpr ⟨List.mem_of_getElem? (i := 1375) (by decide +kernel), rfl⟩
set_option maxRecDepth 40000 in
theorem tw_1376 : Cond.code ⟨"KitePostModel", "one", "()V"⟩ prog_14_method_46_code 4 none ∈ lwg := List.mem_filter.mpr ⟨List.mem_of_getElem? (i := 1376) rfl, rfl⟩
set_option maxRecDepth 40000 in
theorem tw_1377 : Cond.methodLink "KitePostModel" 172 ⟨"KitePostModel", "here", "()I"⟩ ∈ lwg := List.mem_filter.mpr ⟨List.mem_of_getElem? (i := 1377) (by decide +kernel), rfl⟩
set_option maxRecDepth 40000 in
theorem tw_1379 : Cond.instanceMethod ⟨"KitePostModel", "here", "()I"⟩ ∈ lwg := List.mem_filter.mpr ⟨List.mem_of_getElem? (i := 1379) (by decide +kernel), rfl⟩
set_option maxRecDepth 40000 in
theorem tw_1380 : Cond.code ⟨"KitePostModel", "here", "()I"⟩ prog_14_method_37_code 1 (some .int) ∈ lwg := List.mem_filter.mpr ⟨List.mem_of_getElem? (i := 1380) rfl, rfl⟩
set_option maxRecDepth 40000 in
theorem tw_1381 : Cond.methodLink "KitePostModel" 185 ⟨"KitePostModel", "codes", "(I)V"⟩ ∈ lwg := List.mem_filter.mpr ⟨List.mem_of_getElem? (i := 1381) (by decide +kernel), rfl⟩
set_option maxRecDepth 40000 in
theorem tw_1383 : Cond.instanceMethod ⟨"KitePostModel", "codes", "(I)V"⟩ ∈ lwg := List.mem_filter.mpr ⟨List.mem_of_getElem? (i := 1383) (by decide +kernel), rfl⟩
set_option maxRecDepth 40000 in
theorem tw_1384 : Cond.code ⟨"KitePostModel", "codes", "(I)V"⟩ prog_14_method_39_code 2 none ∈ lwg := List.mem_filter.mpr ⟨List.mem_of_getElem? (i := 1384) rfl, rfl⟩
set_option maxRecDepth 40000 in
theorem tw_1385 : Cond.methodLink "KitePostModel" 182 ⟨"KitePostModel", "takes", "(I)Z"⟩ ∈ lwg := List.mem_filter.mpr ⟨List.mem_of_getElem? (i := 1385) (by decide +kernel), rfl⟩
set_option maxRecDepth 40000 in
theorem tw_1387 : Cond.instanceMethod ⟨"KitePostModel", "takes", "(I)Z"⟩ ∈ lwg := List.mem_filter.mpr ⟨List.mem_of_getElem? (i := 1387) (by decide +kernel), rfl⟩
set_option maxRecDepth 40000 in
theorem tw_1388 : Cond.code ⟨"KitePostModel", "takes", "(I)Z"⟩ prog_14_method_38_code 3 (some .boolean) ∈ lwg := List.mem_filter.mpr ⟨List.mem_of_getElem? (i := 1388) rfl, rfl⟩
set_option maxRecDepth 40000 in
theorem tw_1389 : Cond.methodLink "KitePostModel" 217 ⟨"KitePostModel", "nameOf", "(I)I"⟩ ∈ lwg := List.mem_filter.mpr ⟨List.mem_of_getElem? (i := 1389) (by decide +kernel), rfl⟩
set_option maxRecDepth 40000 in
theorem tw_1391 : Cond.instanceMethod ⟨"KitePostModel", "nameOf", "(I)I"⟩ ∈ lwg := List.mem_filter.mpr ⟨List.mem_of_getElem? (i := 1391) (by decide +kernel), rfl⟩
set_option maxRecDepth 40000 in
theorem tw_1392 : Cond.code ⟨"KitePostModel", "nameOf", "(I)I"⟩ prog_14_method_45_code 4 (some .int) ∈ lwg := List.mem_filter.mpr ⟨List.mem_of_getElem? (i := 1392) rfl, rfl⟩
set_option maxRecDepth 40000 in
theorem tw_1393 : Cond.methodLink "KitePostModel" 204 ⟨"java/lang/String", "length", "()I"⟩ ∈ lwg := List.mem_filter.mpr ⟨List.mem_of_getElem? (i := 1393) (by decide +kernel), rfl⟩
set_option maxRecDepth 40000 in
theorem tw_1394 : Cond.methodLink "KitePostModel" 207 ⟨"java/lang/String", "charAt", "(I)C"⟩ ∈ lwg := List.mem_filter.mpr ⟨List.mem_of_getElem? (i := 1394) (by decide +kernel), rfl⟩
set_option maxRecDepth 40000 in
theorem tw_1395 : Cond.instanceMethod ⟨"java/lang/String", "charAt", "(I)C"⟩ ∈ lwg := List.mem_filter.mpr ⟨List.mem_of_getElem? (i := 1395) (by decide +kernel), rfl⟩
set_option maxRecDepth 40000 in
theorem tw_1396 : Cond.selects "java/lang/String" ⟨"java/lang/String", "charAt", "(I)C"⟩ ⟨"java/lang/String", "charAt", "(I)C"⟩ ∈ lwg := List.mem_filter.mpr ⟨List.mem_of_getElem? (i := 1396) (by decide +kernel), rfl⟩
set_option maxRecDepth 40000 in
theorem tw_1397 : Cond.code ⟨"java/lang/String", "charAt", "(I)C"⟩ prog_17_method_56_code 2 (some .char) ∈ lwg := List.mem_filter.mpr ⟨List.mem_of_getElem? (i := 1397) rfl, rfl⟩
set_option maxRecDepth 40000 in
theorem tw_1398 : Cond.methodLink "java/lang/String" 495 ⟨"java/lang/StringLatin1", "charAt", "([BI)C"⟩ ∈ lwg := List.mem_filter.mpr ⟨List.mem_of_getElem? (i := 1398) (by decide +kernel), rfl⟩
set_option maxRecDepth 40000 in
theorem tw_1399 : Cond.static ⟨"java/lang/StringLatin1", "charAt", "([BI)C"⟩ ∈ lwg := List.mem_filter.mpr ⟨List.mem_of_getElem? (i := 1399) (by decide +kernel), rfl⟩
set_option maxRecDepth 40000 in
theorem tw_1400 : Cond.code ⟨"java/lang/StringLatin1", "charAt", "([BI)C"⟩ prog_18_method_2_code 2 (some .char) ∈ lwg := List.mem_filter.mpr ⟨List.mem_of_getElem? (i := 1400) rfl, rfl⟩
set_option maxRecDepth 40000 in
theorem tw_1401 : Cond.methodLink "java/lang/StringLatin1" 9 ⟨"java/lang/String", "checkIndex", "(II)V"⟩ ∈ lwg := List.mem_filter.mpr ⟨List.mem_of_getElem? (i := 1401) (by decide +kernel), rfl⟩
set_option maxRecDepth 40000 in
theorem tw_1402 : Cond.static ⟨"java/lang/String", "checkIndex", "(II)V"⟩ ∈ lwg := List.mem_filter.mpr ⟨List.mem_of_getElem? (i := 1402) (by decide +kernel), rfl⟩
set_option maxRecDepth 40000 in
theorem tw_1403 : Cond.code ⟨"java/lang/String", "checkIndex", "(II)V"⟩ prog_17_method_155_code 2 none ∈ lwg := List.mem_filter.mpr ⟨List.mem_of_getElem? (i := 1403) rfl, rfl⟩
set_option maxRecDepth 40000 in
theorem tw_1404 : Cond.methodLink "java/lang/String" 1059 ⟨"jdk/internal/util/Preconditions", "checkIndex", "(IILjava/util/function/BiFunction;)I"⟩ ∈ lwg := List.mem_filter.mpr ⟨List.mem_of_getElem? (i := 1404) (by decide +kernel), rfl⟩
set_option maxRecDepth 40000 in
theorem tw_1405 : Cond.static ⟨"jdk/internal/util/Preconditions", "checkIndex", "(IILjava/util/function/BiFunction;)I"⟩ ∈ lwg := List.mem_filter.mpr ⟨List.mem_of_getElem? (i := 1405) (by decide +kernel), rfl⟩
set_option maxRecDepth 40000 in
theorem tw_1406 : Cond.code ⟨"jdk/internal/util/Preconditions", "checkIndex", "(IILjava/util/function/BiFunction;)I"⟩ prog_22_method_11_code 3 (some .int) ∈ lwg := List.mem_filter.mpr ⟨List.mem_of_getElem? (i := 1406) rfl, rfl⟩
set_option maxRecDepth 40000 in
theorem tw_1407 : Cond.methodLink "java/lang/String" 498 ⟨"java/lang/StringUTF16", "charAt", "([BI)C"⟩ ∈ lwg := List.mem_filter.mpr ⟨List.mem_of_getElem? (i := 1407) (by decide +kernel), rfl⟩
set_option maxRecDepth 40000 in
theorem tw_1408 : Cond.static ⟨"java/lang/StringUTF16", "charAt", "([BI)C"⟩ ∈ lwg := List.mem_filter.mpr ⟨List.mem_of_getElem? (i := 1408) (by decide +kernel), rfl⟩
set_option maxRecDepth 40000 in
theorem tw_1409 : Cond.code ⟨"java/lang/StringUTF16", "charAt", "([BI)C"⟩ prog_19_method_83_code 2 (some .char) ∈ lwg := List.mem_filter.mpr ⟨List.mem_of_getElem? (i := 1409) rfl, rfl⟩
set_option maxRecDepth 40000 in
theorem tw_1410 : Cond.methodLink "java/lang/StringUTF16" 67 ⟨"java/lang/StringUTF16", "checkIndex", "(I[B)V"⟩ ∈ lwg := List.mem_filter.mpr ⟨List.mem_of_getElem? (i := 1410) (by decide +kernel), rfl⟩
set_option maxRecDepth 40000 in
theorem tw_1411 : Cond.static ⟨"java/lang/StringUTF16", "checkIndex", "(I[B)V"⟩ ∈ lwg := List.mem_filter.mpr ⟨List.mem_of_getElem? (i := 1411) (by decide +kernel), rfl⟩
set_option maxRecDepth 40000 in
theorem tw_1412 : Cond.code ⟨"java/lang/StringUTF16", "checkIndex", "(I[B)V"⟩ prog_19_method_91_code 2 none ∈ lwg := List.mem_filter.mpr ⟨List.mem_of_getElem? (i := 1412) rfl, rfl⟩
set_option maxRecDepth 40000 in
theorem tw_1413 : Cond.methodLink "java/lang/StringUTF16" 414 ⟨"java/lang/String", "checkIndex", "(II)V"⟩ ∈ lwg := List.mem_filter.mpr ⟨List.mem_of_getElem? (i := 1413) (by decide +kernel), rfl⟩
set_option maxRecDepth 40000 in
theorem tw_1414 : Cond.methodLink "KitePostLaw" 71 ⟨"KitePostModel", "law", "(IIIII)I"⟩ ∈ lwg := List.mem_filter.mpr ⟨List.mem_of_getElem? (i := 1414) (by decide +kernel), rfl⟩
set_option maxRecDepth 40000 in
theorem tw_1415 : Cond.instanceMethod ⟨"KitePostModel", "law", "(IIIII)I"⟩ ∈ lwg := List.mem_filter.mpr ⟨List.mem_of_getElem? (i := 1415) (by decide +kernel), rfl⟩
set_option maxRecDepth 40000 in
theorem tw_1416 : Cond.selects "KitePostModel" ⟨"KitePostModel", "law", "(IIIII)I"⟩ ⟨"KitePostModel", "law", "(IIIII)I"⟩ ∈ lwg := List.mem_filter.mpr ⟨List.mem_of_getElem? (i := 1416) (by decide +kernel), rfl⟩
set_option maxRecDepth 40000 in
theorem tw_1417 : Cond.code ⟨"KitePostModel", "law", "(IIIII)I"⟩ prog_14_method_52_code 6 (some .int) ∈ lwg := List.mem_filter.mpr ⟨List.mem_of_getElem? (i := 1417) rfl, rfl⟩
set_option maxRecDepth 40000 in
theorem tw_1418 : Cond.methodLink "KitePostLaw" 75 ⟨"KitePostModel", "cross", "(II)I"⟩ ∈ lwg := List.mem_filter.mpr ⟨List.mem_of_getElem? (i := 1418) (by decide +kernel), rfl⟩
set_option maxRecDepth 40000 in
theorem tw_1419 : Cond.instanceMethod ⟨"KitePostModel", "cross", "(II)I"⟩ ∈ lwg := List.mem_filter.mpr ⟨List.mem_of_getElem? (i := 1419) (by decide +kernel), rfl⟩
set_option maxRecDepth 40000 in
theorem tw_1420 : Cond.selects "KitePostModel" ⟨"KitePostModel", "cross", "(II)I"⟩ ⟨"KitePostModel", "cross", "(II)I"⟩ ∈ lwg := List.mem_filter.mpr ⟨List.mem_of_getElem? (i := 1420) (by decide +kernel), rfl⟩
set_option maxRecDepth 40000 in
theorem tw_1421 : Cond.code ⟨"KitePostModel", "cross", "(II)I"⟩ prog_14_method_58_code 3 (some .int) ∈ lwg := List.mem_filter.mpr ⟨List.mem_of_getElem? (i := 1421) rfl, rfl⟩
set_option maxRecDepth 40000 in
theorem tw_1422 : Cond.methodLink "KitePostModel" 240 ⟨"KitePostModel", "hasLine", "(I)Z"⟩ ∈ lwg := List.mem_filter.mpr ⟨List.mem_of_getElem? (i := 1422) (by decide +kernel), rfl⟩
set_option maxRecDepth 40000 in
theorem tw_1424 : Cond.instanceMethod ⟨"KitePostModel", "hasLine", "(I)Z"⟩ ∈ lwg := List.mem_filter.mpr ⟨List.mem_of_getElem? (i := 1424) (by decide +kernel), rfl⟩
set_option maxRecDepth 40000 in
theorem tw_1425 : Cond.code ⟨"KitePostModel", "hasLine", "(I)Z"⟩ prog_14_method_53_code 2 (some .boolean) ∈ lwg := List.mem_filter.mpr ⟨List.mem_of_getElem? (i := 1425) rfl, rfl⟩
set_option maxRecDepth 40000 in
theorem tw_1426 : Cond.methodLink "KitePostModel" 243 ⟨"KitePostModel", "crossEachOther", "(II)Z"⟩ ∈ lwg := List.mem_filter.mpr ⟨List.mem_of_getElem? (i := 1426) (by decide +kernel), rfl⟩
set_option maxRecDepth 40000 in
theorem tw_1428 : Cond.instanceMethod ⟨"KitePostModel", "crossEachOther", "(II)Z"⟩ ∈ lwg := List.mem_filter.mpr ⟨List.mem_of_getElem? (i := 1428) (by decide +kernel), rfl⟩
set_option maxRecDepth 40000 in
theorem tw_1429 : Cond.code ⟨"KitePostModel", "crossEachOther", "(II)Z"⟩ prog_14_method_57_code 3 (some .boolean) ∈ lwg := List.mem_filter.mpr ⟨List.mem_of_getElem? (i := 1429) rfl, rfl⟩
set_option maxRecDepth 40000 in
theorem tw_1430 : Cond.methodLink "KitePostModel" 237 ⟨"KitePostModel", "haveMore", "(IIII)Z"⟩ ∈ lwg := List.mem_filter.mpr ⟨List.mem_of_getElem? (i := 1430) (by decide +kernel), rfl⟩
set_option maxRecDepth 40000 in
theorem tw_1432 : Cond.instanceMethod ⟨"KitePostModel", "haveMore", "(IIII)Z"⟩ ∈ lwg := List.mem_filter.mpr ⟨List.mem_of_getElem? (i := 1432) (by decide +kernel), rfl⟩
set_option maxRecDepth 40000 in
theorem tw_1433 : Cond.code ⟨"KitePostModel", "haveMore", "(IIII)Z"⟩ prog_14_method_55_code 6 (some .boolean) ∈ lwg := List.mem_filter.mpr ⟨List.mem_of_getElem? (i := 1433) rfl, rfl⟩
set_option maxRecDepth 40000 in
theorem tw_1434 : Cond.methodLink "KitePostModel" 230 ⟨"KitePostModel", "sideOf", "(III)I"⟩ ∈ lwg := List.mem_filter.mpr ⟨List.mem_of_getElem? (i := 1434) (by decide +kernel), rfl⟩
set_option maxRecDepth 40000 in
theorem tw_1436 : Cond.instanceMethod ⟨"KitePostModel", "sideOf", "(III)I"⟩ ∈ lwg := List.mem_filter.mpr ⟨List.mem_of_getElem? (i := 1436) (by decide +kernel), rfl⟩
set_option maxRecDepth 40000 in
theorem tw_1437 : Cond.code ⟨"KitePostModel", "sideOf", "(III)I"⟩ prog_14_method_54_code 5 (some .int) ∈ lwg := List.mem_filter.mpr ⟨List.mem_of_getElem? (i := 1437) rfl, rfl⟩
set_option maxRecDepth 40000 in
theorem tw_1438 : Cond.methodLink "KitePostModel" 233 ⟨"KitePostModel", "overlap", "(IIII)Z"⟩ ∈ lwg := List.mem_filter.mpr ⟨List.mem_of_getElem? (i := 1438) (by decide +kernel), rfl⟩
set_option maxRecDepth 40000 in
theorem tw_1440 : Cond.instanceMethod ⟨"KitePostModel", "overlap", "(IIII)Z"⟩ ∈ lwg := List.mem_filter.mpr ⟨List.mem_of_getElem? (i := 1440) (by decide +kernel), rfl⟩
set_option maxRecDepth 40000 in
theorem tw_1441 : Cond.code ⟨"KitePostModel", "overlap", "(IIII)Z"⟩ prog_14_method_56_code 9 (some .boolean) ∈ lwg := List.mem_filter.mpr ⟨List.mem_of_getElem? (i := 1441) rfl, rfl⟩
set_option maxRecDepth 40000 in
theorem tw_1442 : Cond.methodLink "KitePostLaw" 79 ⟨"KitePostModel", "lines", "(I)I"⟩ ∈ lwg := List.mem_filter.mpr ⟨List.mem_of_getElem? (i := 1442) (by decide +kernel), rfl⟩
set_option maxRecDepth 40000 in
theorem tw_1443 : Cond.instanceMethod ⟨"KitePostModel", "lines", "(I)I"⟩ ∈ lwg := List.mem_filter.mpr ⟨List.mem_of_getElem? (i := 1443) (by decide +kernel), rfl⟩
set_option maxRecDepth 40000 in
theorem tw_1444 : Cond.selects "KitePostModel" ⟨"KitePostModel", "lines", "(I)I"⟩ ⟨"KitePostModel", "lines", "(I)I"⟩ ∈ lwg := List.mem_filter.mpr ⟨List.mem_of_getElem? (i := 1444) (by decide +kernel), rfl⟩
set_option maxRecDepth 40000 in
theorem tw_1445 : Cond.code ⟨"KitePostModel", "lines", "(I)I"⟩ prog_14_method_62_code 3 (some .int) ∈ lwg := List.mem_filter.mpr ⟨List.mem_of_getElem? (i := 1445) rfl, rfl⟩
set_option maxRecDepth 40000 in
theorem tw_1446 : Cond.methodLink "KitePostModel" 252 ⟨"KitePostModel", "haveLines", "()I"⟩ ∈ lwg := List.mem_filter.mpr ⟨List.mem_of_getElem? (i := 1446) (by decide +kernel), rfl⟩
set_option maxRecDepth 40000 in
theorem tw_1448 : Cond.instanceMethod ⟨"KitePostModel", "haveLines", "()I"⟩ ∈ lwg := List.mem_filter.mpr ⟨List.mem_of_getElem? (i := 1448) (by decide +kernel), rfl⟩
set_option maxRecDepth 40000 in
theorem tw_1449 : Cond.code ⟨"KitePostModel", "haveLines", "()I"⟩ prog_14_method_59_code 3 (some .int) ∈ lwg := List.mem_filter.mpr ⟨List.mem_of_getElem? (i := 1449) rfl, rfl⟩
set_option maxRecDepth 40000 in
theorem tw_1450 : Cond.methodLink "KitePostModel" 255 ⟨"KitePostModel", "stayUp", "(I)I"⟩ ∈ lwg := List.mem_filter.mpr ⟨List.mem_of_getElem? (i := 1450) (by decide +kernel), rfl⟩
set_option maxRecDepth 40000 in
theorem tw_1452 : Cond.instanceMethod ⟨"KitePostModel", "stayUp", "(I)I"⟩ ∈ lwg := List.mem_filter.mpr ⟨List.mem_of_getElem? (i := 1452) (by decide +kernel), rfl⟩
set_option maxRecDepth 40000 in
theorem tw_1453 : Cond.code ⟨"KitePostModel", "stayUp", "(I)I"⟩ prog_14_method_61_code 7 (some .int) ∈ lwg := List.mem_filter.mpr ⟨List.mem_of_getElem? (i := 1453) rfl, rfl⟩
set_option maxRecDepth 40000 in
theorem tw_1454 : Cond.methodLink "KitePostModel" 246 ⟨"KitePostModel", "hasBit", "(II)Z"⟩ ∈ lwg := List.mem_filter.mpr ⟨List.mem_of_getElem? (i := 1454) (by decide +kernel), rfl⟩
set_option maxRecDepth 40000 in
theorem tw_1455 : Cond.static ⟨"KitePostModel", "hasBit", "(II)Z"⟩ ∈ lwg := List.mem_filter.mpr ⟨List.mem_of_getElem? (i := 1455) (by decide +kernel), rfl⟩
set_option maxRecDepth 40000 in
theorem tw_1456 : Cond.code ⟨"KitePostModel", "hasBit", "(II)Z"⟩ prog_14_method_4_code 2 (some .boolean) ∈ lwg := List.mem_filter.mpr ⟨List.mem_of_getElem? (i := 1456) rfl, rfl⟩
set_option maxRecDepth 40000 in
theorem tw_1457 : Cond.methodLink "KitePostModel" 249 ⟨"KitePostModel", "isAheadOf", "(II)Z"⟩ ∈ lwg := List.mem_filter.mpr ⟨List.mem_of_getElem? (i := 1457) (by decide +kernel), rfl⟩
set_option maxRecDepth 40000 in
theorem tw_1459 : Cond.instanceMethod ⟨"KitePostModel", "isAheadOf", "(II)Z"⟩ ∈ lwg := List.mem_filter.mpr ⟨List.mem_of_getElem? (i := 1459) (by decide +kernel), rfl⟩
set_option maxRecDepth 40000 in
theorem tw_1460 : Cond.code ⟨"KitePostModel", "isAheadOf", "(II)Z"⟩ prog_14_method_60_code 3 (some .boolean) ∈ lwg := List.mem_filter.mpr ⟨List.mem_of_getElem? (i := 1460) rfl, rfl⟩
set_option maxRecDepth 40000 in
theorem tw_1461 : Cond.methodLink "KitePostLaw" 84 ⟨"KitePostModel", "letter", "(IIII)I"⟩ ∈ lwg := List.mem_filter.mpr ⟨List.mem_of_getElem? (i := 1461) (by decide +kernel), rfl⟩
set_option maxRecDepth 40000 in
theorem tw_1462 : Cond.instanceMethod ⟨"KitePostModel", "letter", "(IIII)I"⟩ ∈ lwg := List.mem_filter.mpr ⟨List.mem_of_getElem? (i := 1462) (by decide +kernel), rfl⟩
set_option maxRecDepth 40000 in
theorem tw_1463 : Cond.selects "KitePostModel" ⟨"KitePostModel", "letter", "(IIII)I"⟩ ⟨"KitePostModel", "letter", "(IIII)I"⟩ ∈ lwg := List.mem_filter.mpr ⟨List.mem_of_getElem? (i := 1463) (by decide +kernel), rfl⟩
set_option maxRecDepth 40000 in
theorem tw_1464 : Cond.code ⟨"KitePostModel", "letter", "(IIII)I"⟩ prog_14_method_64_code 8 (some .int) ∈ lwg := List.mem_filter.mpr ⟨List.mem_of_getElem? (i := 1464) rfl, rfl⟩
set_option maxRecDepth 40000 in
theorem tw_1465 : Cond.methodLink "KitePostLaw" 88 ⟨"KitePostModel", "ofLetter", "(II)I"⟩ ∈ lwg := List.mem_filter.mpr ⟨List.mem_of_getElem? (i := 1465) (by decide +kernel), rfl⟩
set_option maxRecDepth 40000 in
theorem tw_1466 : Cond.instanceMethod ⟨"KitePostModel", "ofLetter", "(II)I"⟩ ∈ lwg := List.mem_filter.mpr ⟨List.mem_of_getElem? (i := 1466) (by decide +kernel), rfl⟩
set_option maxRecDepth 40000 in
theorem tw_1467 : Cond.selects "KitePostModel" ⟨"KitePostModel", "ofLetter", "(II)I"⟩ ⟨"KitePostModel", "ofLetter", "(II)I"⟩ ∈ lwg := List.mem_filter.mpr ⟨List.mem_of_getElem? (i := 1467) (by decide +kernel), rfl⟩
set_option maxRecDepth 40000 in
theorem tw_1468 : Cond.code ⟨"KitePostModel", "ofLetter", "(II)I"⟩ prog_14_method_65_code 3 (some .int) ∈ lwg := List.mem_filter.mpr ⟨List.mem_of_getElem? (i := 1468) rfl, rfl⟩
set_option maxRecDepth 40000 in
theorem tw_1469 : Cond.methodLink "KitePostLaw" 92 ⟨"KitePostModel", "hours", "(I)I"⟩ ∈ lwg := List.mem_filter.mpr ⟨List.mem_of_getElem? (i := 1469) (by decide +kernel), rfl⟩
set_option maxRecDepth 40000 in
theorem tw_1470 : Cond.instanceMethod ⟨"KitePostModel", "hours", "(I)I"⟩ ∈ lwg := List.mem_filter.mpr ⟨List.mem_of_getElem? (i := 1470) (by decide +kernel), rfl⟩
set_option maxRecDepth 40000 in
theorem tw_1471 : Cond.selects "KitePostModel" ⟨"KitePostModel", "hours", "(I)I"⟩ ⟨"KitePostModel", "hours", "(I)I"⟩ ∈ lwg := List.mem_filter.mpr ⟨List.mem_of_getElem? (i := 1471) (by decide +kernel), rfl⟩
set_option maxRecDepth 40000 in
theorem tw_1472 : Cond.code ⟨"KitePostModel", "hours", "(I)I"⟩ prog_14_method_71_code 2 (some .int) ∈ lwg := List.mem_filter.mpr ⟨List.mem_of_getElem? (i := 1472) rfl, rfl⟩
set_option maxRecDepth 40000 in
theorem tw_1473 : Cond.methodLink "KitePostModel" 269 ⟨"KitePostModel", "isSpan", "(I)Z"⟩ ∈ lwg := List.mem_filter.mpr ⟨List.mem_of_getElem? (i := 1473) (by decide +kernel), rfl⟩
set_option maxRecDepth 40000 in
theorem tw_1474 : Cond.static ⟨"KitePostModel", "isSpan", "(I)Z"⟩ ∈ lwg := List.mem_filter.mpr ⟨List.mem_of_getElem? (i := 1474) (by decide +kernel), rfl⟩
set_option maxRecDepth 40000 in
theorem tw_1475 : Cond.code ⟨"KitePostModel", "isSpan", "(I)Z"⟩ prog_14_method_70_code 1 (some .boolean) ∈ lwg := List.mem_filter.mpr ⟨List.mem_of_getElem? (i := 1475) rfl, rfl⟩
set_option maxRecDepth 40000 in
theorem tw_1476 : Cond.methodLink "KitePostModel" 272 ⟨"KitePostModel", "hoursGo", "(I)V"⟩ ∈ lwg := List.mem_filter.mpr ⟨List.mem_of_getElem? (i := 1476) (by decide +kernel), rfl⟩
set_option maxRecDepth 40000 in
theorem tw_1478 : Cond.instanceMethod ⟨"KitePostModel", "hoursGo", "(I)V"⟩ ∈ lwg := List.mem_filter.mpr ⟨List.mem_of_getElem? (i := 1478) (by decide +kernel), rfl⟩
set_option maxRecDepth 40000 in
theorem tw_1479 : Cond.code ⟨"KitePostModel", "hoursGo", "(I)V"⟩ prog_14_method_69_code 3 none ∈ lwg := List.mem_filter.mpr ⟨List.mem_of_getElem? (i := 1479) rfl, rfl⟩
set_option maxRecDepth 40000 in
theorem tw_1480 : Cond.methodLink "KitePostModel" 266 ⟨"KitePostModel", "hour", "()V"⟩ ∈ lwg := List.mem_filter.mpr ⟨List.mem_of_getElem? (i := 1480) (by decide +kernel), rfl⟩
set_option maxRecDepth 40000 in
theorem tw_1482 : Cond.instanceMethod ⟨"KitePostModel", "hour", "()V"⟩ ∈ lwg := List.mem_filter.mpr ⟨List.mem_of_getElem? (i := 1482) (by decide +kernel), rfl⟩
set_option maxRecDepth 40000 in
theorem tw_1483 : Cond.code ⟨"KitePostModel", "hour", "()V"⟩ prog_14_method_67_code 4 none ∈ lwg := List.mem_filter.mpr ⟨List.mem_of_getElem? (i := 1483) rfl, rfl⟩
set_option maxRecDepth 40000 in
theorem tw_1484 : Cond.methodLink "KitePostModel" 259 ⟨"KitePostModel", "takesUp", "(II)I"⟩ ∈ lwg := List.mem_filter.mpr ⟨List.mem_of_getElem? (i := 1484) (by decide +kernel), rfl⟩
set_option maxRecDepth 40000 in
theorem tw_1486 : Cond.instanceMethod ⟨"KitePostModel", "takesUp", "(II)I"⟩ ∈ lwg := List.mem_filter.mpr ⟨List.mem_of_getElem? (i := 1486) (by decide +kernel), rfl⟩
set_option maxRecDepth 40000 in
theorem tw_1487 : Cond.code ⟨"KitePostModel", "takesUp", "(II)I"⟩ prog_14_method_68_code 8 (some .int) ∈ lwg := List.mem_filter.mpr ⟨List.mem_of_getElem? (i := 1487) rfl, rfl⟩
set_option maxRecDepth 40000 in
theorem tw_1488 : Cond.methodLink "KitePostModel" 262 ⟨"KitePostModel", "comesTo", "(II)V"⟩ ∈ lwg := List.mem_filter.mpr ⟨List.mem_of_getElem? (i := 1488) (by decide +kernel), rfl⟩
set_option maxRecDepth 40000 in
theorem tw_1490 : Cond.instanceMethod ⟨"KitePostModel", "comesTo", "(II)V"⟩ ∈ lwg := List.mem_filter.mpr ⟨List.mem_of_getElem? (i := 1490) (by decide +kernel), rfl⟩
set_option maxRecDepth 40000 in
theorem tw_1491 : Cond.code ⟨"KitePostModel", "comesTo", "(II)V"⟩ prog_14_method_66_code 5 none ∈ lwg := List.mem_filter.mpr ⟨List.mem_of_getElem? (i := 1491) rfl, rfl⟩
set_option maxRecDepth 40000 in
theorem tw_1492 : Cond.constant "KitePostModel" 258 999999 ∈ lwg := List.mem_filter.mpr ⟨List.mem_of_getElem? (i := 1492) (by decide +kernel), rfl⟩
set_option maxRecDepth 40000 in
theorem tw_1493 : Cond.methodLink "KitePostLaw" 96 ⟨"KitePostModel", "loose", "(II)I"⟩ ∈ lwg := List.mem_filter.mpr ⟨List.mem_of_getElem? (i := 1493) (by decide +kernel), rfl⟩
set_option maxRecDepth 40000 in
theorem tw_1494 : Cond.instanceMethod ⟨"KitePostModel", "loose", "(II)I"⟩ ∈ lwg := List.mem_filter.mpr ⟨List.mem_of_getElem? (i := 1494) (by decide +kernel), rfl⟩
set_option maxRecDepth 40000 in
theorem tw_1495 : Cond.selects "KitePostModel" ⟨"KitePostModel", "loose", "(II)I"⟩ ⟨"KitePostModel", "loose", "(II)I"⟩ ∈ lwg := List.mem_filter.mpr ⟨List.mem_of_getElem? (i := 1495) (by decide +kernel), rfl⟩
set_option maxRecDepth 40000 in
theorem tw_1496 : Cond.code ⟨"KitePostModel", "loose", "(II)I"⟩ prog_14_method_73_code 4 (some .int) ∈ lwg := List.mem_filter.mpr ⟨List.mem_of_getElem? (i := 1496) rfl, rfl⟩
set_option maxRecDepth 40000 in
theorem tw_1497 : Cond.methodLink "KitePostModel" 276 ⟨"KitePostModel", "drawn", "(I)I"⟩ ∈ lwg := List.mem_filter.mpr ⟨List.mem_of_getElem? (i := 1497) (by decide +kernel), rfl⟩
set_option maxRecDepth 40000 in
theorem tw_1499 : Cond.instanceMethod ⟨"KitePostModel", "drawn", "(I)I"⟩ ∈ lwg := List.mem_filter.mpr ⟨List.mem_of_getElem? (i := 1499) (by decide +kernel), rfl⟩
set_option maxRecDepth 40000 in
theorem tw_1500 : Cond.code ⟨"KitePostModel", "drawn", "(I)I"⟩ prog_14_method_72_code 2 (some .int) ∈ lwg := List.mem_filter.mpr ⟨List.mem_of_getElem? (i := 1500) rfl, rfl⟩
set_option maxRecDepth 40000 in
theorem tw_1501 : Cond.constant "KitePostModel" 275 1103515245 ∈ lwg := List.mem_filter.mpr ⟨List.mem_of_getElem? (i := 1501) (by decide +kernel), rfl⟩
set_option maxRecDepth 40000 in
theorem tw_1502 : Cond.methodLink "KitePostLaw" 100 ⟨"KitePostModel", "then", "(II)I"⟩ ∈ lwg := List.mem_filter.mpr ⟨List.mem_of_getElem? (i := 1502) (by decide +kernel), rfl⟩
set_option maxRecDepth 40000 in
theorem tw_1503 : Cond.instanceMethod ⟨"KitePostModel", "then", "(II)I"⟩ ∈ lwg := List.mem_filter.mpr ⟨List.mem_of_getElem? (i := 1503) (by decide +kernel), rfl⟩
set_option maxRecDepth 40000 in
theorem tw_1504 : Cond.selects "KitePostModel" ⟨"KitePostModel", "then", "(II)I"⟩ ⟨"KitePostModel", "then", "(II)I"⟩ ∈ lwg := List.mem_filter.mpr ⟨List.mem_of_getElem? (i := 1504) (by decide +kernel), rfl⟩
set_option maxRecDepth 40000 in
theorem tw_1505 : Cond.code ⟨"KitePostModel", "then", "(II)I"⟩ prog_14_method_75_code 3 (some .int) ∈ lwg := List.mem_filter.mpr ⟨List.mem_of_getElem? (i := 1505) rfl, rfl⟩
set_option maxRecDepth 40000 in
theorem tw_1506 : Cond.methodLink "KitePostModel" 279 ⟨"KitePostModel", "isAhead", "(I)Z"⟩ ∈ lwg := List.mem_filter.mpr ⟨List.mem_of_getElem? (i := 1506) (by decide +kernel), rfl⟩
set_option maxRecDepth 40000 in
theorem tw_1507 : Cond.static ⟨"KitePostModel", "isAhead", "(I)Z"⟩ ∈ lwg := List.mem_filter.mpr ⟨List.mem_of_getElem? (i := 1507) (by decide +kernel), rfl⟩
set_option maxRecDepth 40000 in
theorem tw_1508 : Cond.code ⟨"KitePostModel", "isAhead", "(I)Z"⟩ prog_14_method_74_code 1 (some .boolean) ∈ lwg := List.mem_filter.mpr ⟨List.mem_of_getElem? (i := 1508) rfl, rfl⟩
set_option maxRecDepth 40000 in
theorem tw_1509 : Cond.methodLink "KitePostModel" 79 ⟨"KitePostModel", "copy", "([I[I)V"⟩ ∈ lwg := List.mem_filter.mpr ⟨List.mem_of_getElem? (i := 1509) (by decide +kernel), rfl⟩
set_option maxRecDepth 40000 in
theorem tw_1510 : Cond.static ⟨"KitePostModel", "copy", "([I[I)V"⟩ ∈ lwg := List.mem_filter.mpr ⟨List.mem_of_getElem? (i := 1510) (by decide +kernel), rfl⟩
set_option maxRecDepth 40000 in
theorem tw_1511 : Cond.code ⟨"KitePostModel", "copy", "([I[I)V"⟩ prog_14_method_7_code 3 none ∈ lwg := List.mem_filter.mpr ⟨List.mem_of_getElem? (i := 1511) rfl, rfl⟩
set_option maxRecDepth 40000 in
theorem tw_1512 : Cond.methodLink "KitePostModel" 282 ⟨"KitePostModel", "putBack", "(I)I"⟩ ∈ lwg := List.mem_filter.mpr ⟨List.mem_of_getElem? (i := 1512) (by decide +kernel), rfl⟩
set_option maxRecDepth 40000 in
theorem tw_1514 : Cond.instanceMethod ⟨"KitePostModel", "putBack", "(I)I"⟩ ∈ lwg := List.mem_filter.mpr ⟨List.mem_of_getElem? (i := 1514) (by decide +kernel), rfl⟩
set_option maxRecDepth 40000 in
theorem tw_1515 : Cond.code ⟨"KitePostModel", "putBack", "(I)I"⟩ prog_14_method_9_code 2 (some .int) ∈ lwg := List.mem_filter.mpr ⟨List.mem_of_getElem? (i := 1515) rfl, rfl⟩
set_option maxRecDepth 40000 in
theorem tw_1516 : Cond.methodLink "KitePostLaw" 104 ⟨"KitePostModel", "where", "(III)I"⟩ ∈ lwg := List.mem_filter.mpr ⟨List.mem_of_getElem? (i := 1516) (by decide +kernel), rfl⟩
set_option maxRecDepth 40000 in
theorem tw_1517 : Cond.instanceMethod ⟨"KitePostModel", "where", "(III)I"⟩ ∈ lwg := List.mem_filter.mpr ⟨List.mem_of_getElem? (i := 1517) (by decide +kernel), rfl⟩
set_option maxRecDepth 40000 in
theorem tw_1518 : Cond.selects "KitePostModel" ⟨"KitePostModel", "where", "(III)I"⟩ ⟨"KitePostModel", "where", "(III)I"⟩ ∈ lwg := List.mem_filter.mpr ⟨List.mem_of_getElem? (i := 1518) (by decide +kernel), rfl⟩
set_option maxRecDepth 40000 in
theorem tw_1519 : Cond.code ⟨"KitePostModel", "where", "(III)I"⟩ prog_14_method_76_code 4 (some .int) ∈ lwg := List.mem_filter.mpr ⟨List.mem_of_getElem? (i := 1519) rfl, rfl⟩
set_option maxRecDepth 40000 in
theorem tw_1520 : Cond.methodLink "KitePostLaw" 108 ⟨"KitePostModel", "soonest", "(III)I"⟩ ∈ lwg := List.mem_filter.mpr ⟨List.mem_of_getElem? (i := 1520) (by decide +kernel), rfl⟩
set_option maxRecDepth 40000 in
theorem tw_1521 : Cond.instanceMethod ⟨"KitePostModel", "soonest", "(III)I"⟩ ∈ lwg := List.mem_filter.mpr ⟨List.mem_of_getElem? (i := 1521) (by decide +kernel), rfl⟩
set_option maxRecDepth 40000 in
theorem tw_1522 : Cond.selects "KitePostModel" ⟨"KitePostModel", "soonest", "(III)I"⟩ ⟨"KitePostModel", "soonest", "(III)I"⟩ ∈ lwg := List.mem_filter.mpr ⟨List.mem_of_getElem? (i := 1522) (by decide +kernel), rfl⟩
set_option maxRecDepth 40000 in
theorem tw_1523 : Cond.code ⟨"KitePostModel", "soonest", "(III)I"⟩ prog_14_method_80_code 5 (some .int) ∈ lwg := List.mem_filter.mpr ⟨List.mem_of_getElem? (i := 1523) rfl, rfl⟩
set_option maxRecDepth 40000 in
theorem tw_1524 : Cond.methodLink "KitePostModel" 288 ⟨"KitePostModel", "isWay", "(III)Z"⟩ ∈ lwg := List.mem_filter.mpr ⟨List.mem_of_getElem? (i := 1524) (by decide +kernel), rfl⟩
set_option maxRecDepth 40000 in
theorem tw_1526 : Cond.instanceMethod ⟨"KitePostModel", "isWay", "(III)Z"⟩ ∈ lwg := List.mem_filter.mpr ⟨List.mem_of_getElem? (i := 1526) (by decide +kernel), rfl⟩
set_option maxRecDepth 40000 in
theorem tw_1527 : Cond.code ⟨"KitePostModel", "isWay", "(III)Z"⟩ prog_14_method_79_code 4 (some .boolean) ∈ lwg := List.mem_filter.mpr ⟨List.mem_of_getElem? (i := 1527) rfl, rfl⟩
set_option maxRecDepth 40000 in
theorem tw_1528 : Cond.methodLink "KitePostModel" 291 ⟨"KitePostModel", "soonestOf", "(III)I"⟩ ∈ lwg := List.mem_filter.mpr ⟨List.mem_of_getElem? (i := 1528) (by decide +kernel), rfl⟩
set_option maxRecDepth 40000 in
theorem tw_1530 : Cond.instanceMethod ⟨"KitePostModel", "soonestOf", "(III)I"⟩ ∈ lwg := List.mem_filter.mpr ⟨List.mem_of_getElem? (i := 1530) (by decide +kernel), rfl⟩
set_option maxRecDepth 40000 in
theorem tw_1531 : Cond.code ⟨"KitePostModel", "soonestOf", "(III)I"⟩ prog_14_method_78_code 6 (some .int) ∈ lwg := List.mem_filter.mpr ⟨List.mem_of_getElem? (i := 1531) rfl, rfl⟩
set_option maxRecDepth 40000 in
theorem tw_1532 : Cond.methodLink "KitePostModel" 285 ⟨"KitePostModel", "grown", "(III)I"⟩ ∈ lwg := List.mem_filter.mpr ⟨List.mem_of_getElem? (i := 1532) (by decide +kernel), rfl⟩
set_option maxRecDepth 40000 in
theorem tw_1534 : Cond.instanceMethod ⟨"KitePostModel", "grown", "(III)I"⟩ ∈ lwg := List.mem_filter.mpr ⟨List.mem_of_getElem? (i := 1534) (by decide +kernel), rfl⟩
set_option maxRecDepth 40000 in
theorem tw_1535 : Cond.code ⟨"KitePostModel", "grown", "(III)I"⟩ prog_14_method_77_code 7 (some .int) ∈ lwg := List.mem_filter.mpr ⟨List.mem_of_getElem? (i := 1535) rfl, rfl⟩
set_option maxRecDepth 40000 in
theorem tw_1536 : Cond.constant "KitePostModel" 294 (-1000000002) ∈ lwg := List.mem_filter.mpr ⟨List.mem_of_getElem? (i := 1536) (by decide +kernel), rfl⟩
set_option maxRecDepth 40000 in
theorem tw_1537 : Cond.methodLink "KitePostLaw" 113 ⟨"KitePostModel", "sure", "(IIII)J"⟩ ∈ lwg := List.mem_filter.mpr ⟨List.mem_of_getElem? (i := 1537) (by decide +kernel), rfl⟩
set_option maxRecDepth 40000 in
theorem tw_1538 : Cond.instanceMethod ⟨"KitePostModel", "sure", "(IIII)J"⟩ ∈ lwg := List.mem_filter.mpr ⟨List.mem_of_getElem? (i := 1538) (by decide +kernel), rfl⟩
set_option maxRecDepth 40000 in
theorem tw_1539 : Cond.selects "KitePostModel" ⟨"KitePostModel", "sure", "(IIII)J"⟩ ⟨"KitePostModel", "sure", "(IIII)J"⟩ ∈ lwg := List.mem_filter.mpr ⟨List.mem_of_getElem? (i := 1539) (by decide +kernel), rfl⟩
set_option maxRecDepth 40000 in
theorem tw_1540 : Cond.code ⟨"KitePostModel", "sure", "(IIII)J"⟩ prog_14_method_83_code 13 (some .long) ∈ lwg := List.mem_filter.mpr ⟨List.mem_of_getElem? (i := 1540) rfl, rfl⟩
set_option maxRecDepth 40000 in
theorem tw_1541 : Cond.constantLong "KitePostModel" 295 10 ∈ lwg := List.mem_filter.mpr ⟨List.mem_of_getElem? (i := 1541) (by decide +kernel), rfl⟩
set_option maxRecDepth 40000 in
theorem tw_1542 : Cond.methodLink "KitePostModel" 297 ⟨"KitePostModel", "sureBy", "(IIIIII)J"⟩ ∈ lwg := List.mem_filter.mpr ⟨List.mem_of_getElem? (i := 1542) (by decide +kernel), rfl⟩
set_option maxRecDepth 40000 in
theorem tw_1544 : Cond.instanceMethod ⟨"KitePostModel", "sureBy", "(IIIIII)J"⟩ ∈ lwg := List.mem_filter.mpr ⟨List.mem_of_getElem? (i := 1544) (by decide +kernel), rfl⟩
set_option maxRecDepth 40000 in
theorem tw_1545 : Cond.code ⟨"KitePostModel", "sureBy", "(IIIIII)J"⟩ prog_14_method_81_code 10 (some .long) ∈ lwg := List.mem_filter.mpr ⟨List.mem_of_getElem? (i := 1545) rfl, rfl⟩
set_option maxRecDepth 40000 in
theorem tw_1546 : Cond.methodLink "KitePostModel" 301 ⟨"KitePostModel", "divisor", "(JJ)J"⟩ ∈ lwg := List.mem_filter.mpr ⟨List.mem_of_getElem? (i := 1546) (by decide +kernel), rfl⟩
set_option maxRecDepth 40000 in
theorem tw_1547 : Cond.static ⟨"KitePostModel", "divisor", "(JJ)J"⟩ ∈ lwg := List.mem_filter.mpr ⟨List.mem_of_getElem? (i := 1547) (by decide +kernel), rfl⟩
set_option maxRecDepth 40000 in
theorem tw_1548 : Cond.code ⟨"KitePostModel", "divisor", "(JJ)J"⟩ prog_14_method_82_code 4 (some .long) ∈ lwg := List.mem_filter.mpr ⟨List.mem_of_getElem? (i := 1548) rfl, rfl⟩
set_option maxRecDepth 40000 in
theorem tw_1549 : Cond.methodLink "KitePostLaw" 117 ⟨"KitePostModel", "best", "(II)I"⟩ ∈ lwg := List.mem_filter.mpr ⟨List.mem_of_getElem? (i := 1549) (by decide +kernel), rfl⟩
set_option maxRecDepth 40000 in
theorem tw_1550 : Cond.instanceMethod ⟨"KitePostModel", "best", "(II)I"⟩ ∈ lwg := List.mem_filter.mpr ⟨List.mem_of_getElem? (i := 1550) (by decide +kernel), rfl⟩
set_option maxRecDepth 40000 in
theorem tw_1551 : Cond.selects "KitePostModel" ⟨"KitePostModel", "best", "(II)I"⟩ ⟨"KitePostModel", "best", "(II)I"⟩ ∈ lwg := List.mem_filter.mpr ⟨List.mem_of_getElem? (i := 1551) (by decide +kernel), rfl⟩
set_option maxRecDepth 40000 in
theorem tw_1552 : Cond.code ⟨"KitePostModel", "best", "(II)I"⟩ prog_14_method_84_code 7 (some .int) ∈ lwg := List.mem_filter.mpr ⟨List.mem_of_getElem? (i := 1552) rfl, rfl⟩
set_option maxRecDepth 40000 in
theorem tw_1553 : Cond.methodLink "KitePostLaw" 121 ⟨"KitePostModel", "fresh", "(IIII)I"⟩ ∈ lwg := List.mem_filter.mpr ⟨List.mem_of_getElem? (i := 1553) (by decide +kernel), rfl⟩
set_option maxRecDepth 40000 in
theorem tw_1554 : Cond.instanceMethod ⟨"KitePostModel", "fresh", "(IIII)I"⟩ ∈ lwg := List.mem_filter.mpr ⟨List.mem_of_getElem? (i := 1554) (by decide +kernel), rfl⟩
set_option maxRecDepth 40000 in
theorem tw_1555 : Cond.selects "KitePostModel" ⟨"KitePostModel", "fresh", "(IIII)I"⟩ ⟨"KitePostModel", "fresh", "(IIII)I"⟩ ∈ lwg := List.mem_filter.mpr ⟨List.mem_of_getElem? (i := 1555) (by decide +kernel), rfl⟩
set_option maxRecDepth 40000 in
theorem tw_1556 : Cond.code ⟨"KitePostModel", "fresh", "(IIII)I"⟩ prog_14_method_86_code 6 (some .int) ∈ lwg := List.mem_filter.mpr ⟨List.mem_of_getElem? (i := 1556) rfl, rfl⟩
set_option maxRecDepth 40000 in
theorem tw_1557 : Cond.methodLink "KitePostModel" 308 ⟨"KitePostModel", "freshOf", "(III)I"⟩ ∈ lwg := List.mem_filter.mpr ⟨List.mem_of_getElem? (i := 1557) (by decide +kernel), rfl⟩
set_option maxRecDepth 40000 in
theorem tw_1559 : Cond.instanceMethod ⟨"KitePostModel", "freshOf", "(III)I"⟩ ∈ lwg := List.mem_filter.mpr ⟨List.mem_of_getElem? (i := 1559) (by decide +kernel), rfl⟩
set_option maxRecDepth 40000 in
theorem tw_1560 : Cond.code ⟨"KitePostModel", "freshOf", "(III)I"⟩ prog_14_method_85_code 8 (some .int) ∈ lwg := List.mem_filter.mpr ⟨List.mem_of_getElem? (i := 1560) rfl, rfl⟩
set_option maxRecDepth 40000 in
theorem tw_1561 : Cond.methodLink "KitePostLaw" 125 ⟨"KitePostModel", "order", "(II)I"⟩ ∈ lwg := List.mem_filter.mpr ⟨List.mem_of_getElem? (i := 1561) (by decide +kernel), rfl⟩
set_option maxRecDepth 40000 in
theorem tw_1562 : Cond.instanceMethod ⟨"KitePostModel", "order", "(II)I"⟩ ∈ lwg := List.mem_filter.mpr ⟨List.mem_of_getElem? (i := 1562) (by decide +kernel), rfl⟩
set_option maxRecDepth 40000 in
theorem tw_1563 : Cond.selects "KitePostModel" ⟨"KitePostModel", "order", "(II)I"⟩ ⟨"KitePostModel", "order", "(II)I"⟩ ∈ lwg := List.mem_filter.mpr ⟨List.mem_of_getElem? (i := 1563) (by decide +kernel), rfl⟩
set_option maxRecDepth 40000 in
theorem tw_1564 : Cond.code ⟨"KitePostModel", "order", "(II)I"⟩ prog_14_method_89_code 3 (some .int) ∈ lwg := List.mem_filter.mpr ⟨List.mem_of_getElem? (i := 1564) rfl, rfl⟩
set_option maxRecDepth 40000 in
theorem tw_1565 : Cond.methodLink "KitePostModel" 314 ⟨"KitePostModel", "mends", "()V"⟩ ∈ lwg := List.mem_filter.mpr ⟨List.mem_of_getElem? (i := 1565) (by decide +kernel), rfl⟩
set_option maxRecDepth 40000 in
theorem tw_1567 : Cond.instanceMethod ⟨"KitePostModel", "mends", "()V"⟩ ∈ lwg := List.mem_filter.mpr ⟨List.mem_of_getElem? (i := 1567) (by decide +kernel), rfl⟩
set_option maxRecDepth 40000 in
theorem tw_1568 : Cond.code ⟨"KitePostModel", "mends", "()V"⟩ prog_14_method_88_code 8 none ∈ lwg := List.mem_filter.mpr ⟨List.mem_of_getElem? (i := 1568) rfl, rfl⟩
set_option maxRecDepth 40000 in
theorem tw_1569 : Cond.methodLink "KitePostModel" 311 ⟨"KitePostModel", "hasArrived", "(I)Z"⟩ ∈ lwg := List.mem_filter.mpr ⟨List.mem_of_getElem? (i := 1569) (by decide +kernel), rfl⟩
set_option maxRecDepth 40000 in
theorem tw_1571 : Cond.instanceMethod ⟨"KitePostModel", "hasArrived", "(I)Z"⟩ ∈ lwg := List.mem_filter.mpr ⟨List.mem_of_getElem? (i := 1571) (by decide +kernel), rfl⟩
set_option maxRecDepth 40000 in
theorem tw_1572 : Cond.code ⟨"KitePostModel", "hasArrived", "(I)Z"⟩ prog_14_method_87_code 2 (some .boolean) ∈ lwg := List.mem_filter.mpr ⟨List.mem_of_getElem? (i := 1572) rfl, rfl⟩
set_option maxRecDepth 40000 in
theorem tw_1573 : Cond.methodLink "KitePostLaw" 130 ⟨"KitePostModel", "before", "()I"⟩ ∈ lwg := List.mem_filter.mpr ⟨List.mem_of_getElem? (i := 1573) (by decide +kernel), rfl⟩
set_option maxRecDepth 40000 in
theorem tw_1574 : Cond.instanceMethod ⟨"KitePostModel", "before", "()I"⟩ ∈ lwg := List.mem_filter.mpr ⟨List.mem_of_getElem? (i := 1574) (by decide +kernel), rfl⟩
set_option maxRecDepth 40000 in
theorem tw_1575 : Cond.selects "KitePostModel" ⟨"KitePostModel", "before", "()I"⟩ ⟨"KitePostModel", "before", "()I"⟩ ∈ lwg := List.mem_filter.mpr ⟨List.mem_of_getElem? (i := 1575) (by decide +kernel), rfl⟩
set_option maxRecDepth 40000 in
theorem tw_1576 : Cond.code ⟨"KitePostModel", "before", "()I"⟩ prog_14_method_90_code 5 (some .int) ∈ lwg := List.mem_filter.mpr ⟨List.mem_of_getElem? (i := 1576) rfl, rfl⟩
set_option maxRecDepth 40000 in
theorem tw_1577 : Cond.methodLink "KitePostLaw" 134 ⟨"KitePostModel", "seed", "(I)I"⟩ ∈ lwg := List.mem_filter.mpr ⟨List.mem_of_getElem? (i := 1577) (by decide +kernel), rfl⟩
set_option maxRecDepth 40000 in
theorem tw_1578 : Cond.instanceMethod ⟨"KitePostModel", "seed", "(I)I"⟩ ∈ lwg := List.mem_filter.mpr ⟨List.mem_of_getElem? (i := 1578) (by decide +kernel), rfl⟩
set_option maxRecDepth 40000 in
theorem tw_1579 : Cond.selects "KitePostModel" ⟨"KitePostModel", "seed", "(I)I"⟩ ⟨"KitePostModel", "seed", "(I)I"⟩ ∈ lwg := List.mem_filter.mpr ⟨List.mem_of_getElem? (i := 1579) (by decide +kernel), rfl⟩
set_option maxRecDepth 40000 in
theorem tw_1580 : Cond.code ⟨"KitePostModel", "seed", "(I)I"⟩ prog_14_method_91_code 2 (some .int) ∈ lwg := List.mem_filter.mpr ⟨List.mem_of_getElem? (i := 1580) rfl, rfl⟩
set_option maxRecDepth 40000 in
theorem tw_1581 : Cond.methodLink "KitePostLaw" 138 ⟨"KitePostModel", "voice", "(III)I"⟩ ∈ lwg := List.mem_filter.mpr ⟨List.mem_of_getElem? (i := 1581) (by decide +kernel), rfl⟩
set_option maxRecDepth 40000 in
theorem tw_1582 : Cond.instanceMethod ⟨"KitePostModel", "voice", "(III)I"⟩ ∈ lwg := List.mem_filter.mpr ⟨List.mem_of_getElem? (i := 1582) (by decide +kernel), rfl⟩
set_option maxRecDepth 40000 in
theorem tw_1583 : Cond.selects "KitePostModel" ⟨"KitePostModel", "voice", "(III)I"⟩ ⟨"KitePostModel", "voice", "(III)I"⟩ ∈ lwg := List.mem_filter.mpr ⟨List.mem_of_getElem? (i := 1583) (by decide +kernel), rfl⟩
set_option maxRecDepth 40000 in
theorem tw_1584 : Cond.code ⟨"KitePostModel", "voice", "(III)I"⟩ prog_14_method_97_code 4 (some .int) ∈ lwg := List.mem_filter.mpr ⟨List.mem_of_getElem? (i := 1584) rfl, rfl⟩
set_option maxRecDepth 40000 in
theorem tw_1585 : Cond.methodLink "KitePostModel" 335 ⟨"KitePostModel", "voiced", "(II)I"⟩ ∈ lwg := List.mem_filter.mpr ⟨List.mem_of_getElem? (i := 1585) (by decide +kernel), rfl⟩
set_option maxRecDepth 40000 in
theorem tw_1587 : Cond.instanceMethod ⟨"KitePostModel", "voiced", "(II)I"⟩ ∈ lwg := List.mem_filter.mpr ⟨List.mem_of_getElem? (i := 1587) (by decide +kernel), rfl⟩
set_option maxRecDepth 40000 in
theorem tw_1588 : Cond.code ⟨"KitePostModel", "voiced", "(II)I"⟩ prog_14_method_94_code 3 (some .int) ∈ lwg := List.mem_filter.mpr ⟨List.mem_of_getElem? (i := 1588) rfl, rfl⟩
set_option maxRecDepth 40000 in
theorem tw_1589 : Cond.methodLink "KitePostModel" 323 ⟨"KitePostModel", "bodyFrom", "(III)I"⟩ ∈ lwg := List.mem_filter.mpr ⟨List.mem_of_getElem? (i := 1589) (by decide +kernel), rfl⟩
set_option maxRecDepth 40000 in
theorem tw_1591 : Cond.instanceMethod ⟨"KitePostModel", "bodyFrom", "(III)I"⟩ ∈ lwg := List.mem_filter.mpr ⟨List.mem_of_getElem? (i := 1591) (by decide +kernel), rfl⟩
set_option maxRecDepth 40000 in
theorem tw_1592 : Cond.code ⟨"KitePostModel", "bodyFrom", "(III)I"⟩ prog_14_method_95_code 5 (some .int) ∈ lwg := List.mem_filter.mpr ⟨List.mem_of_getElem? (i := 1592) rfl, rfl⟩
set_option maxRecDepth 40000 in
theorem tw_1593 : Cond.methodLink "KitePostModel" 326 ⟨"KitePostModel", "hasOwn", "(II)Z"⟩ ∈ lwg := List.mem_filter.mpr ⟨List.mem_of_getElem? (i := 1593) (by decide +kernel), rfl⟩
set_option maxRecDepth 40000 in
theorem tw_1594 : Cond.static ⟨"KitePostModel", "hasOwn", "(II)Z"⟩ ∈ lwg := List.mem_filter.mpr ⟨List.mem_of_getElem? (i := 1594) (by decide +kernel), rfl⟩
set_option maxRecDepth 40000 in
theorem tw_1595 : Cond.code ⟨"KitePostModel", "hasOwn", "(II)Z"⟩ prog_14_method_93_code 2 (some .boolean) ∈ lwg := List.mem_filter.mpr ⟨List.mem_of_getElem? (i := 1595) rfl, rfl⟩
set_option maxRecDepth 40000 in
theorem tw_1596 : Cond.methodLink "KitePostModel" 329 ⟨"KitePostModel", "body", "(III)I"⟩ ∈ lwg := List.mem_filter.mpr ⟨List.mem_of_getElem? (i := 1596) (by decide +kernel), rfl⟩
set_option maxRecDepth 40000 in
theorem tw_1598 : Cond.instanceMethod ⟨"KitePostModel", "body", "(III)I"⟩ ∈ lwg := List.mem_filter.mpr ⟨List.mem_of_getElem? (i := 1598) (by decide +kernel), rfl⟩
set_option maxRecDepth 40000 in
theorem tw_1599 : Cond.code ⟨"KitePostModel", "body", "(III)I"⟩ prog_14_method_96_code 7 (some .int) ∈ lwg := List.mem_filter.mpr ⟨List.mem_of_getElem? (i := 1599) rfl, rfl⟩
set_option maxRecDepth 40000 in
theorem tw_1600 : Cond.methodLink "KitePostModel" 332 ⟨"KitePostModel", "began", "(I)V"⟩ ∈ lwg := List.mem_filter.mpr ⟨List.mem_of_getElem? (i := 1600) (by decide +kernel), rfl⟩
set_option maxRecDepth 40000 in
theorem tw_1602 : Cond.instanceMethod ⟨"KitePostModel", "began", "(I)V"⟩ ∈ lwg := List.mem_filter.mpr ⟨List.mem_of_getElem? (i := 1602) (by decide +kernel), rfl⟩
set_option maxRecDepth 40000 in
theorem tw_1603 : Cond.code ⟨"KitePostModel", "began", "(I)V"⟩ prog_14_method_92_code 2 none ∈ lwg := List.mem_filter.mpr ⟨List.mem_of_getElem? (i := 1603) rfl, rfl⟩
set_option maxRecDepth 40000 in
theorem tw_1604 : Cond.methodLink "KitePostLaw" 142 ⟨"KitePostModel", "trace", "(I)I"⟩ ∈ lwg := List.mem_filter.mpr ⟨List.mem_of_getElem? (i := 1604) (by decide +kernel), rfl⟩
set_option maxRecDepth 40000 in
theorem tw_1605 : Cond.instanceMethod ⟨"KitePostModel", "trace", "(I)I"⟩ ∈ lwg := List.mem_filter.mpr ⟨List.mem_of_getElem? (i := 1605) (by decide +kernel), rfl⟩
set_option maxRecDepth 40000 in
theorem tw_1606 : Cond.selects "KitePostModel" ⟨"KitePostModel", "trace", "(I)I"⟩ ⟨"KitePostModel", "trace", "(I)I"⟩ ∈ lwg := List.mem_filter.mpr ⟨List.mem_of_getElem? (i := 1606) (by decide +kernel), rfl⟩
set_option maxRecDepth 40000 in
theorem tw_1607 : Cond.code ⟨"KitePostModel", "trace", "(I)I"⟩ prog_14_method_98_code 2 (some .int) ∈ lwg := List.mem_filter.mpr ⟨List.mem_of_getElem? (i := 1607) rfl, rfl⟩
set_option maxRecDepth 40000 in
theorem tw_1608 : Cond.methodLink "KitePostLaw" 146 ⟨"KitePostModel", "sheet", "(III)I"⟩ ∈ lwg := List.mem_filter.mpr ⟨List.mem_of_getElem? (i := 1608) (by decide +kernel), rfl⟩
set_option maxRecDepth 40000 in
theorem tw_1609 : Cond.instanceMethod ⟨"KitePostModel", "sheet", "(III)I"⟩ ∈ lwg := List.mem_filter.mpr ⟨List.mem_of_getElem? (i := 1609) (by decide +kernel), rfl⟩
set_option maxRecDepth 40000 in
theorem tw_1610 : Cond.selects "KitePostModel" ⟨"KitePostModel", "sheet", "(III)I"⟩ ⟨"KitePostModel", "sheet", "(III)I"⟩ ∈ lwg := List.mem_filter.mpr ⟨List.mem_of_getElem? (i := 1610) (by decide +kernel), rfl⟩
set_option maxRecDepth 40000 in
theorem tw_1611 : Cond.code ⟨"KitePostModel", "sheet", "(III)I"⟩ prog_14_method_100_code 5 (some .int) ∈ lwg := List.mem_filter.mpr ⟨List.mem_of_getElem? (i := 1611) rfl, rfl⟩
set_option maxRecDepth 40000 in
theorem tw_1612 : Cond.methodLink "KitePostModel" 338 ⟨"KitePostModel", "isSheet", "(I)Z"⟩ ∈ lwg := List.mem_filter.mpr ⟨List.mem_of_getElem? (i := 1612) (by decide +kernel), rfl⟩
set_option maxRecDepth 40000 in
theorem tw_1613 : Cond.static ⟨"KitePostModel", "isSheet", "(I)Z"⟩ ∈ lwg := List.mem_filter.mpr ⟨List.mem_of_getElem? (i := 1613) (by decide +kernel), rfl⟩
set_option maxRecDepth 40000 in
theorem tw_1614 : Cond.code ⟨"KitePostModel", "isSheet", "(I)Z"⟩ prog_14_method_99_code 1 (some .boolean) ∈ lwg := List.mem_filter.mpr ⟨List.mem_of_getElem? (i := 1614) rfl, rfl⟩
set_option maxRecDepth 40000 in
theorem tw_1615 : Cond.methodLink "KitePostLaw" 150 ⟨"KitePostModel", "put", "(III)I"⟩ ∈ lwg := List.mem_filter.mpr ⟨List.mem_of_getElem? (i := 1615) (by decide +kernel), rfl⟩
set_option maxRecDepth 40000 in
theorem tw_1616 : Cond.instanceMethod ⟨"KitePostModel", "put", "(III)I"⟩ ∈ lwg := List.mem_filter.mpr ⟨List.mem_of_getElem? (i := 1616) (by decide +kernel), rfl⟩
set_option maxRecDepth 40000 in
theorem tw_1617 : Cond.selects "KitePostModel" ⟨"KitePostModel", "put", "(III)I"⟩ ⟨"KitePostModel", "put", "(III)I"⟩ ∈ lwg := List.mem_filter.mpr ⟨List.mem_of_getElem? (i := 1617) (by decide +kernel), rfl⟩
set_option maxRecDepth 40000 in
theorem tw_1618 : Cond.code ⟨"KitePostModel", "put", "(III)I"⟩ prog_14_method_101_code 4 (some .int) ∈ lwg := List.mem_filter.mpr ⟨List.mem_of_getElem? (i := 1618) rfl, rfl⟩
set_option maxRecDepth 40000 in
theorem tw_1619 : Cond.methodLink "KitePostLaw" 154 ⟨"KitePostModel", "move", "(IIIII)I"⟩ ∈ lwg := List.mem_filter.mpr ⟨List.mem_of_getElem? (i := 1619) (by decide +kernel), rfl⟩
set_option maxRecDepth 40000 in
theorem tw_1620 : Cond.instanceMethod ⟨"KitePostModel", "move", "(IIIII)I"⟩ ∈ lwg := List.mem_filter.mpr ⟨List.mem_of_getElem? (i := 1620) (by decide +kernel), rfl⟩
set_option maxRecDepth 40000 in
theorem tw_1621 : Cond.selects "KitePostModel" ⟨"KitePostModel", "move", "(IIIII)I"⟩ ⟨"KitePostModel", "move", "(IIIII)I"⟩ ∈ lwg := List.mem_filter.mpr ⟨List.mem_of_getElem? (i := 1621) (by decide +kernel), rfl⟩
set_option maxRecDepth 40000 in
theorem tw_1622 : Cond.code ⟨"KitePostModel", "move", "(IIIII)I"⟩ prog_14_method_102_code 7 (some .int) ∈ lwg := List.mem_filter.mpr ⟨List.mem_of_getElem? (i := 1622) rfl, rfl⟩
set_option maxRecDepth 40000 in
theorem tw_1623 : Cond.methodLink "KitePostLaw" 158 ⟨"KitePostModel", "winds", "(I)I"⟩ ∈ lwg := List.mem_filter.mpr ⟨List.mem_of_getElem? (i := 1623) (by decide +kernel), rfl⟩
set_option maxRecDepth 40000 in
theorem tw_1624 : Cond.instanceMethod ⟨"KitePostModel", "winds", "(I)I"⟩ ∈ lwg := List.mem_filter.mpr ⟨List.mem_of_getElem? (i := 1624) (by decide +kernel), rfl⟩
set_option maxRecDepth 40000 in
theorem tw_1625 : Cond.selects "KitePostModel" ⟨"KitePostModel", "winds", "(I)I"⟩ ⟨"KitePostModel", "winds", "(I)I"⟩ ∈ lwg := List.mem_filter.mpr ⟨List.mem_of_getElem? (i := 1625) (by decide +kernel), rfl⟩
set_option maxRecDepth 40000 in
theorem tw_1626 : Cond.code ⟨"KitePostModel", "winds", "(I)I"⟩ prog_14_method_103_code 3 (some .int) ∈ lwg := List.mem_filter.mpr ⟨List.mem_of_getElem? (i := 1626) rfl, rfl⟩
set_option maxRecDepth 40000 in
theorem tw_1627 : Cond.methodLink "KitePostLaw" 162 ⟨"KitePostModel", "image", "()I"⟩ ∈ lwg := List.mem_filter.mpr ⟨List.mem_of_getElem? (i := 1627) (by decide +kernel), rfl⟩
set_option maxRecDepth 40000 in
theorem tw_1628 : Cond.instanceMethod ⟨"KitePostModel", "image", "()I"⟩ ∈ lwg := List.mem_filter.mpr ⟨List.mem_of_getElem? (i := 1628) (by decide +kernel), rfl⟩
set_option maxRecDepth 40000 in
theorem tw_1629 : Cond.selects "KitePostModel" ⟨"KitePostModel", "image", "()I"⟩ ⟨"KitePostModel", "image", "()I"⟩ ∈ lwg := List.mem_filter.mpr ⟨List.mem_of_getElem? (i := 1629) (by decide +kernel), rfl⟩
set_option maxRecDepth 40000 in
theorem tw_1630 : Cond.code ⟨"KitePostModel", "image", "()I"⟩ prog_14_method_104_code 1 (some .int) ∈ lwg := List.mem_filter.mpr ⟨List.mem_of_getElem? (i := 1630) rfl, rfl⟩
set_option maxRecDepth 40000 in
theorem tw_1631 : Cond.methodLink "KitePostLaw" 166 ⟨"KitePostModel", "restore", "()I"⟩ ∈ lwg := List.mem_filter.mpr ⟨List.mem_of_getElem? (i := 1631) (by decide +kernel), rfl⟩
set_option maxRecDepth 40000 in
theorem tw_1632 : Cond.instanceMethod ⟨"KitePostModel", "restore", "()I"⟩ ∈ lwg := List.mem_filter.mpr ⟨List.mem_of_getElem? (i := 1632) (by decide +kernel), rfl⟩
set_option maxRecDepth 40000 in
theorem tw_1633 : Cond.selects "KitePostModel" ⟨"KitePostModel", "restore", "()I"⟩ ⟨"KitePostModel", "restore", "()I"⟩ ∈ lwg := List.mem_filter.mpr ⟨List.mem_of_getElem? (i := 1633) (by decide +kernel), rfl⟩
set_option maxRecDepth 40000 in
theorem tw_1634 : Cond.code ⟨"KitePostModel", "restore", "()I"⟩ prog_14_method_105_code 1 (some .int) ∈ lwg := List.mem_filter.mpr ⟨List.mem_of_getElem? (i := 1634) rfl, rfl⟩
set_option maxRecDepth 40000 in
theorem tw_1635 : Cond.methodLink "KitePostLaw" 170 ⟨"KitePostModel", "tell", "(I)I"⟩ ∈ lwg := List.mem_filter.mpr ⟨List.mem_of_getElem? (i := 1635) (by decide +kernel), rfl⟩
set_option maxRecDepth 40000 in
theorem tw_1636 : Cond.instanceMethod ⟨"KitePostModel", "tell", "(I)I"⟩ ∈ lwg := List.mem_filter.mpr ⟨List.mem_of_getElem? (i := 1636) (by decide +kernel), rfl⟩
set_option maxRecDepth 40000 in
theorem tw_1637 : Cond.selects "KitePostModel" ⟨"KitePostModel", "tell", "(I)I"⟩ ⟨"KitePostModel", "tell", "(I)I"⟩ ∈ lwg := List.mem_filter.mpr ⟨List.mem_of_getElem? (i := 1637) (by decide +kernel), rfl⟩
set_option maxRecDepth 40000 in
theorem tw_1638 : Cond.code ⟨"KitePostModel", "tell", "(I)I"⟩ prog_14_method_106_code 2 (some .int) ∈ lwg := List.mem_filter.mpr ⟨List.mem_of_getElem? (i := 1638) rfl, rfl⟩
set_option maxRecDepth 40000 in
theorem tw_1639 : Cond.methodLink "KitePostLaw" 174 ⟨"KitePostModel", "check", "(I)I"⟩ ∈ lwg := List.mem_filter.mpr ⟨List.mem_of_getElem? (i := 1639) (by decide +kernel), rfl⟩
set_option maxRecDepth 40000 in
theorem tw_1640 : Cond.instanceMethod ⟨"KitePostModel", "check", "(I)I"⟩ ∈ lwg := List.mem_filter.mpr ⟨List.mem_of_getElem? (i := 1640) (by decide +kernel), rfl⟩
set_option maxRecDepth 40000 in
theorem tw_1641 : Cond.selects "KitePostModel" ⟨"KitePostModel", "check", "(I)I"⟩ ⟨"KitePostModel", "check", "(I)I"⟩ ∈ lwg := List.mem_filter.mpr ⟨List.mem_of_getElem? (i := 1641) (by decide +kernel), rfl⟩
set_option maxRecDepth 40000 in
theorem tw_1642 : Cond.code ⟨"KitePostModel", "check", "(I)I"⟩ prog_14_method_107_code 5 (some .int) ∈ lwg := List.mem_filter.mpr ⟨List.mem_of_getElem? (i := 1642) rfl, rfl⟩
set_option maxRecDepth 40000 in
theorem tw_1643 : Cond.methodLink "KitePostLaw" 178 ⟨"KitePostModel", "count", "(I)I"⟩ ∈ lwg := List.mem_filter.mpr ⟨List.mem_of_getElem? (i := 1643) (by decide +kernel), rfl⟩
set_option maxRecDepth 40000 in
theorem tw_1644 : Cond.instanceMethod ⟨"KitePostModel", "count", "(I)I"⟩ ∈ lwg := List.mem_filter.mpr ⟨List.mem_of_getElem? (i := 1644) (by decide +kernel), rfl⟩
set_option maxRecDepth 40000 in
theorem tw_1645 : Cond.selects "KitePostModel" ⟨"KitePostModel", "count", "(I)I"⟩ ⟨"KitePostModel", "count", "(I)I"⟩ ∈ lwg := List.mem_filter.mpr ⟨List.mem_of_getElem? (i := 1645) (by decide +kernel), rfl⟩
set_option maxRecDepth 40000 in
theorem tw_1646 : Cond.code ⟨"KitePostModel", "count", "(I)I"⟩ prog_14_method_108_code 2 (some .int) ∈ lwg := List.mem_filter.mpr ⟨List.mem_of_getElem? (i := 1646) rfl, rfl⟩
set_option maxRecDepth 40000 in
theorem tw_1647 : Cond.methodLink "KitePostLaw" 182 ⟨"KitePostModel", "told", "(I)I"⟩ ∈ lwg := List.mem_filter.mpr ⟨List.mem_of_getElem? (i := 1647) (by decide +kernel), rfl⟩
set_option maxRecDepth 40000 in
theorem tw_1648 : Cond.instanceMethod ⟨"KitePostModel", "told", "(I)I"⟩ ∈ lwg := List.mem_filter.mpr ⟨List.mem_of_getElem? (i := 1648) (by decide +kernel), rfl⟩
set_option maxRecDepth 40000 in
theorem tw_1649 : Cond.selects "KitePostModel" ⟨"KitePostModel", "told", "(I)I"⟩ ⟨"KitePostModel", "told", "(I)I"⟩ ∈ lwg := List.mem_filter.mpr ⟨List.mem_of_getElem? (i := 1649) (by decide +kernel), rfl⟩
set_option maxRecDepth 40000 in
theorem tw_1650 : Cond.code ⟨"KitePostModel", "told", "(I)I"⟩ prog_14_method_109_code 2 (some .int) ∈ lwg := List.mem_filter.mpr ⟨List.mem_of_getElem? (i := 1650) rfl, rfl⟩
set_option maxRecDepth 40000 in
theorem tw_1651 : Cond.constantLong "KitePostLaw" 55 4294967295 ∈ lwg := List.mem_filter.mpr ⟨List.mem_of_getElem? (i := 1651) (by decide +kernel), rfl⟩
set_option maxRecDepth 40000 in
theorem tw_1652 : Cond.sameMethod "KitePost$Boxed" "KitePost$Boxed" "strength" "(III)I" ∈ lwg := List.mem_filter.mpr ⟨List.mem_of_getElem? (i := 1652) (by decide +kernel), rfl⟩
set_option maxRecDepth 40000 in
theorem tw_1653 : Cond.sameMethod "KitePost$Tailed" "KitePost$Tailed" "strength" "(III)I" ∈ lwg := List.mem_filter.mpr ⟨List.mem_of_getElem? (i := 1653) (by decide +kernel), rfl⟩
set_option maxRecDepth 40000 in
theorem tw_1654 : Cond.sameMethod "KitePost$Silk" "KitePost$Silk" "strength" "(III)I" ∈ lwg := List.mem_filter.mpr ⟨List.mem_of_getElem? (i := 1654) (by decide +kernel), rfl⟩
set_option maxRecDepth 40000 in
theorem tw_1655 : Cond.sameMethod "KitePost$Boxed" "KitePost$Boxed" "sways" "(ILKitePost$Row;)I" ∈ lwg := List.mem_filter.mpr ⟨List.mem_of_getElem? (i := 1655) (by decide +kernel), rfl⟩
set_option maxRecDepth 40000 in
theorem tw_1656 : Cond.sameMethod "KitePost$Kite" "KitePost$Kite" "sinks" "(ILKitePost$Row;)I" ∈ lwg := List.mem_filter.mpr ⟨List.mem_of_getElem? (i := 1656) (by decide +kernel), rfl⟩
set_option maxRecDepth 40000 in
theorem tw_1657 : Cond.selects "KitePost$Boxed" ⟨"KitePost$Kite", "sinks", "(ILKitePost$Row;)I"⟩ ⟨"KitePost$Kite", "sinks", "(ILKitePost$Row;)I"⟩ ∈ lwg := List.mem_filter.mpr ⟨List.mem_of_getElem? (i := 1657) (by decide +kernel), rfl⟩
set_option maxRecDepth 40000 in
theorem tw_1658 : Cond.selects "KitePost$Doubled" ⟨"KitePost$Kite", "sinks", "(ILKitePost$Row;)I"⟩ ⟨"KitePost$Kite", "sinks", "(ILKitePost$Row;)I"⟩ ∈ lwg := List.mem_filter.mpr ⟨List.mem_of_getElem? (i := 1658) (by decide +kernel), rfl⟩
set_option maxRecDepth 40000 in
theorem tw_1659 : Cond.selects "KitePost$Kite" ⟨"KitePost$Kite", "sinks", "(ILKitePost$Row;)I"⟩ ⟨"KitePost$Kite", "sinks", "(ILKitePost$Row;)I"⟩ ∈ lwg := List.mem_filter.mpr ⟨List.mem_of_getElem? (i := 1659) (by decide +kernel), rfl⟩
set_option maxRecDepth 40000 in
theorem tw_1660 : Cond.selects "KitePost$LongTailed" ⟨"KitePost$Kite", "sinks", "(ILKitePost$Row;)I"⟩ ⟨"KitePost$Kite", "sinks", "(ILKitePost$Row;)I"⟩ ∈ lwg := List.mem_filter.mpr ⟨List.mem_of_getElem? (i := 1660) (by decide +kernel), rfl⟩
set_option maxRecDepth 40000 in
theorem tw_1661 : Cond.selects "KitePost$Old" ⟨"KitePost$Kite", "sinks", "(ILKitePost$Row;)I"⟩ ⟨"KitePost$Old", "sinks", "(ILKitePost$Row;)I"⟩ ∈ lwg := List.mem_filter.mpr ⟨List.mem_of_getElem? (i := 1661) (by decide +kernel), rfl⟩
set_option maxRecDepth 40000 in
theorem tw_1662 : Cond.sameMethod "KitePost$Silk" "KitePost$Silk" "sinks" "(ILKitePost$Row;)I" ∈ lwg := List.mem_filter.mpr ⟨List.mem_of_getElem? (i := 1662) (by decide +kernel), rfl⟩
set_option maxRecDepth 40000 in
theorem tw_1663 : Cond.selects "KitePost$Silk" ⟨"KitePost$Kite", "sinks", "(ILKitePost$Row;)I"⟩ ⟨"KitePost$Silk", "sinks", "(ILKitePost$Row;)I"⟩ ∈ lwg := List.mem_filter.mpr ⟨List.mem_of_getElem? (i := 1663) (by decide +kernel), rfl⟩
set_option maxRecDepth 40000 in
theorem tw_1664 : Cond.selects "KitePost$Tailed" ⟨"KitePost$Kite", "sinks", "(ILKitePost$Row;)I"⟩ ⟨"KitePost$Kite", "sinks", "(ILKitePost$Row;)I"⟩ ∈ lwg := List.mem_filter.mpr ⟨List.mem_of_getElem? (i := 1664) (by decide +kernel), rfl⟩
set_option maxRecDepth 40000 in
theorem tw_1674 : Cond.fieldLink "java/lang/String" 15 "java/lang/String" "coder" "B" ∈ lwg := List.mem_filter.mpr ⟨List.mem_of_getElem? (i := 1674) (by decide +kernel), rfl⟩
set_option maxRecDepth 40000 in
theorem tw_1675 : Cond.fieldLink "java/lang/String" 9 "java/lang/String" "value" "[B" ∈ lwg := List.mem_filter.mpr ⟨List.mem_of_getElem? (i := 1675) (by decide +kernel), rfl⟩
