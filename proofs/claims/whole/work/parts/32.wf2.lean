/-! Part 32: methods: their words -/
theorem tb_mem2 {k i : Nat} {w : Cond} (h : (tb_seg k)[i]? = some w) (hg : tb_gb w = true) : w ∈ tb_ws := List.mem_filter.mpr ⟨tb_seg_in (List.mem_of_getElem? h), hg⟩
theorem tb_pn0 : plainName "AttributeLink$Attribute" = true := by decide +kernel
theorem tb_nm0 : "AttributeLink$Attribute" ≠ "java/lang/invoke/MethodHandle" ∧ "AttributeLink$Attribute" ≠ "java/lang/invoke/VarHandle" := by decide
theorem tb_ni0 : Cond.initialized "AttributeLink$Attribute" ∈ tb_ws := tb_mem (p := 1013) (by decide +kernel)
theorem tb_pn1 : plainName "AttributeLink$Channels" = true := by decide +kernel
theorem tb_nm1 : "AttributeLink$Channels" ≠ "java/lang/invoke/MethodHandle" ∧ "AttributeLink$Channels" ≠ "java/lang/invoke/VarHandle" := by decide
theorem tb_ni1 : Cond.initialized "AttributeLink$Channels" ∈ tb_ws := tb_mem (p := 1002) (by decide +kernel)
theorem tb_pn2 : plainName "AttributeLink$Client" = true := by decide +kernel
theorem tb_nm2 : "AttributeLink$Client" ≠ "java/lang/invoke/MethodHandle" ∧ "AttributeLink$Client" ≠ "java/lang/invoke/VarHandle" := by decide
theorem tb_ni2 : Cond.initialized "AttributeLink$Client" ∈ tb_ws := tb_mem (p := 1010) (by decide +kernel)
theorem tb_pn3 : plainName "AttributeLink$Device" = true := by decide +kernel
theorem tb_nm3 : "AttributeLink$Device" ≠ "java/lang/invoke/MethodHandle" ∧ "AttributeLink$Device" ≠ "java/lang/invoke/VarHandle" := by decide
theorem tb_ni3 : Cond.initialized "AttributeLink$Device" ∈ tb_ws := tb_mem (p := 1006) (by decide +kernel)
theorem tb_pn4 : plainName "AttributeLink$Inbox" = true := by decide +kernel
theorem tb_nm4 : "AttributeLink$Inbox" ≠ "java/lang/invoke/MethodHandle" ∧ "AttributeLink$Inbox" ≠ "java/lang/invoke/VarHandle" := by decide
theorem tb_ni4 : Cond.initialized "AttributeLink$Inbox" ∈ tb_ws := tb_mem (p := 1009) (by decide +kernel)
theorem tb_pn5 : plainName "AttributeLink$Notes" = true := by decide +kernel
theorem tb_nm5 : "AttributeLink$Notes" ≠ "java/lang/invoke/MethodHandle" ∧ "AttributeLink$Notes" ≠ "java/lang/invoke/VarHandle" := by decide
theorem tb_ni5 : Cond.initialized "AttributeLink$Notes" ∈ tb_ws := tb_mem (p := 1011) (by decide +kernel)
theorem tb_pn6 : plainName "AttributeLink$Outbox" = true := by decide +kernel
theorem tb_nm6 : "AttributeLink$Outbox" ≠ "java/lang/invoke/MethodHandle" ∧ "AttributeLink$Outbox" ≠ "java/lang/invoke/VarHandle" := by decide
theorem tb_ni6 : Cond.initialized "AttributeLink$Outbox" ∈ tb_ws := tb_mem (p := 1007) (by decide +kernel)
theorem tb_pn7 : plainName "AttributeLink$Row" = true := by decide +kernel
theorem tb_nm7 : "AttributeLink$Row" ≠ "java/lang/invoke/MethodHandle" ∧ "AttributeLink$Row" ≠ "java/lang/invoke/VarHandle" := by decide
theorem tb_ni7 : Cond.initialized "AttributeLink$Row" ∈ tb_ws := tb_mem (p := 1008) (by decide +kernel)
theorem tb_pn8 : plainName "AttributeLink$Server" = true := by decide +kernel
theorem tb_nm8 : "AttributeLink$Server" ≠ "java/lang/invoke/MethodHandle" ∧ "AttributeLink$Server" ≠ "java/lang/invoke/VarHandle" := by decide
theorem tb_ni8 : Cond.initialized "AttributeLink$Server" ∈ tb_ws := tb_mem (p := 1012) (by decide +kernel)
theorem tb_pn9 : plainName "AttributeLink$Whitening" = true := by decide +kernel
theorem tb_nm9 : "AttributeLink$Whitening" ≠ "java/lang/invoke/MethodHandle" ∧ "AttributeLink$Whitening" ≠ "java/lang/invoke/VarHandle" := by decide
theorem tb_ni9 : Cond.initialized "AttributeLink$Whitening" ∈ tb_ws := tb_mem (p := 1005) (by decide +kernel)
theorem tb_pn10 : plainName "AttributeLink" = true := by decide +kernel
theorem tb_nm10 : "AttributeLink" ≠ "java/lang/invoke/MethodHandle" ∧ "AttributeLink" ≠ "java/lang/invoke/VarHandle" := by decide
theorem tb_ni10 : Cond.initialized "AttributeLink" ∈ tb_ws := tb_mem (p := 1001) (by decide +kernel)
theorem tb_pn11 : plainName "AttributeLinkModel" = true := by decide +kernel
theorem tb_nm11 : "AttributeLinkModel" ≠ "java/lang/invoke/MethodHandle" ∧ "AttributeLinkModel" ≠ "java/lang/invoke/VarHandle" := by decide
theorem tb_ni11 : Cond.initialized "AttributeLinkModel" ∈ tb_ws := tb_mem (p := 1014) (by decide +kernel)
theorem tb_pn12 : plainName "AttributeLinkLaw" = true := by decide +kernel
theorem tb_nm12 : "AttributeLinkLaw" ≠ "java/lang/invoke/MethodHandle" ∧ "AttributeLinkLaw" ≠ "java/lang/invoke/VarHandle" := by decide
theorem tb_ni12 : Cond.initialized "AttributeLinkLaw" ∈ tb_ws := tb_mem (p := 1000) (by decide +kernel)
theorem tb_nm13 : "java/lang/Math" ≠ "java/lang/invoke/MethodHandle" ∧ "java/lang/Math" ≠ "java/lang/invoke/VarHandle" := by decide
theorem tb_ni13 : Cond.initialized "java/lang/Math" ∈ tb_ws := tb_mem (p := 1003) (by decide +kernel)
theorem tb_nm14 : "java/lang/Integer" ≠ "java/lang/invoke/MethodHandle" ∧ "java/lang/Integer" ≠ "java/lang/invoke/VarHandle" := by decide
theorem tb_ni14 : Cond.initialized "java/lang/Integer" ∈ tb_ws := tb_mem (p := 1004) (by decide +kernel)
theorem ok_Al_init : am_okm tb_G tb_own tb_ws 0 := ⟨plainFor_of_name tb_pn10, rfl, tb_nm10, by decide +kernel, by decide, tb_ni10, tb_mem2 (k := 1) (i := 27) (w := am_cw mt_Al_init) rfl rfl⟩
theorem ok_Ch_init : am_okm tb_G tb_own tb_ws 1 := ⟨plainFor_of_name tb_pn1, rfl, tb_nm1, by decide +kernel, by decide, tb_ni1, tb_mem2 (k := 1) (i := 35) (w := am_cw mt_Ch_init) rfl rfl⟩
theorem ok_Ma_floorMod : am_okm tb_G tb_own tb_ws 2 := ⟨by decide +kernel, rfl, tb_nm13, by decide +kernel, by decide, tb_ni13, tb_mem2 (k := 1) (i := 39) (w := am_cw mt_Ma_floorMod) rfl rfl⟩
theorem ok_Ch_countUsed : am_okm tb_G tb_own tb_ws 3 := ⟨plainFor_of_name tb_pn1, rfl, tb_nm1, by decide +kernel, by decide, tb_ni1, tb_mem2 (k := 1) (i := 42) (w := am_cw mt_Ch_countUsed) rfl rfl⟩
theorem ok_Ig_bitCount : am_okm tb_G tb_own tb_ws 4 := ⟨by decide +kernel, rfl, tb_nm14, by decide +kernel, by decide, tb_ni14, tb_mem2 (k := 1) (i := 45) (w := am_cw mt_Ig_bitCount) rfl rfl⟩
theorem ok_Ch_isMarked : am_okm tb_G tb_own tb_ws 5 := ⟨plainFor_of_name tb_pn1, rfl, tb_nm1, by decide +kernel, by decide, tb_ni1, tb_mem2 (k := 1) (i := 51) (w := am_cw mt_Ch_isMarked) rfl rfl⟩
theorem ok_Wh_init : am_okm tb_G tb_own tb_ws 6 := ⟨plainFor_of_name tb_pn9, rfl, tb_nm9, by decide +kernel, by decide, tb_ni9, tb_mem2 (k := 1) (i := 74) (w := am_cw mt_Wh_init) rfl rfl⟩
theorem ok_De_init : am_okm tb_G tb_own tb_ws 7 := ⟨plainFor_of_name tb_pn3, rfl, tb_nm3, by decide +kernel, by decide, tb_ni3, tb_mem2 (k := 1) (i := 84) (w := am_cw mt_De_init) rfl rfl⟩
theorem ok_Ou_init : am_okm tb_G tb_own tb_ws 8 := ⟨plainFor_of_name tb_pn6, rfl, tb_nm6, by decide +kernel, by decide, tb_ni6, tb_mem2 (k := 1) (i := 90) (w := am_cw mt_Ou_init) rfl rfl⟩
theorem ok_Ro_init : am_okm tb_G tb_own tb_ws 9 := ⟨plainFor_of_name tb_pn7, rfl, tb_nm7, by decide +kernel, by decide, tb_ni7, tb_mem2 (k := 1) (i := 97) (w := am_cw mt_Ro_init) rfl rfl⟩
theorem ok_In_init : am_okm tb_G tb_own tb_ws 10 := ⟨plainFor_of_name tb_pn4, rfl, tb_nm4, by decide +kernel, by decide, tb_ni4, tb_mem2 (k := 1) (i := 123) (w := am_cw mt_In_init) rfl rfl⟩
theorem ok_Cl_init : am_okm tb_G tb_own tb_ws 11 := ⟨plainFor_of_name tb_pn2, rfl, tb_nm2, by decide +kernel, by decide, tb_ni2, tb_mem2 (k := 1) (i := 181) (w := am_cw mt_Cl_init) rfl rfl⟩
theorem ok_No_init : am_okm tb_G tb_own tb_ws 12 := ⟨plainFor_of_name tb_pn5, rfl, tb_nm5, by decide +kernel, by decide, tb_ni5, tb_mem2 (k := 1) (i := 187) (w := am_cw mt_No_init) rfl rfl⟩
theorem ok_Ro_add : am_okm tb_G tb_own tb_ws 13 := ⟨plainFor_of_name tb_pn7, rfl, tb_nm7, by decide +kernel, by decide, tb_ni7, tb_mem2 (k := 1) (i := 206) (w := am_cw mt_Ro_add) rfl rfl⟩
theorem ok_Se_init : am_okm tb_G tb_own tb_ws 14 := ⟨plainFor_of_name tb_pn8, rfl, tb_nm8, by decide +kernel, by decide, tb_ni8, tb_mem2 (k := 2) (i := 13) (w := am_cw mt_Se_init) rfl rfl⟩
theorem ok_At_init : am_okm tb_G tb_own tb_ws 15 := ⟨plainFor_of_name tb_pn0, rfl, tb_nm0, by decide +kernel, by decide, tb_ni0, tb_mem2 (k := 2) (i := 20) (w := am_cw mt_At_init) rfl rfl⟩
theorem ok_Al_error : am_okm tb_G tb_own tb_ws 16 := ⟨plainFor_of_name tb_pn10, rfl, tb_nm10, by decide +kernel, by decide, tb_ni10, tb_mem2 (k := 2) (i := 93) (w := am_cw mt_Al_error) rfl rfl⟩
theorem ok_Cl_failure : am_okm tb_G tb_own tb_ws 17 := ⟨plainFor_of_name tb_pn2, rfl, tb_nm2, by decide +kernel, by decide, tb_ni2, tb_mem2 (k := 2) (i := 97) (w := am_cw mt_Cl_failure) rfl rfl⟩
theorem ok_Al_look : am_okm tb_G tb_own tb_ws 18 := ⟨plainFor_of_name tb_pn10, rfl, tb_nm10, by decide +kernel, by decide, tb_ni10, tb_mem2 (k := 2) (i := 101) (w := am_cw mt_Al_look) rfl rfl⟩
theorem ok_De_misses : am_okm tb_G tb_own tb_ws 19 := ⟨plainFor_of_name tb_pn3, rfl, tb_nm3, by decide +kernel, by decide, tb_ni3, tb_mem2 (k := 2) (i := 105) (w := am_cw mt_De_misses) rfl rfl⟩
theorem ok_Cl_limit : am_okm tb_G tb_own tb_ws 20 := ⟨plainFor_of_name tb_pn2, rfl, tb_nm2, by decide +kernel, by decide, tb_ni2, tb_mem2 (k := 2) (i := 109) (w := am_cw mt_Cl_limit) rfl rfl⟩
theorem ok_Se_limit : am_okm tb_G tb_own tb_ws 21 := ⟨plainFor_of_name tb_pn8, rfl, tb_nm8, by decide +kernel, by decide, tb_ni8, tb_mem2 (k := 2) (i := 113) (w := am_cw mt_Se_limit) rfl rfl⟩
theorem ok_Se_keptParts : am_okm tb_G tb_own tb_ws 22 := ⟨plainFor_of_name tb_pn8, rfl, tb_nm8, by decide +kernel, by decide, tb_ni8, tb_mem2 (k := 2) (i := 117) (w := am_cw mt_Se_keptParts) rfl rfl⟩
theorem ok_Se_isUnconfirmed : am_okm tb_G tb_own tb_ws 23 := ⟨plainFor_of_name tb_pn8, rfl, tb_nm8, by decide +kernel, by decide, tb_ni8, tb_mem2 (k := 2) (i := 121) (w := am_cw mt_Se_isUnconfirmed) rfl rfl⟩
theorem ok_La_cell : am_okm tb_G tb_own tb_ws 24 := ⟨plainFor_of_name tb_pn12, rfl, tb_nm12, by decide +kernel, by decide, tb_ni12, tb_mem2 (k := 2) (i := 124) (w := am_cw mt_La_cell) rfl rfl⟩
theorem ok_La_attribute : am_okm tb_G tb_own tb_ws 25 := ⟨plainFor_of_name tb_pn12, rfl, tb_nm12, by decide +kernel, by decide, tb_ni12, tb_mem2 (k := 2) (i := 127) (w := am_cw mt_La_attribute) rfl rfl⟩
theorem ok_Al_attribute : am_okm tb_G tb_own tb_ws 26 := ⟨plainFor_of_name tb_pn10, rfl, tb_nm10, by decide +kernel, by decide, tb_ni10, tb_mem2 (k := 2) (i := 133) (w := am_cw mt_Al_attribute) rfl rfl⟩
theorem ok_Al_isByte : am_okm tb_G tb_own tb_ws 27 := ⟨plainFor_of_name tb_pn10, rfl, tb_nm10, by decide +kernel, by decide, tb_ni10, tb_mem2 (k := 2) (i := 136) (w := am_cw mt_Al_isByte) rfl rfl⟩
theorem ok_Al_isNumberSize : am_okm tb_G tb_own tb_ws 28 := ⟨plainFor_of_name tb_pn10, rfl, tb_nm10, by decide +kernel, by decide, tb_ni10, tb_mem2 (k := 2) (i := 139) (w := am_cw mt_Al_isNumberSize) rfl rfl⟩
theorem ok_Se_isFull : am_okm tb_G tb_own tb_ws 29 := ⟨plainFor_of_name tb_pn8, rfl, tb_nm8, by decide +kernel, by decide, tb_ni8, tb_mem2 (k := 2) (i := 207) (w := am_cw mt_Se_isFull) rfl rfl⟩
theorem ok_Se_addAttribute : am_okm tb_G tb_own tb_ws 30 := ⟨plainFor_of_name tb_pn8, rfl, tb_nm8, by decide +kernel, by decide, tb_ni8, tb_mem2 (k := 2) (i := 226) (w := am_cw mt_Se_addAttribute) rfl rfl⟩
theorem ok_At_become : am_okm tb_G tb_own tb_ws 31 := ⟨plainFor_of_name tb_pn0, rfl, tb_nm0, by decide +kernel, by decide, tb_ni0, tb_mem2 (k := 2) (i := 230) (w := am_cw mt_At_become) rfl rfl⟩
theorem ok_Ro_addNumber : am_okm tb_G tb_own tb_ws 32 := ⟨plainFor_of_name tb_pn7, rfl, tb_nm7, by decide +kernel, by decide, tb_ni7, tb_mem2 (k := 2) (i := 234) (w := am_cw mt_Ro_addNumber) rfl rfl⟩
theorem ok_La_put : am_okm tb_G tb_own tb_ws 33 := ⟨plainFor_of_name tb_pn12, rfl, tb_nm12, by decide +kernel, by decide, tb_ni12, tb_mem2 (k := 2) (i := 238) (w := am_cw mt_La_put) rfl rfl⟩
theorem ok_Al_put : am_okm tb_G tb_own tb_ws 34 := ⟨plainFor_of_name tb_pn10, rfl, tb_nm10, by decide +kernel, by decide, tb_ni10, tb_mem2 (k := 3) (i := 2) (w := am_cw mt_Al_put) rfl rfl⟩
theorem ok_Se_hasHandle : am_okm tb_G tb_own tb_ws 35 := ⟨plainFor_of_name tb_pn8, rfl, tb_nm8, by decide +kernel, by decide, tb_ni8, tb_mem2 (k := 3) (i := 6) (w := am_cw mt_Se_hasHandle) rfl rfl⟩
theorem ok_Se_valueOf : am_okm tb_G tb_own tb_ws 36 := ⟨plainFor_of_name tb_pn8, rfl, tb_nm8, by decide +kernel, by decide, tb_ni8, tb_mem2 (k := 3) (i := 10) (w := am_cw mt_Se_valueOf) rfl rfl⟩
theorem ok_Ro_length : am_okm tb_G tb_own tb_ws 37 := ⟨plainFor_of_name tb_pn7, rfl, tb_nm7, by decide +kernel, by decide, tb_ni7, tb_mem2 (k := 3) (i := 14) (w := am_cw mt_Ro_length) rfl rfl⟩
theorem ok_Ro_clear : am_okm tb_G tb_own tb_ws 38 := ⟨plainFor_of_name tb_pn7, rfl, tb_nm7, by decide +kernel, by decide, tb_ni7, tb_mem2 (k := 3) (i := 18) (w := am_cw mt_Ro_clear) rfl rfl⟩
theorem ok_La_tell : am_okm tb_G tb_own tb_ws 39 := ⟨plainFor_of_name tb_pn12, rfl, tb_nm12, by decide +kernel, by decide, tb_ni12, tb_mem2 (k := 3) (i := 22) (w := am_cw mt_La_tell) rfl rfl⟩
theorem ok_Al_tell : am_okm tb_G tb_own tb_ws 40 := ⟨plainFor_of_name tb_pn10, rfl, tb_nm10, by decide +kernel, by decide, tb_ni10, tb_mem2 (k := 3) (i := 26) (w := am_cw mt_Al_tell) rfl rfl⟩
theorem ok_Ou_waiting : am_okm tb_G tb_own tb_ws 41 := ⟨plainFor_of_name tb_pn6, rfl, tb_nm6, by decide +kernel, by decide, tb_ni6, tb_mem2 (k := 3) (i := 30) (w := am_cw mt_Ou_waiting) rfl rfl⟩
theorem ok_Se_sayByItself : am_okm tb_G tb_own tb_ws 42 := ⟨plainFor_of_name tb_pn8, rfl, tb_nm8, by decide +kernel, by decide, tb_ni8, tb_mem2 (k := 3) (i := 34) (w := am_cw mt_Se_sayByItself) rfl rfl⟩
theorem ok_Ro_addFrom : am_okm tb_G tb_own tb_ws 43 := ⟨plainFor_of_name tb_pn7, rfl, tb_nm7, by decide +kernel, by decide, tb_ni7, tb_mem2 (k := 3) (i := 41) (w := am_cw mt_Ro_addFrom) rfl rfl⟩
theorem ok_Ou_give : am_okm tb_G tb_own tb_ws 44 := ⟨plainFor_of_name tb_pn6, rfl, tb_nm6, by decide +kernel, by decide, tb_ni6, tb_mem2 (k := 3) (i := 51) (w := am_cw mt_Ou_give) rfl rfl⟩
theorem ok_La_begin : am_okm tb_G tb_own tb_ws 45 := ⟨plainFor_of_name tb_pn12, rfl, tb_nm12, by decide +kernel, by decide, tb_ni12, tb_mem2 (k := 3) (i := 58) (w := am_cw mt_La_begin) rfl rfl⟩
theorem ok_Al_begin : am_okm tb_G tb_own tb_ws 46 := ⟨plainFor_of_name tb_pn10, rfl, tb_nm10, by decide +kernel, by decide, tb_ni10, tb_mem2 (k := 3) (i := 62) (w := am_cw mt_Al_begin) rfl rfl⟩
theorem ok_Al_requireIdleClient : am_okm tb_G tb_own tb_ws 47 := ⟨plainFor_of_name tb_pn10, rfl, tb_nm10, by decide +kernel, by decide, tb_ni10, tb_mem2 (k := 3) (i := 66) (w := am_cw mt_Al_requireIdleClient) rfl rfl⟩
theorem ok_Cl_mayStart : am_okm tb_G tb_own tb_ws 48 := ⟨plainFor_of_name tb_pn2, rfl, tb_nm2, by decide +kernel, by decide, tb_ni2, tb_mem2 (k := 3) (i := 70) (w := am_cw mt_Cl_mayStart) rfl rfl⟩
theorem ok_Cl_start : am_okm tb_G tb_own tb_ws 49 := ⟨plainFor_of_name tb_pn2, rfl, tb_nm2, by decide +kernel, by decide, tb_ni2, tb_mem2 (k := 3) (i := 74) (w := am_cw mt_Cl_start) rfl rfl⟩
theorem ok_Cl_composeFirst : am_okm tb_G tb_own tb_ws 50 := ⟨plainFor_of_name tb_pn2, rfl, tb_nm2, by decide +kernel, by decide, tb_ni2, tb_mem2 (k := 3) (i := 80) (w := am_cw mt_Cl_composeFirst) rfl rfl⟩
theorem ok_Cl_compose : am_okm tb_G tb_own tb_ws 51 := ⟨plainFor_of_name tb_pn2, rfl, tb_nm2, by decide +kernel, by decide, tb_ni2, tb_mem2 (k := 3) (i := 84) (w := am_cw mt_Cl_compose) rfl rfl⟩
theorem ok_Cl_composeFind : am_okm tb_G tb_own tb_ws 52 := ⟨plainFor_of_name tb_pn2, rfl, tb_nm2, by decide +kernel, by decide, tb_ni2, tb_mem2 (k := 3) (i := 88) (w := am_cw mt_Cl_composeFind) rfl rfl⟩
theorem ok_Cl_composePart : am_okm tb_G tb_own tb_ws 53 := ⟨plainFor_of_name tb_pn2, rfl, tb_nm2, by decide +kernel, by decide, tb_ni2, tb_mem2 (k := 3) (i := 93) (w := am_cw mt_Cl_composePart) rfl rfl⟩
theorem ok_Cl_ask : am_okm tb_G tb_own tb_ws 54 := ⟨plainFor_of_name tb_pn2, rfl, tb_nm2, by decide +kernel, by decide, tb_ni2, tb_mem2 (k := 3) (i := 97) (w := am_cw mt_Cl_ask) rfl rfl⟩
theorem ok_La_write : am_okm tb_G tb_own tb_ws 55 := ⟨plainFor_of_name tb_pn12, rfl, tb_nm12, by decide +kernel, by decide, tb_ni12, tb_mem2 (k := 3) (i := 101) (w := am_cw mt_La_write) rfl rfl⟩
theorem ok_Al_write : am_okm tb_G tb_own tb_ws 56 := ⟨plainFor_of_name tb_pn10, rfl, tb_nm10, by decide +kernel, by decide, tb_ni10, tb_mem2 (k := 3) (i := 105) (w := am_cw mt_Al_write) rfl rfl⟩
theorem ok_La_raw : am_okm tb_G tb_own tb_ws 57 := ⟨plainFor_of_name tb_pn12, rfl, tb_nm12, by decide +kernel, by decide, tb_ni12, tb_mem2 (k := 3) (i := 108) (w := am_cw mt_La_raw) rfl rfl⟩
theorem ok_Al_raw : am_okm tb_G tb_own tb_ws 58 := ⟨plainFor_of_name tb_pn10, rfl, tb_nm10, by decide +kernel, by decide, tb_ni10, tb_mem2 (k := 3) (i := 112) (w := am_cw mt_Al_raw) rfl rfl⟩
theorem ok_La_event : am_okm tb_G tb_own tb_ws 59 := ⟨plainFor_of_name tb_pn12, rfl, tb_nm12, by decide +kernel, by decide, tb_ni12, tb_mem2 (k := 3) (i := 115) (w := am_cw mt_La_event) rfl rfl⟩
theorem ok_Al_event : am_okm tb_G tb_own tb_ws 60 := ⟨plainFor_of_name tb_pn10, rfl, tb_nm10, by decide +kernel, by decide, tb_ni10, tb_mem2 (k := 3) (i := 119) (w := am_cw mt_Al_event) rfl rfl⟩
theorem ok_Al_exchange : am_okm tb_G tb_own tb_ws 61 := ⟨plainFor_of_name tb_pn10, rfl, tb_nm10, by decide +kernel, by decide, tb_ni10, tb_mem2 (k := 3) (i := 123) (w := am_cw mt_Al_exchange) rfl rfl⟩
theorem ok_Ch_advance : am_okm tb_G tb_own tb_ws 62 := ⟨plainFor_of_name tb_pn1, rfl, tb_nm1, by decide +kernel, by decide, tb_ni1, tb_mem2 (k := 3) (i := 127) (w := am_cw mt_Ch_advance) rfl rfl⟩
theorem ok_Wh_tune : am_okm tb_G tb_own tb_ws 63 := ⟨plainFor_of_name tb_pn9, rfl, tb_nm9, by decide +kernel, by decide, tb_ni9, tb_mem2 (k := 3) (i := 131) (w := am_cw mt_Wh_tune) rfl rfl⟩
theorem ok_De_send : am_okm tb_G tb_own tb_ws 64 := ⟨plainFor_of_name tb_pn3, rfl, tb_nm3, by decide +kernel, by decide, tb_ni3, tb_mem2 (k := 3) (i := 135) (w := am_cw mt_De_send) rfl rfl⟩
theorem ok_Ou_takePiece : am_okm tb_G tb_own tb_ws 65 := ⟨plainFor_of_name tb_pn6, rfl, tb_nm6, by decide +kernel, by decide, tb_ni6, tb_mem2 (k := 3) (i := 139) (w := am_cw mt_Ou_takePiece) rfl rfl⟩
theorem ok_De_checkOf : am_okm tb_G tb_own tb_ws 66 := ⟨plainFor_of_name tb_pn3, rfl, tb_nm3, by decide +kernel, by decide, tb_ni3, tb_mem2 (k := 3) (i := 146) (w := am_cw mt_De_checkOf) rfl rfl⟩
theorem ok_Ro_at : am_okm tb_G tb_own tb_ws 67 := ⟨plainFor_of_name tb_pn7, rfl, tb_nm7, by decide +kernel, by decide, tb_ni7, tb_mem2 (k := 3) (i := 151) (w := am_cw mt_Ro_at) rfl rfl⟩
theorem ok_Wh_turnOver : am_okm tb_G tb_own tb_ws 68 := ⟨plainFor_of_name tb_pn9, rfl, tb_nm9, by decide +kernel, by decide, tb_ni9, tb_mem2 (k := 3) (i := 157) (w := am_cw mt_Wh_turnOver) rfl rfl⟩
theorem ok_De_hear : am_okm tb_G tb_own tb_ws 69 := ⟨plainFor_of_name tb_pn3, rfl, tb_nm3, by decide +kernel, by decide, tb_ni3, tb_mem2 (k := 3) (i := 161) (w := am_cw mt_De_hear) rfl rfl⟩
theorem ok_In_forgetDone : am_okm tb_G tb_own tb_ws 70 := ⟨plainFor_of_name tb_pn4, rfl, tb_nm4, by decide +kernel, by decide, tb_ni4, tb_mem2 (k := 3) (i := 165) (w := am_cw mt_In_forgetDone) rfl rfl⟩
theorem ok_De_spoilAt : am_okm tb_G tb_own tb_ws 71 := ⟨plainFor_of_name tb_pn3, rfl, tb_nm3, by decide +kernel, by decide, tb_ni3, tb_mem2 (k := 3) (i := 168) (w := am_cw mt_De_spoilAt) rfl rfl⟩
theorem ok_De_isGood : am_okm tb_G tb_own tb_ws 72 := ⟨plainFor_of_name tb_pn3, rfl, tb_nm3, by decide +kernel, by decide, tb_ni3, tb_mem2 (k := 3) (i := 172) (w := am_cw mt_De_isGood) rfl rfl⟩
theorem ok_De_accept : am_okm tb_G tb_own tb_ws 73 := ⟨plainFor_of_name tb_pn3, rfl, tb_nm3, by decide +kernel, by decide, tb_ni3, tb_mem2 (k := 3) (i := 176) (w := am_cw mt_De_accept) rfl rfl⟩
theorem ok_In_take : am_okm tb_G tb_own tb_ws 74 := ⟨plainFor_of_name tb_pn4, rfl, tb_nm4, by decide +kernel, by decide, tb_ni4, tb_mem2 (k := 3) (i := 180) (w := am_cw mt_In_take) rfl rfl⟩
theorem ok_In_isSound : am_okm tb_G tb_own tb_ws 75 := ⟨plainFor_of_name tb_pn4, rfl, tb_nm4, by decide +kernel, by decide, tb_ni4, tb_mem2 (k := 3) (i := 187) (w := am_cw mt_In_isSound) rfl rfl⟩
theorem ok_In_isDone : am_okm tb_G tb_own tb_ws 76 := ⟨plainFor_of_name tb_pn4, rfl, tb_nm4, by decide +kernel, by decide, tb_ni4, tb_mem2 (k := 3) (i := 192) (w := am_cw mt_In_isDone) rfl rfl⟩
theorem ok_Se_serve : am_okm tb_G tb_own tb_ws 77 := ⟨plainFor_of_name tb_pn8, rfl, tb_nm8, by decide +kernel, by decide, tb_ni8, tb_mem2 (k := 3) (i := 196) (w := am_cw mt_Se_serve) rfl rfl⟩
theorem ok_Se_shapeError : am_okm tb_G tb_own tb_ws 78 := ⟨plainFor_of_name tb_pn8, rfl, tb_nm8, by decide +kernel, by decide, tb_ni8, tb_mem2 (k := 3) (i := 201) (w := am_cw mt_Se_shapeError) rfl rfl⟩
theorem ok_Se_answerTo : am_okm tb_G tb_own tb_ws 79 := ⟨plainFor_of_name tb_pn8, rfl, tb_nm8, by decide +kernel, by decide, tb_ni8, tb_mem2 (k := 3) (i := 205) (w := am_cw mt_Se_answerTo) rfl rfl⟩
theorem ok_Al_boundedLimit : am_okm tb_G tb_own tb_ws 80 := ⟨plainFor_of_name tb_pn10, rfl, tb_nm10, by decide +kernel, by decide, tb_ni10, tb_mem2 (k := 3) (i := 208) (w := am_cw mt_Al_boundedLimit) rfl rfl⟩
theorem ok_Se_answerFind : am_okm tb_G tb_own tb_ws 81 := ⟨plainFor_of_name tb_pn8, rfl, tb_nm8, by decide +kernel, by decide, tb_ni8, tb_mem2 (k := 3) (i := 216) (w := am_cw mt_Se_answerFind) rfl rfl⟩
theorem ok_At_isOfType : am_okm tb_G tb_own tb_ws 82 := ⟨plainFor_of_name tb_pn0, rfl, tb_nm0, by decide +kernel, by decide, tb_ni0, tb_mem2 (k := 3) (i := 221) (w := am_cw mt_At_isOfType) rfl rfl⟩
theorem ok_Se_answerEnd : am_okm tb_G tb_own tb_ws 83 := ⟨plainFor_of_name tb_pn8, rfl, tb_nm8, by decide +kernel, by decide, tb_ni8, tb_mem2 (k := 3) (i := 225) (w := am_cw mt_Se_answerEnd) rfl rfl⟩
theorem ok_Se_planParts : am_okm tb_G tb_own tb_ws 84 := ⟨plainFor_of_name tb_pn8, rfl, tb_nm8, by decide +kernel, by decide, tb_ni8, tb_mem2 (k := 3) (i := 229) (w := am_cw mt_Se_planParts) rfl rfl⟩
theorem ok_Ro_overlay : am_okm tb_G tb_own tb_ws 85 := ⟨plainFor_of_name tb_pn7, rfl, tb_nm7, by decide +kernel, by decide, tb_ni7, tb_mem2 (k := 3) (i := 233) (w := am_cw mt_Ro_overlay) rfl rfl⟩
theorem ok_Se_answerAccess : am_okm tb_G tb_own tb_ws 86 := ⟨plainFor_of_name tb_pn8, rfl, tb_nm8, by decide +kernel, by decide, tb_ni8, tb_mem2 (k := 3) (i := 238) (w := am_cw mt_Se_answerAccess) rfl rfl⟩
theorem ok_At_isReadable : am_okm tb_G tb_own tb_ws 87 := ⟨plainFor_of_name tb_pn0, rfl, tb_nm0, by decide +kernel, by decide, tb_ni0, tb_mem2 (k := 4) (i := 3) (w := am_cw mt_At_isReadable) rfl rfl⟩
theorem ok_Se_answerRead : am_okm tb_G tb_own tb_ws 88 := ⟨plainFor_of_name tb_pn8, rfl, tb_nm8, by decide +kernel, by decide, tb_ni8, tb_mem2 (k := 4) (i := 7) (w := am_cw mt_Se_answerRead) rfl rfl⟩
theorem ok_At_isWritable : am_okm tb_G tb_own tb_ws 89 := ⟨plainFor_of_name tb_pn0, rfl, tb_nm0, by decide +kernel, by decide, tb_ni0, tb_mem2 (k := 4) (i := 11) (w := am_cw mt_At_isWritable) rfl rfl⟩
theorem ok_Se_answerWrite : am_okm tb_G tb_own tb_ws 90 := ⟨plainFor_of_name tb_pn8, rfl, tb_nm8, by decide +kernel, by decide, tb_ni8, tb_mem2 (k := 4) (i := 15) (w := am_cw mt_Se_answerWrite) rfl rfl⟩
theorem ok_Se_answerPart : am_okm tb_G tb_own tb_ws 91 := ⟨plainFor_of_name tb_pn8, rfl, tb_nm8, by decide +kernel, by decide, tb_ni8, tb_mem2 (k := 4) (i := 19) (w := am_cw mt_Se_answerPart) rfl rfl⟩
theorem ok_Se_answerError : am_okm tb_G tb_own tb_ws 92 := ⟨plainFor_of_name tb_pn8, rfl, tb_nm8, by decide +kernel, by decide, tb_ni8, tb_mem2 (k := 4) (i := 23) (w := am_cw mt_Se_answerError) rfl rfl⟩
theorem ok_Cl_listen : am_okm tb_G tb_own tb_ws 93 := ⟨plainFor_of_name tb_pn2, rfl, tb_nm2, by decide +kernel, by decide, tb_ni2, tb_mem2 (k := 4) (i := 27) (w := am_cw mt_Cl_listen) rfl rfl⟩
theorem ok_Cl_keepNote : am_okm tb_G tb_own tb_ws 94 := ⟨plainFor_of_name tb_pn2, rfl, tb_nm2, by decide +kernel, by decide, tb_ni2, tb_mem2 (k := 4) (i := 32) (w := am_cw mt_Cl_keepNote) rfl rfl⟩
theorem ok_No_keep : am_okm tb_G tb_own tb_ws 95 := ⟨plainFor_of_name tb_pn5, rfl, tb_nm5, by decide +kernel, by decide, tb_ni5, tb_mem2 (k := 4) (i := 37) (w := am_cw mt_No_keep) rfl rfl⟩
theorem ok_Cl_endsWith : am_okm tb_G tb_own tb_ws 96 := ⟨plainFor_of_name tb_pn2, rfl, tb_nm2, by decide +kernel, by decide, tb_ni2, tb_mem2 (k := 4) (i := 44) (w := am_cw mt_Cl_endsWith) rfl rfl⟩
theorem ok_Cl_succeed : am_okm tb_G tb_own tb_ws 97 := ⟨plainFor_of_name tb_pn2, rfl, tb_nm2, by decide +kernel, by decide, tb_ni2, tb_mem2 (k := 4) (i := 48) (w := am_cw mt_Cl_succeed) rfl rfl⟩
theorem ok_Cl_fail : am_okm tb_G tb_own tb_ws 98 := ⟨plainFor_of_name tb_pn2, rfl, tb_nm2, by decide +kernel, by decide, tb_ni2, tb_mem2 (k := 4) (i := 52) (w := am_cw mt_Cl_fail) rfl rfl⟩
theorem ok_Cl_takeError : am_okm tb_G tb_own tb_ws 99 := ⟨plainFor_of_name tb_pn2, rfl, tb_nm2, by decide +kernel, by decide, tb_ni2, tb_mem2 (k := 4) (i := 56) (w := am_cw mt_Cl_takeError) rfl rfl⟩
theorem ok_Cl_neededBytes : am_okm tb_G tb_own tb_ws 100 := ⟨plainFor_of_name tb_pn2, rfl, tb_nm2, by decide +kernel, by decide, tb_ni2, tb_mem2 (k := 4) (i := 60) (w := am_cw mt_Cl_neededBytes) rfl rfl⟩
theorem ok_Cl_goOn : am_okm tb_G tb_own tb_ws 101 := ⟨plainFor_of_name tb_pn2, rfl, tb_nm2, by decide +kernel, by decide, tb_ni2, tb_mem2 (k := 4) (i := 64) (w := am_cw mt_Cl_goOn) rfl rfl⟩
theorem ok_Cl_goOnReading : am_okm tb_G tb_own tb_ws 102 := ⟨plainFor_of_name tb_pn2, rfl, tb_nm2, by decide +kernel, by decide, tb_ni2, tb_mem2 (k := 4) (i := 70) (w := am_cw mt_Cl_goOnReading) rfl rfl⟩
theorem ok_Ro_cut : am_okm tb_G tb_own tb_ws 103 := ⟨plainFor_of_name tb_pn7, rfl, tb_nm7, by decide +kernel, by decide, tb_ni7, tb_mem2 (k := 4) (i := 74) (w := am_cw mt_Ro_cut) rfl rfl⟩
theorem ok_Cl_goOnFinding : am_okm tb_G tb_own tb_ws 104 := ⟨plainFor_of_name tb_pn2, rfl, tb_nm2, by decide +kernel, by decide, tb_ni2, tb_mem2 (k := 4) (i := 78) (w := am_cw mt_Cl_goOnFinding) rfl rfl⟩
theorem ok_Cl_goOnWriting : am_okm tb_G tb_own tb_ws 105 := ⟨plainFor_of_name tb_pn2, rfl, tb_nm2, by decide +kernel, by decide, tb_ni2, tb_mem2 (k := 4) (i := 82) (w := am_cw mt_Cl_goOnWriting) rfl rfl⟩
theorem ok_Ro_isSameFrom : am_okm tb_G tb_own tb_ws 106 := ⟨plainFor_of_name tb_pn7, rfl, tb_nm7, by decide +kernel, by decide, tb_ni7, tb_mem2 (k := 4) (i := 86) (w := am_cw mt_Ro_isSameFrom) rfl rfl⟩
theorem ok_Al_finish : am_okm tb_G tb_own tb_ws 107 := ⟨plainFor_of_name tb_pn10, rfl, tb_nm10, by decide +kernel, by decide, tb_ni10, tb_mem2 (k := 4) (i := 91) (w := am_cw mt_Al_finish) rfl rfl⟩
theorem ok_De_countMiss : am_okm tb_G tb_own tb_ws 108 := ⟨plainFor_of_name tb_pn3, rfl, tb_nm3, by decide +kernel, by decide, tb_ni3, tb_mem2 (k := 4) (i := 95) (w := am_cw mt_De_countMiss) rfl rfl⟩
theorem ok_Cl_endEvent : am_okm tb_G tb_own tb_ws 109 := ⟨plainFor_of_name tb_pn2, rfl, tb_nm2, by decide +kernel, by decide, tb_ni2, tb_mem2 (k := 4) (i := 99) (w := am_cw mt_Cl_endEvent) rfl rfl⟩
theorem ok_La_run : am_okm tb_G tb_own tb_ws 110 := ⟨plainFor_of_name tb_pn12, rfl, tb_nm12, by decide +kernel, by decide, tb_ni12, tb_mem2 (k := 4) (i := 102) (w := am_cw mt_La_run) rfl rfl⟩
theorem ok_Al_run : am_okm tb_G tb_own tb_ws 111 := ⟨plainFor_of_name tb_pn10, rfl, tb_nm10, by decide +kernel, by decide, tb_ni10, tb_mem2 (k := 4) (i := 106) (w := am_cw mt_Al_run) rfl rfl⟩
theorem ok_La_outcome : am_okm tb_G tb_own tb_ws 112 := ⟨plainFor_of_name tb_pn12, rfl, tb_nm12, by decide +kernel, by decide, tb_ni12, tb_mem2 (k := 4) (i := 109) (w := am_cw mt_La_outcome) rfl rfl⟩
theorem ok_Al_outcome : am_okm tb_G tb_own tb_ws 113 := ⟨plainFor_of_name tb_pn10, rfl, tb_nm10, by decide +kernel, by decide, tb_ni10, tb_mem2 (k := 4) (i := 114) (w := am_cw mt_Al_outcome) rfl rfl⟩
theorem ok_Cl_state : am_okm tb_G tb_own tb_ws 114 := ⟨plainFor_of_name tb_pn2, rfl, tb_nm2, by decide +kernel, by decide, tb_ni2, tb_mem2 (k := 4) (i := 118) (w := am_cw mt_Cl_state) rfl rfl⟩
theorem ok_La_data : am_okm tb_G tb_own tb_ws 115 := ⟨plainFor_of_name tb_pn12, rfl, tb_nm12, by decide +kernel, by decide, tb_ni12, tb_mem2 (k := 4) (i := 136) (w := am_cw mt_La_data) rfl rfl⟩
theorem ok_Al_data : am_okm tb_G tb_own tb_ws 116 := ⟨plainFor_of_name tb_pn10, rfl, tb_nm10, by decide +kernel, by decide, tb_ni10, tb_mem2 (k := 4) (i := 141) (w := am_cw mt_Al_data) rfl rfl⟩
theorem ok_Al_byteOrLength : am_okm tb_G tb_own tb_ws 117 := ⟨plainFor_of_name tb_pn10, rfl, tb_nm10, by decide +kernel, by decide, tb_ni10, tb_mem2 (k := 4) (i := 144) (w := am_cw mt_Al_byteOrLength) rfl rfl⟩
theorem ok_Ro_has : am_okm tb_G tb_own tb_ws 118 := ⟨plainFor_of_name tb_pn7, rfl, tb_nm7, by decide +kernel, by decide, tb_ni7, tb_mem2 (k := 4) (i := 148) (w := am_cw mt_Ro_has) rfl rfl⟩
theorem ok_La_note : am_okm tb_G tb_own tb_ws 119 := ⟨plainFor_of_name tb_pn12, rfl, tb_nm12, by decide +kernel, by decide, tb_ni12, tb_mem2 (k := 4) (i := 167) (w := am_cw mt_La_note) rfl rfl⟩
theorem ok_Al_note : am_okm tb_G tb_own tb_ws 120 := ⟨plainFor_of_name tb_pn10, rfl, tb_nm10, by decide +kernel, by decide, tb_ni10, tb_mem2 (k := 4) (i := 171) (w := am_cw mt_Al_note) rfl rfl⟩
theorem ok_No_has : am_okm tb_G tb_own tb_ws 121 := ⟨plainFor_of_name tb_pn5, rfl, tb_nm5, by decide +kernel, by decide, tb_ni5, tb_mem2 (k := 4) (i := 175) (w := am_cw mt_No_has) rfl rfl⟩
theorem ok_No_latest : am_okm tb_G tb_own tb_ws 122 := ⟨plainFor_of_name tb_pn5, rfl, tb_nm5, by decide +kernel, by decide, tb_ni5, tb_mem2 (k := 4) (i := 179) (w := am_cw mt_No_latest) rfl rfl⟩
theorem ok_La_value : am_okm tb_G tb_own tb_ws 123 := ⟨plainFor_of_name tb_pn12, rfl, tb_nm12, by decide +kernel, by decide, tb_ni12, tb_mem2 (k := 4) (i := 183) (w := am_cw mt_La_value) rfl rfl⟩
theorem ok_Al_value : am_okm tb_G tb_own tb_ws 124 := ⟨plainFor_of_name tb_pn10, rfl, tb_nm10, by decide +kernel, by decide, tb_ni10, tb_mem2 (k := 4) (i := 187) (w := am_cw mt_Al_value) rfl rfl⟩
theorem ok_La_air : am_okm tb_G tb_own tb_ws 125 := ⟨plainFor_of_name tb_pn12, rfl, tb_nm12, by decide +kernel, by decide, tb_ni12, tb_mem2 (k := 4) (i := 190) (w := am_cw mt_La_air) rfl rfl⟩
theorem ok_Al_air : am_okm tb_G tb_own tb_ws 126 := ⟨plainFor_of_name tb_pn10, rfl, tb_nm10, by decide +kernel, by decide, tb_ni10, tb_mem2 (k := 4) (i := 194) (w := am_cw mt_Al_air) rfl rfl⟩
theorem ok_Mo_init : am_okm tb_G tb_own tb_ws 127 := ⟨plainFor_of_name tb_pn11, rfl, tb_nm11, by decide +kernel, by decide, tb_ni11, tb_mem2 (k := 4) (i := 199) (w := am_cw mt_Mo_init) rfl rfl⟩
theorem ok_Mo_thrown : am_okm tb_G tb_own tb_ws 128 := ⟨plainFor_of_name tb_pn11, rfl, tb_nm11, by decide +kernel, by decide, tb_ni11, tb_mem2 (k := 5) (i := 151) (w := am_cw mt_Mo_thrown) rfl rfl⟩
theorem ok_Mo_attribute : am_okm tb_G tb_own tb_ws 129 := ⟨plainFor_of_name tb_pn11, rfl, tb_nm11, by decide +kernel, by decide, tb_ni11, tb_mem2 (k := 5) (i := 155) (w := am_cw mt_Mo_attribute) rfl rfl⟩
theorem ok_Mo_byteOf : am_okm tb_G tb_own tb_ws 130 := ⟨plainFor_of_name tb_pn11, rfl, tb_nm11, by decide +kernel, by decide, tb_ni11, tb_mem2 (k := 5) (i := 158) (w := am_cw mt_Mo_byteOf) rfl rfl⟩
theorem ok_Mo_put : am_okm tb_G tb_own tb_ws 131 := ⟨plainFor_of_name tb_pn11, rfl, tb_nm11, by decide +kernel, by decide, tb_ni11, tb_mem2 (k := 5) (i := 163) (w := am_cw mt_Mo_put) rfl rfl⟩
theorem ok_Mo_tell : am_okm tb_G tb_own tb_ws 132 := ⟨plainFor_of_name tb_pn11, rfl, tb_nm11, by decide +kernel, by decide, tb_ni11, tb_mem2 (k := 5) (i := 167) (w := am_cw mt_Mo_tell) rfl rfl⟩
theorem ok_Mo_start : am_okm tb_G tb_own tb_ws 133 := ⟨plainFor_of_name tb_pn11, rfl, tb_nm11, by decide +kernel, by decide, tb_ni11, tb_mem2 (k := 5) (i := 171) (w := am_cw mt_Mo_start) rfl rfl⟩
theorem ok_Mo_lay : am_okm tb_G tb_own tb_ws 134 := ⟨plainFor_of_name tb_pn11, rfl, tb_nm11, by decide +kernel, by decide, tb_ni11, tb_mem2 (k := 5) (i := 175) (w := am_cw mt_Mo_lay) rfl rfl⟩
theorem ok_Mo_give : am_okm tb_G tb_own tb_ws 135 := ⟨plainFor_of_name tb_pn11, rfl, tb_nm11, by decide +kernel, by decide, tb_ni11, tb_mem2 (k := 5) (i := 179) (w := am_cw mt_Mo_give) rfl rfl⟩
theorem ok_Mo_begin : am_okm tb_G tb_own tb_ws 136 := ⟨plainFor_of_name tb_pn11, rfl, tb_nm11, by decide +kernel, by decide, tb_ni11, tb_mem2 (k := 5) (i := 183) (w := am_cw mt_Mo_begin) rfl rfl⟩
theorem ok_Mo_free : am_okm tb_G tb_own tb_ws 137 := ⟨plainFor_of_name tb_pn11, rfl, tb_nm11, by decide +kernel, by decide, tb_ni11, tb_mem2 (k := 5) (i := 187) (w := am_cw mt_Mo_free) rfl rfl⟩
theorem ok_Mo_open : am_okm tb_G tb_own tb_ws 138 := ⟨plainFor_of_name tb_pn11, rfl, tb_nm11, by decide +kernel, by decide, tb_ni11, tb_mem2 (k := 5) (i := 191) (w := am_cw mt_Mo_open) rfl rfl⟩
theorem ok_Mo_ask : am_okm tb_G tb_own tb_ws 139 := ⟨plainFor_of_name tb_pn11, rfl, tb_nm11, by decide +kernel, by decide, tb_ni11, tb_mem2 (k := 5) (i := 195) (w := am_cw mt_Mo_ask) rfl rfl⟩
theorem ok_Mo_write : am_okm tb_G tb_own tb_ws 140 := ⟨plainFor_of_name tb_pn11, rfl, tb_nm11, by decide +kernel, by decide, tb_ni11, tb_mem2 (k := 5) (i := 199) (w := am_cw mt_Mo_write) rfl rfl⟩
theorem ok_Mo_writeOn : am_okm tb_G tb_own tb_ws 141 := ⟨plainFor_of_name tb_pn11, rfl, tb_nm11, by decide +kernel, by decide, tb_ni11, tb_mem2 (k := 5) (i := 203) (w := am_cw mt_Mo_writeOn) rfl rfl⟩
theorem ok_Mo_raw : am_okm tb_G tb_own tb_ws 142 := ⟨plainFor_of_name tb_pn11, rfl, tb_nm11, by decide +kernel, by decide, tb_ni11, tb_mem2 (k := 5) (i := 207) (w := am_cw mt_Mo_raw) rfl rfl⟩
theorem ok_Mo_event : am_okm tb_G tb_own tb_ws 143 := ⟨plainFor_of_name tb_pn11, rfl, tb_nm11, by decide +kernel, by decide, tb_ni11, tb_mem2 (k := 5) (i := 211) (w := am_cw mt_Mo_event) rfl rfl⟩
theorem ok_Mo_happen : am_okm tb_G tb_own tb_ws 144 := ⟨plainFor_of_name tb_pn11, rfl, tb_nm11, by decide +kernel, by decide, tb_ni11, tb_mem2 (k := 5) (i := 215) (w := am_cw mt_Mo_happen) rfl rfl⟩
theorem ok_Mo_choose : am_okm tb_G tb_own tb_ws 145 := ⟨plainFor_of_name tb_pn11, rfl, tb_nm11, by decide +kernel, by decide, tb_ni11, tb_mem2 (k := 5) (i := 219) (w := am_cw mt_Mo_choose) rfl rfl⟩
theorem ok_Mo_carry : am_okm tb_G tb_own tb_ws 146 := ⟨plainFor_of_name tb_pn11, rfl, tb_nm11, by decide +kernel, by decide, tb_ni11, tb_mem2 (k := 5) (i := 223) (w := am_cw mt_Mo_carry) rfl rfl⟩
theorem ok_Mo_send : am_okm tb_G tb_own tb_ws 147 := ⟨plainFor_of_name tb_pn11, rfl, tb_nm11, by decide +kernel, by decide, tb_ni11, tb_mem2 (k := 5) (i := 227) (w := am_cw mt_Mo_send) rfl rfl⟩
theorem ok_Mo_take : am_okm tb_G tb_own tb_ws 148 := ⟨plainFor_of_name tb_pn11, rfl, tb_nm11, by decide +kernel, by decide, tb_ni11, tb_mem2 (k := 5) (i := 231) (w := am_cw mt_Mo_take) rfl rfl⟩
theorem ok_Mo_check : am_okm tb_G tb_own tb_ws 149 := ⟨plainFor_of_name tb_pn11, rfl, tb_nm11, by decide +kernel, by decide, tb_ni11, tb_mem2 (k := 5) (i := 235) (w := am_cw mt_Mo_check) rfl rfl⟩
theorem ok_Mo_whiten : am_okm tb_G tb_own tb_ws 150 := ⟨plainFor_of_name tb_pn11, rfl, tb_nm11, by decide +kernel, by decide, tb_ni11, tb_mem2 (k := 6) (i := 2) (w := am_cw mt_Mo_whiten) rfl rfl⟩
theorem ok_Mo_hear : am_okm tb_G tb_own tb_ws 151 := ⟨plainFor_of_name tb_pn11, rfl, tb_nm11, by decide +kernel, by decide, tb_ni11, tb_mem2 (k := 6) (i := 6) (w := am_cw mt_Mo_hear) rfl rfl⟩
theorem ok_Mo_collect : am_okm tb_G tb_own tb_ws 152 := ⟨plainFor_of_name tb_pn11, rfl, tb_nm11, by decide +kernel, by decide, tb_ni11, tb_mem2 (k := 6) (i := 11) (w := am_cw mt_Mo_collect) rfl rfl⟩
theorem ok_Mo_clientHandles : am_okm tb_G tb_own tb_ws 153 := ⟨plainFor_of_name tb_pn11, rfl, tb_nm11, by decide +kernel, by decide, tb_ni11, tb_mem2 (k := 6) (i := 15) (w := am_cw mt_Mo_clientHandles) rfl rfl⟩
theorem ok_Mo_answered : am_okm tb_G tb_own tb_ws 154 := ⟨plainFor_of_name tb_pn11, rfl, tb_nm11, by decide +kernel, by decide, tb_ni11, tb_mem2 (k := 6) (i := 19) (w := am_cw mt_Mo_answered) rfl rfl⟩
theorem ok_Mo_end : am_okm tb_G tb_own tb_ws 155 := ⟨plainFor_of_name tb_pn11, rfl, tb_nm11, by decide +kernel, by decide, tb_ni11, tb_mem2 (k := 6) (i := 23) (w := am_cw mt_Mo_end) rfl rfl⟩
theorem ok_Mo_limits : am_okm tb_G tb_own tb_ws 156 := ⟨plainFor_of_name tb_pn11, rfl, tb_nm11, by decide +kernel, by decide, tb_ni11, tb_mem2 (k := 6) (i := 27) (w := am_cw mt_Mo_limits) rfl rfl⟩
theorem ok_Mo_read : am_okm tb_G tb_own tb_ws 157 := ⟨plainFor_of_name tb_pn11, rfl, tb_nm11, by decide +kernel, by decide, tb_ni11, tb_mem2 (k := 6) (i := 31) (w := am_cw mt_Mo_read) rfl rfl⟩
theorem ok_Mo_found : am_okm tb_G tb_own tb_ws 158 := ⟨plainFor_of_name tb_pn11, rfl, tb_nm11, by decide +kernel, by decide, tb_ni11, tb_mem2 (k := 6) (i := 35) (w := am_cw mt_Mo_found) rfl rfl⟩
theorem ok_Mo_written : am_okm tb_G tb_own tb_ws 159 := ⟨plainFor_of_name tb_pn11, rfl, tb_nm11, by decide +kernel, by decide, tb_ni11, tb_mem2 (k := 6) (i := 39) (w := am_cw mt_Mo_written) rfl rfl⟩
theorem ok_Mo_serverHandles : am_okm tb_G tb_own tb_ws 160 := ⟨plainFor_of_name tb_pn11, rfl, tb_nm11, by decide +kernel, by decide, tb_ni11, tb_mem2 (k := 6) (i := 43) (w := am_cw mt_Mo_serverHandles) rfl rfl⟩
theorem ok_Mo_refuse : am_okm tb_G tb_own tb_ws 161 := ⟨plainFor_of_name tb_pn11, rfl, tb_nm11, by decide +kernel, by decide, tb_ni11, tb_mem2 (k := 6) (i := 47) (w := am_cw mt_Mo_refuse) rfl rfl⟩
theorem ok_Mo_sized : am_okm tb_G tb_own tb_ws 162 := ⟨plainFor_of_name tb_pn11, rfl, tb_nm11, by decide +kernel, by decide, tb_ni11, tb_mem2 (k := 6) (i := 51) (w := am_cw mt_Mo_sized) rfl rfl⟩
theorem ok_Mo_agree : am_okm tb_G tb_own tb_ws 163 := ⟨plainFor_of_name tb_pn11, rfl, tb_nm11, by decide +kernel, by decide, tb_ni11, tb_mem2 (k := 6) (i := 55) (w := am_cw mt_Mo_agree) rfl rfl⟩
theorem ok_Mo_seek : am_okm tb_G tb_own tb_ws 164 := ⟨plainFor_of_name tb_pn11, rfl, tb_nm11, by decide +kernel, by decide, tb_ni11, tb_mem2 (k := 6) (i := 59) (w := am_cw mt_Mo_seek) rfl rfl⟩
theorem ok_Mo_finish : am_okm tb_G tb_own tb_ws 165 := ⟨plainFor_of_name tb_pn11, rfl, tb_nm11, by decide +kernel, by decide, tb_ni11, tb_mem2 (k := 6) (i := 63) (w := am_cw mt_Mo_finish) rfl rfl⟩
theorem ok_Mo_judge : am_okm tb_G tb_own tb_ws 166 := ⟨plainFor_of_name tb_pn11, rfl, tb_nm11, by decide +kernel, by decide, tb_ni11, tb_mem2 (k := 6) (i := 67) (w := am_cw mt_Mo_judge) rfl rfl⟩
theorem ok_Mo_touch : am_okm tb_G tb_own tb_ws 167 := ⟨plainFor_of_name tb_pn11, rfl, tb_nm11, by decide +kernel, by decide, tb_ni11, tb_mem2 (k := 6) (i := 71) (w := am_cw mt_Mo_touch) rfl rfl⟩
theorem ok_Mo_show : am_okm tb_G tb_own tb_ws 168 := ⟨plainFor_of_name tb_pn11, rfl, tb_nm11, by decide +kernel, by decide, tb_ni11, tb_mem2 (k := 6) (i := 75) (w := am_cw mt_Mo_show) rfl rfl⟩
theorem ok_Mo_replace : am_okm tb_G tb_own tb_ws 169 := ⟨plainFor_of_name tb_pn11, rfl, tb_nm11, by decide +kernel, by decide, tb_ni11, tb_mem2 (k := 6) (i := 79) (w := am_cw mt_Mo_replace) rfl rfl⟩
theorem ok_Mo_keep : am_okm tb_G tb_own tb_ws 170 := ⟨plainFor_of_name tb_pn11, rfl, tb_nm11, by decide +kernel, by decide, tb_ni11, tb_mem2 (k := 6) (i := 83) (w := am_cw mt_Mo_keep) rfl rfl⟩
theorem ok_Mo_run : am_okm tb_G tb_own tb_ws 171 := ⟨plainFor_of_name tb_pn11, rfl, tb_nm11, by decide +kernel, by decide, tb_ni11, tb_mem2 (k := 6) (i := 87) (w := am_cw mt_Mo_run) rfl rfl⟩
theorem ok_Mo_outcome : am_okm tb_G tb_own tb_ws 172 := ⟨plainFor_of_name tb_pn11, rfl, tb_nm11, by decide +kernel, by decide, tb_ni11, tb_mem2 (k := 6) (i := 91) (w := am_cw mt_Mo_outcome) rfl rfl⟩
theorem ok_Mo_error : am_okm tb_G tb_own tb_ws 173 := ⟨plainFor_of_name tb_pn11, rfl, tb_nm11, by decide +kernel, by decide, tb_ni11, tb_mem2 (k := 6) (i := 95) (w := am_cw mt_Mo_error) rfl rfl⟩
theorem ok_Mo_data : am_okm tb_G tb_own tb_ws 174 := ⟨plainFor_of_name tb_pn11, rfl, tb_nm11, by decide +kernel, by decide, tb_ni11, tb_mem2 (k := 6) (i := 99) (w := am_cw mt_Mo_data) rfl rfl⟩
theorem ok_Mo_note : am_okm tb_G tb_own tb_ws 175 := ⟨plainFor_of_name tb_pn11, rfl, tb_nm11, by decide +kernel, by decide, tb_ni11, tb_mem2 (k := 6) (i := 103) (w := am_cw mt_Mo_note) rfl rfl⟩
theorem ok_Mo_fail : am_okm tb_G tb_own tb_ws 176 := ⟨plainFor_of_name tb_pn11, rfl, tb_nm11, by decide +kernel, by decide, tb_ni11, tb_mem2 (k := 6) (i := 107) (w := am_cw mt_Mo_fail) rfl rfl⟩
theorem ok_Mo_value : am_okm tb_G tb_own tb_ws 177 := ⟨plainFor_of_name tb_pn11, rfl, tb_nm11, by decide +kernel, by decide, tb_ni11, tb_mem2 (k := 6) (i := 111) (w := am_cw mt_Mo_value) rfl rfl⟩
theorem ok_Mo_air : am_okm tb_G tb_own tb_ws 178 := ⟨plainFor_of_name tb_pn11, rfl, tb_nm11, by decide +kernel, by decide, tb_ni11, tb_mem2 (k := 6) (i := 115) (w := am_cw mt_Mo_air) rfl rfl⟩
theorem ok_Mo_look : am_okm tb_G tb_own tb_ws 179 := ⟨plainFor_of_name tb_pn11, rfl, tb_nm11, by decide +kernel, by decide, tb_ni11, tb_mem2 (k := 6) (i := 119) (w := am_cw mt_Mo_look) rfl rfl⟩
