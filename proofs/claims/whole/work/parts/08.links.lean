theorem sd_it1_ {w : Cond} {i : Nat} (h : tables_1_1[i]? = some w) : w ∈ tables_1 := List.mem_append_left _ (List.mem_of_getElem? h)
theorem sd_in1_ {w : Cond} {i : Nat} (h : tables_1_1[i]? = some w) (g : goodWord w = true) : w ∈ sd_tb := List.mem_filter.mpr ⟨List.mem_append_right _ (sd_it1_ h), g⟩
theorem sd_it2_ {w : Cond} {i : Nat} (h : tables_1_2[i]? = some w) : w ∈ tables_1 := List.mem_append_right _ (List.mem_append_left _ (List.mem_of_getElem? h))
theorem sd_in2_ {w : Cond} {i : Nat} (h : tables_1_2[i]? = some w) (g : goodWord w = true) : w ∈ sd_tb := List.mem_filter.mpr ⟨List.mem_append_right _ (sd_it2_ h), g⟩
theorem sd_it3_ {w : Cond} {i : Nat} (h : tables_1_3[i]? = some w) : w ∈ tables_1 := List.mem_append_right _ (List.mem_append_right _ (List.mem_append_left _ (List.mem_of_getElem? h)))
theorem sd_in3_ {w : Cond} {i : Nat} (h : tables_1_3[i]? = some w) (g : goodWord w = true) : w ∈ sd_tb := List.mem_filter.mpr ⟨List.mem_append_right _ (sd_it3_ h), g⟩
theorem sd_it4_ {w : Cond} {i : Nat} (h : tables_1_4[i]? = some w) : w ∈ tables_1 := List.mem_append_right _ (List.mem_append_right _ (List.mem_append_right _ (List.mem_append_left _ (List.mem_of_getElem? h))))
theorem sd_in4_ {w : Cond} {i : Nat} (h : tables_1_4[i]? = some w) (g : goodWord w = true) : w ∈ sd_tb := List.mem_filter.mpr ⟨List.mem_append_right _ (sd_it4_ h), g⟩
theorem sd_it5_ {w : Cond} {i : Nat} (h : tables_1_5[i]? = some w) : w ∈ tables_1 := List.mem_append_right _ (List.mem_append_right _ (List.mem_append_right _ (List.mem_append_right _ (List.mem_append_left _ (List.mem_of_getElem? h)))))
theorem sd_in5_ {w : Cond} {i : Nat} (h : tables_1_5[i]? = some w) (g : goodWord w = true) : w ∈ sd_tb := List.mem_filter.mpr ⟨List.mem_append_right _ (sd_it5_ h), g⟩
theorem sd_it6_ {w : Cond} {i : Nat} (h : tables_1_6[i]? = some w) : w ∈ tables_1 := List.mem_append_right _ (List.mem_append_right _ (List.mem_append_right _ (List.mem_append_right _ (List.mem_append_right _ (List.mem_append_left _ (List.mem_of_getElem? h))))))
theorem sd_in6_ {w : Cond} {i : Nat} (h : tables_1_6[i]? = some w) (g : goodWord w = true) : w ∈ sd_tb := List.mem_filter.mpr ⟨List.mem_append_right _ (sd_it6_ h), g⟩
theorem sd_it7_ {w : Cond} {i : Nat} (h : tables_1_7[i]? = some w) : w ∈ tables_1 := List.mem_append_right _ (List.mem_append_right _ (List.mem_append_right _ (List.mem_append_right _ (List.mem_append_right _ (List.mem_append_right _ (List.mem_append_left _ (List.mem_of_getElem? h)))))))
theorem sd_in7_ {w : Cond} {i : Nat} (h : tables_1_7[i]? = some w) (g : goodWord w = true) : w ∈ sd_tb := List.mem_filter.mpr ⟨List.mem_append_right _ (sd_it7_ h), g⟩
theorem sd_it8_ {w : Cond} {i : Nat} (h : tables_1_8[i]? = some w) : w ∈ tables_1 := List.mem_append_right _ (List.mem_append_right _ (List.mem_append_right _ (List.mem_append_right _ (List.mem_append_right _ (List.mem_append_right _ (List.mem_append_right _ (List.mem_of_getElem? h)))))))
theorem sd_in8_ {w : Cond} {i : Nat} (h : tables_1_8[i]? = some w) (g : goodWord w = true) : w ∈ sd_tb := List.mem_filter.mpr ⟨List.mem_append_right _ (sd_it8_ h), g⟩
theorem sd_nm0 : "SitDown$Game" ≠ "java/lang/invoke/MethodHandle" := by decide +kernel
theorem sd_nv0 : "SitDown$Game" ≠ "java/lang/invoke/VarHandle" := by decide +kernel
theorem sd_nm1 : "SitDown$Holds" ≠ "java/lang/invoke/MethodHandle" := by decide +kernel
theorem sd_nv1 : "SitDown$Holds" ≠ "java/lang/invoke/VarHandle" := by decide +kernel
theorem sd_nm2 : "SitDown$Lists" ≠ "java/lang/invoke/MethodHandle" := by decide +kernel
theorem sd_nv2 : "SitDown$Lists" ≠ "java/lang/invoke/VarHandle" := by decide +kernel
theorem sd_nm3 : "SitDown$Men" ≠ "java/lang/invoke/MethodHandle" := by decide +kernel
theorem sd_nv3 : "SitDown$Men" ≠ "java/lang/invoke/VarHandle" := by decide +kernel
theorem sd_nm4 : "SitDown$Rumours" ≠ "java/lang/invoke/MethodHandle" := by decide +kernel
theorem sd_nv4 : "SitDown$Rumours" ≠ "java/lang/invoke/VarHandle" := by decide +kernel
theorem sd_nm5 : "SitDown$Sheet" ≠ "java/lang/invoke/MethodHandle" := by decide +kernel
theorem sd_nv5 : "SitDown$Sheet" ≠ "java/lang/invoke/VarHandle" := by decide +kernel
theorem sd_nm6 : "SitDown$Site" ≠ "java/lang/invoke/MethodHandle" := by decide +kernel
theorem sd_nv6 : "SitDown$Site" ≠ "java/lang/invoke/VarHandle" := by decide +kernel
theorem sd_nm7 : "SitDown$Tape" ≠ "java/lang/invoke/MethodHandle" := by decide +kernel
theorem sd_nv7 : "SitDown$Tape" ≠ "java/lang/invoke/VarHandle" := by decide +kernel
theorem sd_nm8 : "SitDown$Texts" ≠ "java/lang/invoke/MethodHandle" := by decide +kernel
theorem sd_nv8 : "SitDown$Texts" ≠ "java/lang/invoke/VarHandle" := by decide +kernel
theorem sd_nm9 : "SitDown$Works" ≠ "java/lang/invoke/MethodHandle" := by decide +kernel
theorem sd_nv9 : "SitDown$Works" ≠ "java/lang/invoke/VarHandle" := by decide +kernel
theorem sd_nm10 : "SitDown" ≠ "java/lang/invoke/MethodHandle" := by decide +kernel
theorem sd_nv10 : "SitDown" ≠ "java/lang/invoke/VarHandle" := by decide +kernel
theorem sd_nm11 : "SitDownModel" ≠ "java/lang/invoke/MethodHandle" := by decide +kernel
theorem sd_nv11 : "SitDownModel" ≠ "java/lang/invoke/VarHandle" := by decide +kernel
theorem sd_nmJ6 : "java/lang/Integer" ≠ "java/lang/invoke/MethodHandle" := by decide +kernel
theorem sd_nvJ6 : "java/lang/Integer" ≠ "java/lang/invoke/VarHandle" := by decide +kernel
theorem sd_nmJ9 : "java/lang/Math" ≠ "java/lang/invoke/MethodHandle" := by decide +kernel
theorem sd_nvJ9 : "java/lang/Math" ≠ "java/lang/invoke/VarHandle" := by decide +kernel
theorem sd_nmJ0 : "java/lang/String" ≠ "java/lang/invoke/MethodHandle" := by decide +kernel
theorem sd_nvJ0 : "java/lang/String" ≠ "java/lang/invoke/VarHandle" := by decide +kernel
theorem sd_nmJ1 : "java/lang/StringLatin1" ≠ "java/lang/invoke/MethodHandle" := by decide +kernel
theorem sd_nvJ1 : "java/lang/StringLatin1" ≠ "java/lang/invoke/VarHandle" := by decide +kernel
theorem sd_nmJ2 : "java/lang/StringUTF16" ≠ "java/lang/invoke/MethodHandle" := by decide +kernel
theorem sd_nvJ2 : "java/lang/StringUTF16" ≠ "java/lang/invoke/VarHandle" := by decide +kernel
theorem sd_nmJ10 : "java/lang/System" ≠ "java/lang/invoke/MethodHandle" := by decide +kernel
theorem sd_nvJ10 : "java/lang/System" ≠ "java/lang/invoke/VarHandle" := by decide +kernel
theorem sd_nmJ3 : "jdk/internal/util/Preconditions" ≠ "java/lang/invoke/MethodHandle" := by decide +kernel
theorem sd_nvJ3 : "jdk/internal/util/Preconditions" ≠ "java/lang/invoke/VarHandle" := by decide +kernel
theorem sd_nmL : "SitDownLaw" ≠ "java/lang/invoke/MethodHandle" := by decide +kernel
theorem sd_nvL : "SitDownLaw" ≠ "java/lang/invoke/VarHandle" := by decide +kernel
theorem sC0 : sd_cf 0 RX0 TX0 4 := ⟨rfl, (by
  intro w hw
  simp only [u_ws, List.mem_map, List.mem_range] at hw
  obtain ⟨k, hk, rfl⟩ := hw
  match k, hk with
  | 0, _ => exact sd_in2_ (i := 39) rfl rfl
  | 1, _ => exact sd_in2_ (i := 41) rfl rfl
  | 2, _ => exact sd_in2_ (i := 43) rfl rfl
  | 3, _ => exact sd_in2_ (i := 45) rfl rfl
  | k + 4, hk => omega), nmX0, tyX0, tyX0_ok⟩
theorem sC1 : sd_cf 1 RX1 TX1 15 := ⟨rfl, (by
  intro w hw
  simp only [u_ws, List.mem_map, List.mem_range] at hw
  obtain ⟨k, hk, rfl⟩ := hw
  match k, hk with
  | 0, _ => exact sd_in1_ (i := 72) rfl rfl
  | 1, _ => exact sd_in1_ (i := 74) rfl rfl
  | 2, _ => exact sd_in1_ (i := 76) rfl rfl
  | 3, _ => exact sd_in1_ (i := 78) rfl rfl
  | 4, _ => exact sd_in1_ (i := 80) rfl rfl
  | 5, _ => exact sd_in1_ (i := 82) rfl rfl
  | 6, _ => exact sd_in1_ (i := 84) rfl rfl
  | 7, _ => exact sd_in1_ (i := 86) rfl rfl
  | 8, _ => exact sd_in1_ (i := 88) rfl rfl
  | 9, _ => exact sd_in1_ (i := 90) rfl rfl
  | 10, _ => exact sd_in1_ (i := 92) rfl rfl
  | 11, _ => exact sd_in1_ (i := 94) rfl rfl
  | 12, _ => exact sd_in1_ (i := 96) rfl rfl
  | 13, _ => exact sd_in1_ (i := 98) rfl rfl
  | 14, _ => exact sd_in1_ (i := 100) rfl rfl
  | k + 15, hk => omega), nmX1, tyX1, tyX1_ok⟩
theorem sC2 : sd_cf 2 RX2 TX2 2 := ⟨rfl, (by
  intro w hw
  simp only [u_ws, List.mem_map, List.mem_range] at hw
  obtain ⟨k, hk, rfl⟩ := hw
  match k, hk with
  | 0, _ => exact sd_in2_ (i := 22) rfl rfl
  | 1, _ => exact sd_in2_ (i := 24) rfl rfl
  | k + 2, hk => omega), nmX2, tyX2, tyX2_ok⟩
theorem sC3 : sd_cf 3 RX3 TX3 5 := ⟨rfl, (by
  intro w hw
  simp only [u_ws, List.mem_map, List.mem_range] at hw
  obtain ⟨k, hk, rfl⟩ := hw
  match k, hk with
  | 0, _ => exact sd_in1_ (i := 123) rfl rfl
  | 1, _ => exact sd_in1_ (i := 125) rfl rfl
  | 2, _ => exact sd_in1_ (i := 127) rfl rfl
  | 3, _ => exact sd_in1_ (i := 129) rfl rfl
  | 4, _ => exact sd_in1_ (i := 131) rfl rfl
  | k + 5, hk => omega), nmX3, tyX3, tyX3_ok⟩
theorem sC4 : sd_cf 4 RX4 TX4 7 := ⟨rfl, (by
  intro w hw
  simp only [u_ws, List.mem_map, List.mem_range] at hw
  obtain ⟨k, hk, rfl⟩ := hw
  match k, hk with
  | 0, _ => exact sd_in1_ (i := 237) rfl rfl
  | 1, _ => exact sd_in1_ (i := 239) rfl rfl
  | 2, _ => exact sd_in2_ (i := 1) rfl rfl
  | 3, _ => exact sd_in2_ (i := 3) rfl rfl
  | 4, _ => exact sd_in2_ (i := 5) rfl rfl
  | 5, _ => exact sd_in2_ (i := 7) rfl rfl
  | 6, _ => exact sd_in2_ (i := 9) rfl rfl
  | k + 7, hk => omega), nmX4, tyX4, tyX4_ok⟩
theorem sC5 : sd_cf 5 RX5 TX5 3 := ⟨rfl, (by
  intro w hw
  simp only [u_ws, List.mem_map, List.mem_range] at hw
  obtain ⟨k, hk, rfl⟩ := hw
  match k, hk with
  | 0, _ => exact sd_in2_ (i := 126) rfl rfl
  | 1, _ => exact sd_in2_ (i := 128) rfl rfl
  | 2, _ => exact sd_in2_ (i := 130) rfl rfl
  | k + 3, hk => omega), nmX5, tyX5, tyX5_ok⟩
theorem sC6 : sd_cf 6 RX6 TX6 12 := ⟨rfl, (by
  intro w hw
  simp only [u_ws, List.mem_map, List.mem_range] at hw
  obtain ⟨k, hk, rfl⟩ := hw
  match k, hk with
  | 0, _ => exact sd_in2_ (i := 70) rfl rfl
  | 1, _ => exact sd_in2_ (i := 72) rfl rfl
  | 2, _ => exact sd_in2_ (i := 74) rfl rfl
  | 3, _ => exact sd_in2_ (i := 76) rfl rfl
  | 4, _ => exact sd_in2_ (i := 78) rfl rfl
  | 5, _ => exact sd_in2_ (i := 80) rfl rfl
  | 6, _ => exact sd_in2_ (i := 82) rfl rfl
  | 7, _ => exact sd_in2_ (i := 84) rfl rfl
  | 8, _ => exact sd_in2_ (i := 86) rfl rfl
  | 9, _ => exact sd_in2_ (i := 88) rfl rfl
  | 10, _ => exact sd_in2_ (i := 90) rfl rfl
  | 11, _ => exact sd_in2_ (i := 92) rfl rfl
  | k + 12, hk => omega), nmX6, tyX6, tyX6_ok⟩
theorem sC7 : sd_cf 7 RX7 TX7 3 := ⟨rfl, (by
  intro w hw
  simp only [u_ws, List.mem_map, List.mem_range] at hw
  obtain ⟨k, hk, rfl⟩ := hw
  match k, hk with
  | 0, _ => exact sd_in2_ (i := 108) rfl rfl
  | 1, _ => exact sd_in2_ (i := 110) rfl rfl
  | 2, _ => exact sd_in2_ (i := 112) rfl rfl
  | k + 3, hk => omega), nmX7, tyX7, tyX7_ok⟩
theorem sC8 : sd_cf 8 RX8 TX8 13 := ⟨rfl, (by
  intro w hw
  simp only [u_ws, List.mem_map, List.mem_range] at hw
  obtain ⟨k, hk, rfl⟩ := hw
  match k, hk with
  | 0, _ => exact sd_in1_ (i := 193) rfl rfl
  | 1, _ => exact sd_in1_ (i := 195) rfl rfl
  | 2, _ => exact sd_in1_ (i := 197) rfl rfl
  | 3, _ => exact sd_in1_ (i := 199) rfl rfl
  | 4, _ => exact sd_in1_ (i := 201) rfl rfl
  | 5, _ => exact sd_in1_ (i := 203) rfl rfl
  | 6, _ => exact sd_in1_ (i := 205) rfl rfl
  | 7, _ => exact sd_in1_ (i := 207) rfl rfl
  | 8, _ => exact sd_in1_ (i := 209) rfl rfl
  | 9, _ => exact sd_in1_ (i := 211) rfl rfl
  | 10, _ => exact sd_in1_ (i := 213) rfl rfl
  | 11, _ => exact sd_in1_ (i := 215) rfl rfl
  | 12, _ => exact sd_in1_ (i := 217) rfl rfl
  | k + 13, hk => omega), nmX8, tyX8, tyX8_ok⟩
theorem sC9 : sd_cf 9 RX9 TX9 6 := ⟨rfl, (by
  intro w hw
  simp only [u_ws, List.mem_map, List.mem_range] at hw
  obtain ⟨k, hk, rfl⟩ := hw
  match k, hk with
  | 0, _ => exact sd_in1_ (i := 151) rfl rfl
  | 1, _ => exact sd_in1_ (i := 153) rfl rfl
  | 2, _ => exact sd_in1_ (i := 155) rfl rfl
  | 3, _ => exact sd_in1_ (i := 157) rfl rfl
  | 4, _ => exact sd_in1_ (i := 159) rfl rfl
  | 5, _ => exact sd_in1_ (i := 161) rfl rfl
  | k + 6, hk => omega), nmX9, tyX9, tyX9_ok⟩
theorem sC10 : sd_cf 10 RX10 TX10 6 := ⟨rfl, (by
  intro w hw
  simp only [u_ws, List.mem_map, List.mem_range] at hw
  obtain ⟨k, hk, rfl⟩ := hw
  match k, hk with
  | 0, _ => exact sd_in2_ (i := 139) rfl rfl
  | 1, _ => exact sd_in2_ (i := 141) rfl rfl
  | 2, _ => exact sd_in2_ (i := 143) rfl rfl
  | 3, _ => exact sd_in2_ (i := 145) rfl rfl
  | 4, _ => exact sd_in2_ (i := 147) rfl rfl
  | 5, _ => exact sd_in2_ (i := 149) rfl rfl
  | k + 6, hk => omega), nmX10, tyX10, tyX10_ok⟩
theorem sC11 : sd_cf 11 RX11 TX11 24 := ⟨rfl, (by
  intro w hw
  simp only [u_ws, List.mem_map, List.mem_range] at hw
  obtain ⟨k, hk, rfl⟩ := hw
  match k, hk with
  | 0, _ => exact sd_in6_ (i := 23) rfl rfl
  | 1, _ => exact sd_in6_ (i := 25) rfl rfl
  | 2, _ => exact sd_in6_ (i := 27) rfl rfl
  | 3, _ => exact sd_in6_ (i := 29) rfl rfl
  | 4, _ => exact sd_in6_ (i := 31) rfl rfl
  | 5, _ => exact sd_in6_ (i := 33) rfl rfl
  | 6, _ => exact sd_in6_ (i := 35) rfl rfl
  | 7, _ => exact sd_in6_ (i := 37) rfl rfl
  | 8, _ => exact sd_in6_ (i := 39) rfl rfl
  | 9, _ => exact sd_in6_ (i := 41) rfl rfl
  | 10, _ => exact sd_in6_ (i := 43) rfl rfl
  | 11, _ => exact sd_in6_ (i := 45) rfl rfl
  | 12, _ => exact sd_in6_ (i := 47) rfl rfl
  | 13, _ => exact sd_in6_ (i := 49) rfl rfl
  | 14, _ => exact sd_in6_ (i := 51) rfl rfl
  | 15, _ => exact sd_in6_ (i := 53) rfl rfl
  | 16, _ => exact sd_in6_ (i := 55) rfl rfl
  | 17, _ => exact sd_in6_ (i := 57) rfl rfl
  | 18, _ => exact sd_in6_ (i := 59) rfl rfl
  | 19, _ => exact sd_in6_ (i := 61) rfl rfl
  | 20, _ => exact sd_in6_ (i := 63) rfl rfl
  | 21, _ => exact sd_in6_ (i := 65) rfl rfl
  | 22, _ => exact sd_in6_ (i := 67) rfl rfl
  | 23, _ => exact sd_in6_ (i := 69) rfl rfl
  | k + 24, hk => omega), nmX11, tyX11, tyX11_ok⟩
def sY0_init : sd_Y := (⟨"SitDown$Game", "<init>", "()V"⟩, prog_2_method_1_code, 1, none)
def sY0_become : sd_Y := (⟨"SitDown$Game", "become", "(LSitDown$Game;)V"⟩, prog_2_method_2_code, 2, none)
def sY0_playFreely : sd_Y := (⟨"SitDown$Game", "playFreely", "(III)I"⟩, prog_2_method_3_code, 4, (some .int))
def sY0_bestFirstMove : sd_Y := (⟨"SitDown$Game", "bestFirstMove", "(III)I"⟩, prog_2_method_4_code, 6, (some .int))
def sY0_playAsPlanned : sd_Y := (⟨"SitDown$Game", "playAsPlanned", "([IIII)I"⟩, prog_2_method_5_code, 5, (some .int))
def sY0_behindSteps : sd_Y := (⟨"SitDown$Game", "behindSteps", "(IIIII)I"⟩, prog_2_method_6_code, 9, (some .int))
def sY0_behindMen : sd_Y := (⟨"SitDown$Game", "behindMen", "(IIIII)I"⟩, prog_2_method_7_code, 9, (some .int))
def sY0_behindCompany : sd_Y := (⟨"SitDown$Game", "behindCompany", "(IIIII)I"⟩, prog_2_method_8_code, 6, (some .int))
def sY1_init : sd_Y := (⟨"SitDown$Holds", "<init>", "()V"⟩, prog_3_method_1_code, 1, none)
def sY1_become : sd_Y := (⟨"SitDown$Holds", "become", "(LSitDown$Holds;)V"⟩, prog_3_method_2_code, 2, none)
def sY1_isA : sd_Y := (⟨"SitDown$Holds", "isA", "(II)Z"⟩, prog_3_method_3_code, 5, (some .boolean))
def sY1_findingOf : sd_Y := (⟨"SitDown$Holds", "findingOf", "(II)I"⟩, prog_3_method_4_code, 3, (some .int))
def sY1_allows : sd_Y := (⟨"SitDown$Holds", "allows", "(II)Z"⟩, prog_3_method_5_code, 5, (some .boolean))
def sY1_hasRoomFor : sd_Y := (⟨"SitDown$Holds", "hasRoomFor", "(I)Z"⟩, prog_3_method_6_code, 3, (some .boolean))
def sY1_add : sd_Y := (⟨"SitDown$Holds", "add", "(III)I"⟩, prog_3_method_7_code, 5, (some .int))
def sY1_number : sd_Y := (⟨"SitDown$Holds", "number", "(II)I"⟩, prog_3_method_8_code, 3, (some .int))
def sY1_hasOpenPipe : sd_Y := (⟨"SitDown$Holds", "hasOpenPipe", "(II)Z"⟩, prog_3_method_9_code, 5, (some .boolean))
def sY1_warmthBehind : sd_Y := (⟨"SitDown$Holds", "warmthBehind", "(III)I"⟩, prog_3_method_10_code, 4, (some .int))
def sY1_weather : sd_Y := (⟨"SitDown$Holds", "weather", "(I)V"⟩, prog_3_method_11_code, 3, none)
def sY1_oneGateFurther : sd_Y := (⟨"SitDown$Holds", "oneGateFurther", "(I)I"⟩, prog_3_method_12_code, 5, (some .int))
def sY1_letsIn : sd_Y := (⟨"SitDown$Holds", "letsIn", "(II)Z"⟩, prog_3_method_13_code, 3, (some .boolean))
def sY1_addMeals : sd_Y := (⟨"SitDown$Holds", "addMeals", "(II)I"⟩, prog_3_method_14_code, 3, (some .int))
def sY1_openWindows : sd_Y := (⟨"SitDown$Holds", "openWindows", "()V"⟩, prog_3_method_15_code, 1, none)
def sY1_firstWithMeals : sd_Y := (⟨"SitDown$Holds", "firstWithMeals", "(I)I"⟩, prog_3_method_16_code, 3, (some .int))
def sY1_mealsIn : sd_Y := (⟨"SitDown$Holds", "mealsIn", "(I)I"⟩, prog_3_method_17_code, 4, (some .int))
def sY1_heldGates : sd_Y := (⟨"SitDown$Holds", "heldGates", "()I"⟩, prog_3_method_18_code, 3, (some .int))
def sY1_isFreeGate : sd_Y := (⟨"SitDown$Holds", "isFreeGate", "(I)Z"⟩, prog_3_method_19_code, 2, (some .boolean))
def sY1_guardBySquads : sd_Y := (⟨"SitDown$Holds", "guardBySquads", "([I)I"⟩, prog_3_method_20_code, 5, (some .int))
def sY1_isUnlike : sd_Y := (⟨"SitDown$Holds", "isUnlike", "(I)Z"⟩, prog_3_method_21_code, 2, (some .boolean))
def sY1_unlikeTerms : sd_Y := (⟨"SitDown$Holds", "unlikeTerms", "()I"⟩, prog_3_method_22_code, 3, (some .int))
def sY1_areTerms : sd_Y := (⟨"SitDown$Holds", "areTerms", "(I)Z"⟩, prog_3_method_23_code, 4, (some .boolean))
def sY1_termsToSign : sd_Y := (⟨"SitDown$Holds", "termsToSign", "(III)I"⟩, prog_3_method_24_code, 8, (some .int))
def sY1_isSigned : sd_Y := (⟨"SitDown$Holds", "isSigned", "(III)Z"⟩, prog_3_method_25_code, 4, (some .boolean))
def sY1_isDearer : sd_Y := (⟨"SitDown$Holds", "isDearer", "(II)Z"⟩, prog_3_method_26_code, 4, (some .boolean))
def sY1_sumIn : sd_Y := (⟨"SitDown$Holds", "sumIn", "(I[I)I"⟩, prog_3_method_27_code, 5, (some .int))
def sY2_init : sd_Y := (⟨"SitDown$Lists", "<init>", "()V"⟩, prog_4_method_1_code, 1, none)
def sY2_become : sd_Y := (⟨"SitDown$Lists", "become", "(LSitDown$Lists;)V"⟩, prog_4_method_2_code, 2, none)
def sY2_leastWho : sd_Y := (⟨"SitDown$Lists", "leastWho", "()I"⟩, prog_4_method_3_code, 3, (some .int))
def sY2_mostWho : sd_Y := (⟨"SitDown$Lists", "mostWho", "()I"⟩, prog_4_method_4_code, 1, (some .int))
def sY3_init : sd_Y := (⟨"SitDown$Men", "<init>", "()V"⟩, prog_5_method_1_code, 1, none)
def sY3_become : sd_Y := (⟨"SitDown$Men", "become", "(LSitDown$Men;)V"⟩, prog_5_method_2_code, 2, none)
def sY3_has : sd_Y := (⟨"SitDown$Men", "has", "(I)Z"⟩, prog_5_method_3_code, 2, (some .boolean))
def sY3_add : sd_Y := (⟨"SitDown$Men", "add", "(III)I"⟩, prog_5_method_4_code, 5, (some .int))
def sY3_number : sd_Y := (⟨"SitDown$Men", "number", "(II)I"⟩, prog_5_method_5_code, 3, (some .int))
def sY3_inShops : sd_Y := (⟨"SitDown$Men", "inShops", "(I)I"⟩, prog_5_method_6_code, 4, (some .int))
def sY3_willInShops : sd_Y := (⟨"SitDown$Men", "willInShops", "()I"⟩, prog_5_method_7_code, 3, (some .int))
def sY4_init : sd_Y := (⟨"SitDown$Rumours", "<init>", "()V"⟩, prog_6_method_1_code, 1, none)
def sY4_become : sd_Y := (⟨"SitDown$Rumours", "become", "(LSitDown$Rumours;)V"⟩, prog_6_method_2_code, 2, none)
def sY4_add : sd_Y := (⟨"SitDown$Rumours", "add", "(II)I"⟩, prog_6_method_3_code, 4, (some .int))
def sY4_thoseOut : sd_Y := (⟨"SitDown$Rumours", "thoseOut", "()I"⟩, prog_6_method_4_code, 3, (some .int))
def sY4_setSquads : sd_Y := (⟨"SitDown$Rumours", "setSquads", "(ILSitDown$Holds;)V"⟩, prog_6_method_5_code, 5, none)
def sY4_mostBelieved : sd_Y := (⟨"SitDown$Rumours", "mostBelieved", "()I"⟩, prog_6_method_6_code, 3, (some .int))
def sY4_isMoreBelieved : sd_Y := (⟨"SitDown$Rumours", "isMoreBelieved", "(II)Z"⟩, prog_6_method_7_code, 3, (some .boolean))
def sY4_leastFor : sd_Y := (⟨"SitDown$Rumours", "leastFor", "(IILSitDown$Holds;)I"⟩, prog_6_method_8_code, 10, (some .int))
def sY5_init : sd_Y := (⟨"SitDown$Sheet", "<init>", "()V"⟩, prog_7_method_1_code, 1, none)
def sY5_isMissing : sd_Y := (⟨"SitDown$Sheet", "isMissing", "()Z"⟩, prog_7_method_2_code, 1, (some .boolean))
def sY5_begin : sd_Y := (⟨"SitDown$Sheet", "begin", "(II)I"⟩, prog_7_method_3_code, 3, (some .int))
def sY5_put : sd_Y := (⟨"SitDown$Sheet", "put", "(II)I"⟩, prog_7_method_4_code, 4, (some .int))
def sY5_hasNumbers : sd_Y := (⟨"SitDown$Sheet", "hasNumbers", "(II)Z"⟩, prog_7_method_5_code, 3, (some .boolean))
def sY6_init : sd_Y := (⟨"SitDown$Site", "<init>", "()V"⟩, prog_8_method_1_code, 1, none)
def sY6_become : sd_Y := (⟨"SitDown$Site", "become", "(LSitDown$Site;)V"⟩, prog_8_method_2_code, 2, none)
def sY6_reachedFrom : sd_Y := (⟨"SitDown$Site", "reachedFrom", "(II)I"⟩, prog_8_method_3_code, 5, (some .int))
def sY6_forceAt : sd_Y := (⟨"SitDown$Site", "forceAt", "(I)I"⟩, prog_8_method_4_code, 3, (some .int))
def sY6_clauseAt : sd_Y := (⟨"SitDown$Site", "clauseAt", "(II)I"⟩, prog_8_method_5_code, 3, (some .int))
def sY6_makes : sd_Y := (⟨"SitDown$Site", "makes", "(I)Z"⟩, prog_8_method_6_code, 2, (some .boolean))
def sY6_makers : sd_Y := (⟨"SitDown$Site", "makers", "()I"⟩, prog_8_method_7_code, 3, (some .int))
def sY6_madeBy : sd_Y := (⟨"SitDown$Site", "madeBy", "(I)[I"⟩, prog_8_method_8_code, 3, (some (.array .int)))
def sY6_leastShops : sd_Y := (⟨"SitDown$Site", "leastShops", "(I)I"⟩, prog_8_method_9_code, 8, (some .int))
def sY6_firstCold : sd_Y := (⟨"SitDown$Site", "firstCold", "(II)I"⟩, prog_8_method_10_code, 5, (some .int))
def sY6_firstLeave : sd_Y := (⟨"SitDown$Site", "firstLeave", "(I)I"⟩, prog_8_method_11_code, 5, (some .int))
def sY6_lossOfWill : sd_Y := (⟨"SitDown$Site", "lossOfWill", "(III)I"⟩, prog_8_method_12_code, 5, (some .int))
def sY6_isClosed : sd_Y := (⟨"SitDown$Site", "isClosed", "(I)Z"⟩, prog_8_method_13_code, 2, (some .boolean))
def sY6_closeHour : sd_Y := (⟨"SitDown$Site", "closeHour", "()V"⟩, prog_8_method_14_code, 4, none)
def sY6_eatOrHunger : sd_Y := (⟨"SitDown$Site", "eatOrHunger", "(IZ)V"⟩, prog_8_method_15_code, 4, none)
def sY6_loseWill : sd_Y := (⟨"SitDown$Site", "loseWill", "(II)V"⟩, prog_8_method_16_code, 4, none)
def sY6_writePage : sd_Y := (⟨"SitDown$Site", "writePage", "(II)V"⟩, prog_8_method_17_code, 4, none)
def sY7_init : sd_Y := (⟨"SitDown$Tape", "<init>", "()V"⟩, prog_9_method_1_code, 1, none)
def sY7_add : sd_Y := (⟨"SitDown$Tape", "add", "(II)I"⟩, prog_9_method_2_code, 4, (some .int))
def sY7_readText : sd_Y := (⟨"SitDown$Tape", "readText", "(LSitDown$Texts;)Z"⟩, prog_9_method_3_code, 4, (some .boolean))
def sY7_readWords : sd_Y := (⟨"SitDown$Tape", "readWords", "(LSitDown$Texts;I)Z"⟩, prog_9_method_4_code, 5, (some .boolean))
def sY7_readTests : sd_Y := (⟨"SitDown$Tape", "readTests", "(LSitDown$Texts;I)Z"⟩, prog_9_method_5_code, 4, (some .boolean))
def sY7_readTest : sd_Y := (⟨"SitDown$Tape", "readTest", "(LSitDown$Texts;I)Z"⟩, prog_9_method_6_code, 6, (some .boolean))
def sY7_readNumber : sd_Y := (⟨"SitDown$Tape", "readNumber", "()I"⟩, prog_9_method_7_code, 3, (some .int))
def sY7_readOneOf : sd_Y := (⟨"SitDown$Tape", "readOneOf", "(Ljava/lang/String;Ljava/lang/String;Ljava/lang/String;Ljava/lang/String;)I"⟩, prog_9_method_8_code, 5, (some .int))
def sY7_begins : sd_Y := (⟨"SitDown$Tape", "begins", "(Ljava/lang/String;)Z"⟩, prog_9_method_9_code, 2, (some .boolean))
def sY7_spells : sd_Y := (⟨"SitDown$Tape", "spells", "(Ljava/lang/String;)Z"⟩, prog_9_method_10_code, 3, (some .boolean))
def sY7_sees : sd_Y := (⟨"SitDown$Tape", "sees", "(C)Z"⟩, prog_9_method_11_code, 2, (some .boolean))
def sY8_init : sd_Y := (⟨"SitDown$Texts", "<init>", "()V"⟩, prog_10_method_1_code, 1, none)
def sY8_become : sd_Y := (⟨"SitDown$Texts", "become", "(LSitDown$Texts;)V"⟩, prog_10_method_2_code, 2, none)
def sY8_add : sd_Y := (⟨"SitDown$Texts", "add", "(IIII)I"⟩, prog_10_method_3_code, 6, (some .int))
def sY8_isInForce : sd_Y := (⟨"SitDown$Texts", "isInForce", "(II)Z"⟩, prog_10_method_4_code, 3, (some .boolean))
def sY8_countInForce : sd_Y := (⟨"SitDown$Texts", "countInForce", "(I)I"⟩, prog_10_method_5_code, 4, (some .int))
def sY8_unseat : sd_Y := (⟨"SitDown$Texts", "unseat", "(II)I"⟩, prog_10_method_6_code, 4, (some .int))
def sY8_hoursInForce : sd_Y := (⟨"SitDown$Texts", "hoursInForce", "(II)I"⟩, prog_10_method_7_code, 6, (some .int))
def sY8_clauseFor : sd_Y := (⟨"SitDown$Texts", "clauseFor", "(II[I)I"⟩, prog_10_method_8_code, 8, (some .int))
def sY8_isSo : sd_Y := (⟨"SitDown$Texts", "isSo", "(I[I)Z"⟩, prog_10_method_9_code, 7, (some .boolean))
def sY8_bars : sd_Y := (⟨"SitDown$Texts", "bars", "(I)Z"⟩, prog_10_method_10_code, 2, (some .boolean))
def sY9_init : sd_Y := (⟨"SitDown$Works", "<init>", "()V"⟩, prog_11_method_1_code, 1, none)
def sY9_become : sd_Y := (⟨"SitDown$Works", "become", "(LSitDown$Works;)V"⟩, prog_11_method_2_code, 2, none)
def sY9_add : sd_Y := (⟨"SitDown$Works", "add", "(I)I"⟩, prog_11_method_3_code, 5, (some .int))
def sY9_restock : sd_Y := (⟨"SitDown$Works", "restock", "([I)I"⟩, prog_11_method_4_code, 4, (some .int))
def sY9_closeHour : sd_Y := (⟨"SitDown$Works", "closeHour", "([I)I"⟩, prog_11_method_5_code, 3, (some .int))
def sY9_goThroughHour : sd_Y := (⟨"SitDown$Works", "goThroughHour", "([I[I)I"⟩, prog_11_method_6_code, 6, (some .int))
def sY9_lackOf : sd_Y := (⟨"SitDown$Works", "lackOf", "(I[I)I"⟩, prog_11_method_7_code, 4, (some .int))
def sY9_takeNeed : sd_Y := (⟨"SitDown$Works", "takeNeed", "(I[I)V"⟩, prog_11_method_8_code, 4, none)
def sY9_hoursTillItStands : sd_Y := (⟨"SitDown$Works", "hoursTillItStands", "(I[I)I"⟩, prog_11_method_9_code, 4, (some .int))
def sY9_wouldAllStand : sd_Y := (⟨"SitDown$Works", "wouldAllStand", "(I[I)Z"⟩, prog_11_method_10_code, 5, (some .boolean))
def sY10_init : sd_Y := (⟨"SitDown", "<init>", "()V"⟩, prog_1_method_1_code, 2, none)
def sY10_hold : sd_Y := (⟨"SitDown", "hold", "(II)I"⟩, prog_1_method_2_code, 3, (some .int))
def sY10_as : sd_Y := (⟨"SitDown", "as", "(II)I"⟩, prog_1_method_3_code, 4, (some .int))
def sY10_of : sd_Y := (⟨"SitDown", "of", "(II)I"⟩, prog_1_method_4_code, 4, (some .int))
def sY10_run : sd_Y := (⟨"SitDown", "run", "(IZ)I"⟩, prog_1_method_5_code, 4, (some .int))
def sY10_shut : sd_Y := (⟨"SitDown", "shut", "(IZ)I"⟩, prog_1_method_6_code, 4, (some .int))
def sY10_outside : sd_Y := (⟨"SitDown", "outside", "(I)I"⟩, prog_1_method_7_code, 3, (some .int))
def sY10_cold : sd_Y := (⟨"SitDown", "cold", "(II)I"⟩, prog_1_method_8_code, 4, (some .int))
def sY10_man : sd_Y := (⟨"SitDown", "man", "(II)I"⟩, prog_1_method_9_code, 4, (some .int))
def sY10_where : sd_Y := (⟨"SitDown", "where", "(II)I"⟩, prog_1_method_10_code, 3, (some .int))
def sY10_go : sd_Y := (⟨"SitDown", "go", "(II)I"⟩, prog_1_method_11_code, 5, (some .int))
def sY10_hear : sd_Y := (⟨"SitDown", "hear", "(II)I"⟩, prog_1_method_12_code, 4, (some .int))
def sY10_stay : sd_Y := (⟨"SitDown", "stay", "(I)I"⟩, prog_1_method_13_code, 2, (some .int))
def sY10_pass : sd_Y := (⟨"SitDown", "pass", "(II)I"⟩, prog_1_method_14_code, 4, (some .int))
def sY10_food : sd_Y := (⟨"SitDown", "food", "(I)I"⟩, prog_1_method_15_code, 5, (some .int))
def sY10_reach : sd_Y := (⟨"SitDown", "reach", "(I)I"⟩, prog_1_method_16_code, 3, (some .int))
def sY10_whistle : sd_Y := (⟨"SitDown", "whistle", "(II)I"⟩, prog_1_method_17_code, 4, (some .int))
def sY10_force : sd_Y := (⟨"SitDown", "force", "(I)I"⟩, prog_1_method_18_code, 3, (some .int))
def sY10_take : sd_Y := (⟨"SitDown", "take", "(I)I"⟩, prog_1_method_19_code, 4, (some .int))
def sY10_guard : sd_Y := (⟨"SitDown", "guard", "(II)I"⟩, prog_1_method_20_code, 4, (some .int))
def sY10_work : sd_Y := (⟨"SitDown", "work", "(I)I"⟩, prog_1_method_21_code, 2, (some .int))
def sY10_stock : sd_Y := (⟨"SitDown", "stock", "(I)I"⟩, prog_1_method_22_code, 5, (some .int))
def sY10_part : sd_Y := (⟨"SitDown", "part", "(I)I"⟩, prog_1_method_23_code, 2, (some .int))
def sY10_last : sd_Y := (⟨"SitDown", "last", "(II)I"⟩, prog_1_method_24_code, 4, (some .int))
def sY10_least : sd_Y := (⟨"SitDown", "least", "(I)I"⟩, prog_1_method_25_code, 2, (some .int))
def sY10_feed : sd_Y := (⟨"SitDown", "feed", "(II)I"⟩, prog_1_method_26_code, 3, (some .int))
def sY10_text : sd_Y := (⟨"SitDown", "text", "(III)I"⟩, prog_1_method_27_code, 4, (some .int))
def sY10_wipe : sd_Y := (⟨"SitDown", "wipe", "()I"⟩, prog_1_method_28_code, 2, (some .int))
def sY10_shares : sd_Y := (⟨"SitDown", "shares", "(I)I"⟩, prog_1_method_29_code, 2, (some .int))
def sY10_between : sd_Y := (⟨"SitDown", "between", "(I)I"⟩, prog_1_method_30_code, 2, (some .int))
def sY10_barred : sd_Y := (⟨"SitDown", "barred", "(II)I"⟩, prog_1_method_31_code, 4, (some .int))
def sY10_why : sd_Y := (⟨"SitDown", "why", "(II)I"⟩, prog_1_method_32_code, 5, (some .int))
def sY10_rumour : sd_Y := (⟨"SitDown", "rumour", "(II)I"⟩, prog_1_method_33_code, 4, (some .int))
def sY10_out : sd_Y := (⟨"SitDown", "out", "(IZ)I"⟩, prog_1_method_34_code, 3, (some .int))
def sY10_squads : sd_Y := (⟨"SitDown", "squads", "(I)I"⟩, prog_1_method_35_code, 3, (some .int))
def sY10_believe : sd_Y := (⟨"SitDown", "believe", "()I"⟩, prog_1_method_36_code, 1, (some .int))
def sY10_feint : sd_Y := (⟨"SitDown", "feint", "(I)I"⟩, prog_1_method_37_code, 3, (some .int))
def sY10_copyTerm : sd_Y := (⟨"SitDown", "copyTerm", "(III)I"⟩, prog_1_method_38_code, 5, (some .int))
def sY10_unlike : sd_Y := (⟨"SitDown", "unlike", "()I"⟩, prog_1_method_39_code, 1, (some .int))
def sY10_sign : sd_Y := (⟨"SitDown", "sign", "(III)I"⟩, prog_1_method_40_code, 4, (some .int))
def sY10_list : sd_Y := (⟨"SitDown", "list", "(III)I"⟩, prog_1_method_41_code, 4, (some .int))
def sY10_want : sd_Y := (⟨"SitDown", "want", "(I)I"⟩, prog_1_method_42_code, 2, (some .int))
def sY10_move : sd_Y := (⟨"SitDown", "move", "(IIII)I"⟩, prog_1_method_43_code, 5, (some .int))
def sY10_play : sd_Y := (⟨"SitDown", "play", "(III)I"⟩, prog_1_method_44_code, 4, (some .int))
def sY10_best : sd_Y := (⟨"SitDown", "best", "(III)I"⟩, prog_1_method_45_code, 4, (some .int))
def sY10_judge : sd_Y := (⟨"SitDown", "judge", "(III)I"⟩, prog_1_method_46_code, 6, (some .int))
def sY10_tick : sd_Y := (⟨"SitDown", "tick", "(I)I"⟩, prog_1_method_47_code, 3, (some .int))
def sY10_book : sd_Y := (⟨"SitDown", "book", "(II)I"⟩, prog_1_method_48_code, 3, (some .int))
def sY10_check : sd_Y := (⟨"SitDown", "check", "(II)I"⟩, prog_1_method_49_code, 5, (some .int))
def sY10_sheet : sd_Y := (⟨"SitDown", "sheet", "(III)I"⟩, prog_1_method_50_code, 5, (some .int))
def sY10_write : sd_Y := (⟨"SitDown", "write", "(III)I"⟩, prog_1_method_51_code, 5, (some .int))
def sY10_copy : sd_Y := (⟨"SitDown", "copy", "(IIIII)I"⟩, prog_1_method_52_code, 8, (some .int))
def sY10_image : sd_Y := (⟨"SitDown", "image", "()I"⟩, prog_1_method_53_code, 1, (some .int))
def sY10_undo : sd_Y := (⟨"SitDown", "undo", "()I"⟩, prog_1_method_54_code, 1, (some .int))
def sY10_tear : sd_Y := (⟨"SitDown", "tear", "()I"⟩, prog_1_method_55_code, 2, (some .int))
def sY10_count : sd_Y := (⟨"SitDown", "count", "(I)I"⟩, prog_1_method_56_code, 2, (some .int))
def sY10_status : sd_Y := (⟨"SitDown", "status", "(I)I"⟩, prog_1_method_57_code, 2, (some .int))
def sY10_found : sd_Y := (⟨"SitDown", "found", "(I)I"⟩, prog_1_method_58_code, 3, (some .int))
def sY10_orNone : sd_Y := (⟨"SitDown", "orNone", "(I)I"⟩, prog_1_method_59_code, 2, (some .int))
def sY10_turn : sd_Y := (⟨"SitDown", "turn", "([IIZ)I"⟩, prog_1_method_60_code, 4, (some .int))
def sY10_areGame : sd_Y := (⟨"SitDown", "areGame", "(III)Z"⟩, prog_1_method_61_code, 3, (some .boolean))
def sY10_isWithin : sd_Y := (⟨"SitDown", "isWithin", "(III)Z"⟩, prog_1_method_62_code, 3, (some .boolean))
def sY10_isIn : sd_Y := (⟨"SitDown", "isIn", "(II)Z"⟩, prog_1_method_63_code, 2, (some .boolean))
def sY10_asNumber : sd_Y := (⟨"SitDown", "asNumber", "(Z)I"⟩, prog_1_method_64_code, 1, (some .int))
def sY10_sumOf : sd_Y := (⟨"SitDown", "sumOf", "([I)I"⟩, prog_1_method_65_code, 6, (some .int))
def sY10_fill : sd_Y := (⟨"SitDown", "fill", "([II)V"⟩, prog_1_method_66_code, 3, none)
def sY10_copyRow : sd_Y := (⟨"SitDown", "copyRow", "([I[I)V"⟩, prog_1_method_67_code, 2, none)
def sY10_nextSubset : sd_Y := (⟨"SitDown", "nextSubset", "(II)I"⟩, prog_1_method_68_code, 2, (some .int))
def sY11_init : sd_Y := (⟨"SitDownModel", "<init>", "()V"⟩, prog_13_method_1_code, 2, none)
def sY11_finding : sd_Y := (⟨"SitDownModel", "finding", "(I)I"⟩, prog_13_method_2_code, 2, (some .int))
def sY11_in : sd_Y := (⟨"SitDownModel", "in", "(III)Z"⟩, prog_13_method_3_code, 3, (some .boolean))
def sY11_isHold : sd_Y := (⟨"SitDownModel", "isHold", "(I)Z"⟩, prog_13_method_4_code, 2, (some .boolean))
def sY11_kindOf : sd_Y := (⟨"SitDownModel", "kindOf", "(I)I"⟩, prog_13_method_5_code, 2, (some .int))
def sY11_isShop : sd_Y := (⟨"SitDownModel", "isShop", "(I)Z"⟩, prog_13_method_6_code, 2, (some .boolean))
def sY11_isOf : sd_Y := (⟨"SitDownModel", "isOf", "(II)Z"⟩, prog_13_method_7_code, 4, (some .boolean))
def sY11_manyOf : sd_Y := (⟨"SitDownModel", "manyOf", "(I)I"⟩, prog_13_method_8_code, 4, (some .int))
def sY11_areNumbers : sd_Y := (⟨"SitDownModel", "areNumbers", "(III)Z"⟩, prog_13_method_9_code, 4, (some .boolean))
def sY11_hold : sd_Y := (⟨"SitDownModel", "hold", "(II)I"⟩, prog_13_method_10_code, 6, (some .int))
def sY11_as : sd_Y := (⟨"SitDownModel", "as", "(II)I"⟩, prog_13_method_11_code, 3, (some .int))
def sY11_menIn : sd_Y := (⟨"SitDownModel", "menIn", "(I)I"⟩, prog_13_method_12_code, 4, (some .int))
def sY11_makes : sd_Y := (⟨"SitDownModel", "makes", "(I)Z"⟩, prog_13_method_13_code, 2, (some .boolean))
def sY11_of : sd_Y := (⟨"SitDownModel", "of", "(II)I"⟩, prog_13_method_14_code, 4, (some .int))
def sY11_become : sd_Y := (⟨"SitDownModel", "become", "(II)I"⟩, prog_13_method_15_code, 4, (some .int))
def sY11_run : sd_Y := (⟨"SitDownModel", "run", "(IZ)I"⟩, prog_13_method_16_code, 3, (some .int))
def sY11_shut : sd_Y := (⟨"SitDownModel", "shut", "(IZ)I"⟩, prog_13_method_17_code, 3, (some .int))
def sY11_outside : sd_Y := (⟨"SitDownModel", "outside", "(I)I"⟩, prog_13_method_18_code, 3, (some .int))
def sY11_leads : sd_Y := (⟨"SitDownModel", "leads", "(II)Z"⟩, prog_13_method_19_code, 6, (some .boolean))
def sY11_nextWarmth : sd_Y := (⟨"SitDownModel", "nextWarmth", "(II)I"⟩, prog_13_method_20_code, 3, (some .int))
def sY11_cold : sd_Y := (⟨"SitDownModel", "cold", "(II)I"⟩, prog_13_method_21_code, 5, (some .int))
def sY11_man : sd_Y := (⟨"SitDownModel", "man", "(II)I"⟩, prog_13_method_22_code, 4, (some .int))
def sY11_isMan : sd_Y := (⟨"SitDownModel", "isMan", "(I)Z"⟩, prog_13_method_23_code, 2, (some .boolean))
def sY11_where : sd_Y := (⟨"SitDownModel", "where", "(II)I"⟩, prog_13_method_24_code, 3, (some .int))
def sY11_reachBy : sd_Y := (⟨"SitDownModel", "reachBy", "(II)I"⟩, prog_13_method_25_code, 8, (some .int))
def sY11_reachOf : sd_Y := (⟨"SitDownModel", "reachOf", "(I)I"⟩, prog_13_method_26_code, 2, (some .int))
def sY11_menInAll : sd_Y := (⟨"SitDownModel", "menInAll", "(I)I"⟩, prog_13_method_27_code, 4, (some .int))
def sY11_go : sd_Y := (⟨"SitDownModel", "go", "(II)I"⟩, prog_13_method_28_code, 3, (some .int))
def sY11_hear : sd_Y := (⟨"SitDownModel", "hear", "(II)I"⟩, prog_13_method_29_code, 4, (some .int))
def sY11_willThen : sd_Y := (⟨"SitDownModel", "willThen", "(IIIII)I"⟩, prog_13_method_30_code, 7, (some .int))
def sY11_stay : sd_Y := (⟨"SitDownModel", "stay", "(I)I"⟩, prog_13_method_31_code, 5, (some .int))
def sY11_pass : sd_Y := (⟨"SitDownModel", "pass", "(II)I"⟩, prog_13_method_32_code, 3, (some .int))
def sY11_mealsIn : sd_Y := (⟨"SitDownModel", "mealsIn", "(I)I"⟩, prog_13_method_33_code, 4, (some .int))
def sY11_food : sd_Y := (⟨"SitDownModel", "food", "(I)I"⟩, prog_13_method_34_code, 4, (some .int))
def sY11_reach : sd_Y := (⟨"SitDownModel", "reach", "(I)I"⟩, prog_13_method_35_code, 2, (some .int))
def sY11_whistle : sd_Y := (⟨"SitDownModel", "whistle", "(II)I"⟩, prog_13_method_36_code, 3, (some .int))
def sY11_forceAt : sd_Y := (⟨"SitDownModel", "forceAt", "(I)I"⟩, prog_13_method_37_code, 2, (some .int))
def sY11_force : sd_Y := (⟨"SitDownModel", "force", "(I)I"⟩, prog_13_method_38_code, 2, (some .int))
def sY11_take : sd_Y := (⟨"SitDownModel", "take", "(I)I"⟩, prog_13_method_39_code, 3, (some .int))
def sY11_guard : sd_Y := (⟨"SitDownModel", "guard", "(II)I"⟩, prog_13_method_40_code, 3, (some .int))
def sY11_work : sd_Y := (⟨"SitDownModel", "work", "(I)I"⟩, prog_13_method_41_code, 4, (some .int))
def sY11_stock : sd_Y := (⟨"SitDownModel", "stock", "(I)I"⟩, prog_13_method_42_code, 5, (some .int))
def sY11_part : sd_Y := (⟨"SitDownModel", "part", "(I)I"⟩, prog_13_method_43_code, 2, (some .int))
def sY11_lacks : sd_Y := (⟨"SitDownModel", "lacks", "([III)I"⟩, prog_13_method_44_code, 5, (some .int))
def sY11_goesOn : sd_Y := (⟨"SitDownModel", "goesOn", "(I)V"⟩, prog_13_method_45_code, 6, none)
def sY11_makers : sd_Y := (⟨"SitDownModel", "makers", "()I"⟩, prog_13_method_46_code, 3, (some .int))
def sY11_last : sd_Y := (⟨"SitDownModel", "last", "(II)I"⟩, prog_13_method_47_code, 3, (some .int))
def sY11_ones : sd_Y := (⟨"SitDownModel", "ones", "(I)I"⟩, prog_13_method_48_code, 3, (some .int))
def sY11_doStand : sd_Y := (⟨"SitDownModel", "doStand", "(I)Z"⟩, prog_13_method_49_code, 4, (some .boolean))
def sY11_least : sd_Y := (⟨"SitDownModel", "least", "(I)I"⟩, prog_13_method_50_code, 6, (some .int))
def sY11_byteAt : sd_Y := (⟨"SitDownModel", "byteAt", "()I"⟩, prog_13_method_51_code, 1, (some .int))
def sY11_isGood : sd_Y := (⟨"SitDownModel", "isGood", "()Z"⟩, prog_13_method_52_code, 1, (some .boolean))
def sY11_wrong : sd_Y := (⟨"SitDownModel", "wrong", "()V"⟩, prog_13_method_53_code, 1, none)
def sY11_byteIs : sd_Y := (⟨"SitDownModel", "byteIs", "(I)V"⟩, prog_13_method_54_code, 2, none)
def sY11_word : sd_Y := (⟨"SitDownModel", "word", "(II)I"⟩, prog_13_method_55_code, 8, (some .int))
def sY11_test : sd_Y := (⟨"SitDownModel", "test", "()Z"⟩, prog_13_method_56_code, 6, (some .boolean))
def sY11_reads : sd_Y := (⟨"SitDownModel", "reads", "(III)V"⟩, prog_13_method_57_code, 13, none)
def sY11_feed : sd_Y := (⟨"SitDownModel", "feed", "(II)I"⟩, prog_13_method_58_code, 4, (some .int))
def sY11_text : sd_Y := (⟨"SitDownModel", "text", "(III)I"⟩, prog_13_method_59_code, 6, (some .int))
def sY11_wipe : sd_Y := (⟨"SitDownModel", "wipe", "()I"⟩, prog_13_method_60_code, 2, (some .int))
def sY11_isInForce : sd_Y := (⟨"SitDownModel", "isInForce", "(II)Z"⟩, prog_13_method_61_code, 4, (some .boolean))
def sY11_inForce : sd_Y := (⟨"SitDownModel", "inForce", "()I"⟩, prog_13_method_62_code, 3, (some .int))
def sY11_shares : sd_Y := (⟨"SitDownModel", "shares", "(I)I"⟩, prog_13_method_63_code, 3, (some .int))
def sY11_between : sd_Y := (⟨"SitDownModel", "between", "(I)I"⟩, prog_13_method_64_code, 4, (some .int))
def sY11_isBarred : sd_Y := (⟨"SitDownModel", "isBarred", "(II)Z"⟩, prog_13_method_65_code, 4, (some .boolean))
def sY11_barred : sd_Y := (⟨"SitDownModel", "barred", "(II)I"⟩, prog_13_method_66_code, 3, (some .int))
def sY11_why : sd_Y := (⟨"SitDownModel", "why", "(II)I"⟩, prog_13_method_67_code, 4, (some .int))
def sY11_rumour : sd_Y := (⟨"SitDownModel", "rumour", "(II)I"⟩, prog_13_method_68_code, 4, (some .int))
def sY11_out : sd_Y := (⟨"SitDownModel", "out", "(IZ)I"⟩, prog_13_method_69_code, 3, (some .int))
def sY11_squads : sd_Y := (⟨"SitDownModel", "squads", "(I)I"⟩, prog_13_method_70_code, 3, (some .int))
def sY11_sets : sd_Y := (⟨"SitDownModel", "sets", "(I)V"⟩, prog_13_method_71_code, 6, none)
def sY11_believe : sd_Y := (⟨"SitDownModel", "believe", "()I"⟩, prog_13_method_72_code, 3, (some .int))
def sY11_feint : sd_Y := (⟨"SitDownModel", "feint", "(I)I"⟩, prog_13_method_73_code, 7, (some .int))
def sY11_copyTerm : sd_Y := (⟨"SitDownModel", "copyTerm", "(III)I"⟩, prog_13_method_74_code, 4, (some .int))
def sY11_isUnlike : sd_Y := (⟨"SitDownModel", "isUnlike", "(I)Z"⟩, prog_13_method_75_code, 2, (some .boolean))
def sY11_unlike : sd_Y := (⟨"SitDownModel", "unlike", "()I"⟩, prog_13_method_76_code, 3, (some .int))
def sY11_sumOf : sd_Y := (⟨"SitDownModel", "sumOf", "(II)I"⟩, prog_13_method_77_code, 5, (some .int))
def sY11_sign : sd_Y := (⟨"SitDownModel", "sign", "(III)I"⟩, prog_13_method_78_code, 10, (some .int))
def sY11_list : sd_Y := (⟨"SitDownModel", "list", "(III)I"⟩, prog_13_method_79_code, 4, (some .int))
def sY11_want : sd_Y := (⟨"SitDownModel", "want", "(I)I"⟩, prog_13_method_80_code, 6, (some .int))
def sY11_move : sd_Y := (⟨"SitDownModel", "move", "(IIII)I"⟩, prog_13_method_81_code, 5, (some .int))
def sY11_stands : sd_Y := (⟨"SitDownModel", "stands", "(II)I"⟩, prog_13_method_82_code, 2, (some .int))
def sY11_behind : sd_Y := (⟨"SitDownModel", "behind", "(IIIII)I"⟩, prog_13_method_83_code, 9, (some .int))
def sY11_game : sd_Y := (⟨"SitDownModel", "game", "(IIII)I"⟩, prog_13_method_84_code, 8, (some .int))
def sY11_isGame : sd_Y := (⟨"SitDownModel", "isGame", "(II)Z"⟩, prog_13_method_85_code, 2, (some .boolean))
def sY11_play : sd_Y := (⟨"SitDownModel", "play", "(III)I"⟩, prog_13_method_86_code, 4, (some .int))
def sY11_best : sd_Y := (⟨"SitDownModel", "best", "(III)I"⟩, prog_13_method_87_code, 6, (some .int))
def sY11_fixed : sd_Y := (⟨"SitDownModel", "fixed", "(IIII)I"⟩, prog_13_method_88_code, 13, (some .int))
def sY11_judge : sd_Y := (⟨"SitDownModel", "judge", "(III)I"⟩, prog_13_method_89_code, 5, (some .int))
def sY11_warms : sd_Y := (⟨"SitDownModel", "warms", "()V"⟩, prog_13_method_90_code, 2, none)
def sY11_kitchenFor : sd_Y := (⟨"SitDownModel", "kitchenFor", "(I)I"⟩, prog_13_method_91_code, 4, (some .int))
def sY11_eats : sd_Y := (⟨"SitDownModel", "eats", "(I)V"⟩, prog_13_method_92_code, 4, none)
def sY11_tires : sd_Y := (⟨"SitDownModel", "tires", "(I)V"⟩, prog_13_method_93_code, 3, none)
def sY11_works : sd_Y := (⟨"SitDownModel", "works", "()I"⟩, prog_13_method_94_code, 4, (some .int))
def sY11_closes : sd_Y := (⟨"SitDownModel", "closes", "()V"⟩, prog_13_method_95_code, 3, none)
def sY11_writes : sd_Y := (⟨"SitDownModel", "writes", "(II)V"⟩, prog_13_method_96_code, 6, none)
def sY11_heldGates : sd_Y := (⟨"SitDownModel", "heldGates", "()I"⟩, prog_13_method_97_code, 3, (some .int))
def sY11_tick : sd_Y := (⟨"SitDownModel", "tick", "(I)I"⟩, prog_13_method_98_code, 3, (some .int))
def sY11_isClosed : sd_Y := (⟨"SitDownModel", "isClosed", "(I)Z"⟩, prog_13_method_99_code, 2, (some .boolean))
def sY11_book : sd_Y := (⟨"SitDownModel", "book", "(II)I"⟩, prog_13_method_100_code, 3, (some .int))
def sY11_check : sd_Y := (⟨"SitDownModel", "check", "(II)I"⟩, prog_13_method_101_code, 4, (some .int))
def sY11_isSheet : sd_Y := (⟨"SitDownModel", "isSheet", "(I)Z"⟩, prog_13_method_102_code, 1, (some .boolean))
def sY11_sheet : sd_Y := (⟨"SitDownModel", "sheet", "(III)I"⟩, prog_13_method_103_code, 5, (some .int))
def sY11_write : sd_Y := (⟨"SitDownModel", "write", "(III)I"⟩, prog_13_method_104_code, 5, (some .int))
def sY11_has : sd_Y := (⟨"SitDownModel", "has", "(III)Z"⟩, prog_13_method_105_code, 4, (some .boolean))
def sY11_copy : sd_Y := (⟨"SitDownModel", "copy", "(IIIII)I"⟩, prog_13_method_106_code, 7, (some .int))
def sY11_image : sd_Y := (⟨"SitDownModel", "image", "()I"⟩, prog_13_method_107_code, 2, (some .int))
def sY11_undo : sd_Y := (⟨"SitDownModel", "undo", "()I"⟩, prog_13_method_108_code, 2, (some .int))
def sY11_tear : sd_Y := (⟨"SitDownModel", "tear", "()I"⟩, prog_13_method_109_code, 2, (some .int))
def sY11_menInShops : sd_Y := (⟨"SitDownModel", "menInShops", "()I"⟩, prog_13_method_110_code, 3, (some .int))
def sY11_count : sd_Y := (⟨"SitDownModel", "count", "(I)I"⟩, prog_13_method_111_code, 2, (some .int))
def sY11_status : sd_Y := (⟨"SitDownModel", "status", "(I)I"⟩, prog_13_method_112_code, 4, (some .int))
def sYJ6_bitCount_0f7a4 : sd_Y := (⟨"java/lang/Integer", "bitCount", "(I)I"⟩, prog_14_method_49_code, 1, (some .int))
def sYJ9_max_7cf53 : sd_Y := (⟨"java/lang/Math", "max", "(II)I"⟩, prog_15_method_65_code, 2, (some .int))
def sYJ9_min_7cf53 : sd_Y := (⟨"java/lang/Math", "min", "(II)I"⟩, prog_15_method_69_code, 2, (some .int))
def sYJ0_length_8abf5 : sd_Y := (⟨"java/lang/String", "length", "()I"⟩, prog_16_method_54_code, 1, (some .int))
def sYJ0_isEmpty_aae02 : sd_Y := (⟨"java/lang/String", "isEmpty", "()Z"⟩, prog_16_method_55_code, 1, (some .boolean))
def sYJ0_charAt_5068e : sd_Y := (⟨"java/lang/String", "charAt", "(I)C"⟩, prog_16_method_56_code, 2, (some .char))
def sYJ0_coder_7d493 : sd_Y := (⟨"java/lang/String", "coder", "()B"⟩, prog_16_method_152_code, 1, (some .byte))
def sYJ0_isLatin1_aae02 : sd_Y := (⟨"java/lang/String", "isLatin1", "()Z"⟩, prog_16_method_154_code, 1, (some .boolean))
def sYJ0_checkIndex_df160 : sd_Y := (⟨"java/lang/String", "checkIndex", "(II)V"⟩, prog_16_method_155_code, 2, none)
def sYJ1_charAt_3b067 : sd_Y := (⟨"java/lang/StringLatin1", "charAt", "([BI)C"⟩, prog_17_method_2_code, 2, (some .char))
def sYJ2_getChar_3b067 : sd_Y := (⟨"java/lang/StringUTF16", "getChar", "([BI)C"⟩, prog_18_method_5_code, 2, (some .char))
def sYJ2_length_9d52b : sd_Y := (⟨"java/lang/StringUTF16", "length", "([B)I"⟩, prog_18_method_6_code, 1, (some .int))
def sYJ2_charAt_3b067 : sd_Y := (⟨"java/lang/StringUTF16", "charAt", "([BI)C"⟩, prog_18_method_83_code, 2, (some .char))
def sYJ2_checkIndex_2214a : sd_Y := (⟨"java/lang/StringUTF16", "checkIndex", "(I[B)V"⟩, prog_18_method_91_code, 2, none)
def sYJ3_checkIndex_8e157 : sd_Y := (⟨"jdk/internal/util/Preconditions", "checkIndex", "(IILjava/util/function/BiFunction;)I"⟩, prog_20_method_11_code, 3, (some .int))
theorem sF1_9 : sd_fl "SitDown$Holds" 9 1 0 false (.int) := ⟨RX1, TX1, 15, sC1, by decide, sd_in1_ (i := 40) rfl rfl, rfl, rfl⟩
theorem sF6_143 : sd_fl "SitDown$Site" 143 1 0 false (.int) := ⟨RX1, TX1, 15, sC1, by decide, sd_in1_ (i := 41) rfl rfl, rfl, rfl⟩
theorem sF10_379 : sd_fl "SitDown" 379 1 0 false (.int) := ⟨RX1, TX1, 15, sC1, by decide, sd_in1_ (i := 42) rfl rfl, rfl, rfl⟩
theorem sF1_15 : sd_fl "SitDown$Holds" 15 1 1 false (.int) := ⟨RX1, TX1, 15, sC1, by decide, sd_in1_ (i := 43) rfl rfl, rfl, rfl⟩
theorem sF10_380 : sd_fl "SitDown" 380 1 1 false (.int) := ⟨RX1, TX1, 15, sC1, by decide, sd_in1_ (i := 44) rfl rfl, rfl, rfl⟩
theorem sF1_18 : sd_fl "SitDown$Holds" 18 1 2 true (.array .int) := ⟨RX1, TX1, 15, sC1, by decide, sd_in1_ (i := 45) rfl rfl, rfl, rfl⟩
theorem sF6_127 : sd_fl "SitDown$Site" 127 1 2 true (.array .int) := ⟨RX1, TX1, 15, sC1, by decide, sd_in1_ (i := 46) rfl rfl, rfl, rfl⟩
theorem sF1_22 : sd_fl "SitDown$Holds" 22 1 3 true (.array .int) := ⟨RX1, TX1, 15, sC1, by decide, sd_in1_ (i := 47) rfl rfl, rfl, rfl⟩
theorem sF6_107 : sd_fl "SitDown$Site" 107 1 3 true (.array .int) := ⟨RX1, TX1, 15, sC1, by decide, sd_in1_ (i := 48) rfl rfl, rfl, rfl⟩
theorem sF10_176 : sd_fl "SitDown" 176 1 3 true (.array .int) := ⟨RX1, TX1, 15, sC1, by decide, sd_in1_ (i := 49) rfl rfl, rfl, rfl⟩
theorem sF1_25 : sd_fl "SitDown$Holds" 25 1 4 true (.array .int) := ⟨RX1, TX1, 15, sC1, by decide, sd_in1_ (i := 50) rfl rfl, rfl, rfl⟩
theorem sF6_114 : sd_fl "SitDown$Site" 114 1 4 true (.array .int) := ⟨RX1, TX1, 15, sC1, by decide, sd_in1_ (i := 51) rfl rfl, rfl, rfl⟩
theorem sF1_28 : sd_fl "SitDown$Holds" 28 1 5 true (.array .int) := ⟨RX1, TX1, 15, sC1, by decide, sd_in1_ (i := 52) rfl rfl, rfl, rfl⟩
theorem sF6_120 : sd_fl "SitDown$Site" 120 1 5 true (.array .int) := ⟨RX1, TX1, 15, sC1, by decide, sd_in1_ (i := 53) rfl rfl, rfl, rfl⟩
theorem sF1_31 : sd_fl "SitDown$Holds" 31 1 6 true (.array .int) := ⟨RX1, TX1, 15, sC1, by decide, sd_in1_ (i := 54) rfl rfl, rfl, rfl⟩
theorem sF6_133 : sd_fl "SitDown$Site" 133 1 6 true (.array .int) := ⟨RX1, TX1, 15, sC1, by decide, sd_in1_ (i := 55) rfl rfl, rfl, rfl⟩
theorem sF1_34 : sd_fl "SitDown$Holds" 34 1 7 true (.array .int) := ⟨RX1, TX1, 15, sC1, by decide, sd_in1_ (i := 56) rfl rfl, rfl, rfl⟩
theorem sF10_86 : sd_fl "SitDown" 86 1 7 true (.array .int) := ⟨RX1, TX1, 15, sC1, by decide, sd_in1_ (i := 57) rfl rfl, rfl, rfl⟩
theorem sF6_130 : sd_fl "SitDown$Site" 130 1 7 true (.array .int) := ⟨RX1, TX1, 15, sC1, by decide, sd_in1_ (i := 58) rfl rfl, rfl, rfl⟩
theorem sF1_37 : sd_fl "SitDown$Holds" 37 1 8 true (.array .int) := ⟨RX1, TX1, 15, sC1, by decide, sd_in1_ (i := 59) rfl rfl, rfl, rfl⟩
theorem sF6_234 : sd_fl "SitDown$Site" 234 1 8 true (.array .int) := ⟨RX1, TX1, 15, sC1, by decide, sd_in1_ (i := 60) rfl rfl, rfl, rfl⟩
theorem sF1_40 : sd_fl "SitDown$Holds" 40 1 9 true (.array .int) := ⟨RX1, TX1, 15, sC1, by decide, sd_in1_ (i := 61) rfl rfl, rfl, rfl⟩
theorem sF1_43 : sd_fl "SitDown$Holds" 43 1 10 true (.array .int) := ⟨RX1, TX1, 15, sC1, by decide, sd_in1_ (i := 62) rfl rfl, rfl, rfl⟩
theorem sF10_173 : sd_fl "SitDown" 173 1 10 true (.array .int) := ⟨RX1, TX1, 15, sC1, by decide, sd_in1_ (i := 63) rfl rfl, rfl, rfl⟩
theorem sF1_46 : sd_fl "SitDown$Holds" 46 1 11 true (.array .int) := ⟨RX1, TX1, 15, sC1, by decide, sd_in1_ (i := 64) rfl rfl, rfl, rfl⟩
theorem sF10_179 : sd_fl "SitDown" 179 1 11 true (.array .int) := ⟨RX1, TX1, 15, sC1, by decide, sd_in1_ (i := 65) rfl rfl, rfl, rfl⟩
theorem sF1_49 : sd_fl "SitDown$Holds" 49 1 12 true (.array .int) := ⟨RX1, TX1, 15, sC1, by decide, sd_in1_ (i := 66) rfl rfl, rfl, rfl⟩
theorem sF10_93 : sd_fl "SitDown" 93 1 12 true (.array .int) := ⟨RX1, TX1, 15, sC1, by decide, sd_in1_ (i := 67) rfl rfl, rfl, rfl⟩
theorem sF1_52 : sd_fl "SitDown$Holds" 52 1 13 true (.array .int) := ⟨RX1, TX1, 15, sC1, by decide, sd_in1_ (i := 68) rfl rfl, rfl, rfl⟩
theorem sF10_283 : sd_fl "SitDown" 283 1 13 true (.array .int) := ⟨RX1, TX1, 15, sC1, by decide, sd_in1_ (i := 69) rfl rfl, rfl, rfl⟩
theorem sF1_55 : sd_fl "SitDown$Holds" 55 1 14 true (.array .int) := ⟨RX1, TX1, 15, sC1, by decide, sd_in1_ (i := 70) rfl rfl, rfl, rfl⟩
theorem sF10_286 : sd_fl "SitDown" 286 1 14 true (.array .int) := ⟨RX1, TX1, 15, sC1, by decide, sd_in1_ (i := 71) rfl rfl, rfl, rfl⟩
theorem sF3_9 : sd_fl "SitDown$Men" 9 3 0 false (.int) := ⟨RX3, TX3, 5, sC3, by decide, sd_in1_ (i := 110) rfl rfl, rfl, rfl⟩
theorem sF10_110 : sd_fl "SitDown" 110 3 0 false (.int) := ⟨RX3, TX3, 5, sC3, by decide, sd_in1_ (i := 111) rfl rfl, rfl, rfl⟩
theorem sF6_212 : sd_fl "SitDown$Site" 212 3 0 false (.int) := ⟨RX3, TX3, 5, sC3, by decide, sd_in1_ (i := 112) rfl rfl, rfl, rfl⟩
theorem sF3_15 : sd_fl "SitDown$Men" 15 3 1 true (.array .int) := ⟨RX3, TX3, 5, sC3, by decide, sd_in1_ (i := 113) rfl rfl, rfl, rfl⟩
theorem sF10_120 : sd_fl "SitDown" 120 3 1 true (.array .int) := ⟨RX3, TX3, 5, sC3, by decide, sd_in1_ (i := 114) rfl rfl, rfl, rfl⟩
theorem sF6_201 : sd_fl "SitDown$Site" 201 3 1 true (.array .int) := ⟨RX3, TX3, 5, sC3, by decide, sd_in1_ (i := 115) rfl rfl, rfl, rfl⟩
theorem sF3_19 : sd_fl "SitDown$Men" 19 3 2 true (.array .int) := ⟨RX3, TX3, 5, sC3, by decide, sd_in1_ (i := 116) rfl rfl, rfl, rfl⟩
theorem sF6_181 : sd_fl "SitDown$Site" 181 3 2 true (.array .int) := ⟨RX3, TX3, 5, sC3, by decide, sd_in1_ (i := 117) rfl rfl, rfl, rfl⟩
theorem sF10_131 : sd_fl "SitDown" 131 3 2 true (.array .int) := ⟨RX3, TX3, 5, sC3, by decide, sd_in1_ (i := 118) rfl rfl, rfl, rfl⟩
theorem sF3_22 : sd_fl "SitDown$Men" 22 3 3 true (.array .int) := ⟨RX3, TX3, 5, sC3, by decide, sd_in1_ (i := 119) rfl rfl, rfl, rfl⟩
theorem sF6_198 : sd_fl "SitDown$Site" 198 3 3 true (.array .int) := ⟨RX3, TX3, 5, sC3, by decide, sd_in1_ (i := 120) rfl rfl, rfl, rfl⟩
theorem sF3_25 : sd_fl "SitDown$Men" 25 3 4 true (.array .int) := ⟨RX3, TX3, 5, sC3, by decide, sd_in1_ (i := 121) rfl rfl, rfl, rfl⟩
theorem sF6_184 : sd_fl "SitDown$Site" 184 3 4 true (.array .int) := ⟨RX3, TX3, 5, sC3, by decide, sd_in1_ (i := 122) rfl rfl, rfl, rfl⟩
theorem sF9_9 : sd_fl "SitDown$Works" 9 9 0 false (.int) := ⟨RX9, TX9, 6, sC9, by decide, sd_in1_ (i := 140) rfl rfl, rfl, rfl⟩
theorem sF10_187 : sd_fl "SitDown" 187 9 0 false (.int) := ⟨RX9, TX9, 6, sC9, by decide, sd_in1_ (i := 141) rfl rfl, rfl, rfl⟩
theorem sF9_15 : sd_fl "SitDown$Works" 15 9 1 false (.int) := ⟨RX9, TX9, 6, sC9, by decide, sd_in1_ (i := 142) rfl rfl, rfl, rfl⟩
theorem sF6_243 : sd_fl "SitDown$Site" 243 9 1 false (.int) := ⟨RX9, TX9, 6, sC9, by decide, sd_in1_ (i := 143) rfl rfl, rfl, rfl⟩
theorem sF10_382 : sd_fl "SitDown" 382 9 1 false (.int) := ⟨RX9, TX9, 6, sC9, by decide, sd_in1_ (i := 144) rfl rfl, rfl, rfl⟩
theorem sF9_18 : sd_fl "SitDown$Works" 18 9 2 true (.array .int) := ⟨RX9, TX9, 6, sC9, by decide, sd_in1_ (i := 145) rfl rfl, rfl, rfl⟩
theorem sF10_205 : sd_fl "SitDown" 205 9 2 true (.array .int) := ⟨RX9, TX9, 6, sC9, by decide, sd_in1_ (i := 146) rfl rfl, rfl, rfl⟩
theorem sF9_22 : sd_fl "SitDown$Works" 22 9 3 true (.array .int) := ⟨RX9, TX9, 6, sC9, by decide, sd_in1_ (i := 147) rfl rfl, rfl, rfl⟩
theorem sF9_25 : sd_fl "SitDown$Works" 25 9 4 true (.array .int) := ⟨RX9, TX9, 6, sC9, by decide, sd_in1_ (i := 148) rfl rfl, rfl, rfl⟩
theorem sF10_223 : sd_fl "SitDown" 223 9 4 true (.array .int) := ⟨RX9, TX9, 6, sC9, by decide, sd_in1_ (i := 149) rfl rfl, rfl, rfl⟩
theorem sF9_28 : sd_fl "SitDown$Works" 28 9 5 true (.array .int) := ⟨RX9, TX9, 6, sC9, by decide, sd_in1_ (i := 150) rfl rfl, rfl, rfl⟩
theorem sF8_9 : sd_fl "SitDown$Texts" 9 8 0 false (.int) := ⟨RX8, TX8, 13, sC8, by decide, sd_in1_ (i := 170) rfl rfl, rfl, rfl⟩
theorem sF7_22 : sd_fl "SitDown$Tape" 22 8 0 false (.int) := ⟨RX8, TX8, 13, sC8, by decide, sd_in1_ (i := 171) rfl rfl, rfl, rfl⟩
theorem sF10_232 : sd_fl "SitDown" 232 8 0 false (.int) := ⟨RX8, TX8, 13, sC8, by decide, sd_in1_ (i := 172) rfl rfl, rfl, rfl⟩
theorem sF8_15 : sd_fl "SitDown$Texts" 15 8 1 true (.array .int) := ⟨RX8, TX8, 13, sC8, by decide, sd_in1_ (i := 173) rfl rfl, rfl, rfl⟩
theorem sF8_19 : sd_fl "SitDown$Texts" 19 8 2 true (.array .int) := ⟨RX8, TX8, 13, sC8, by decide, sd_in1_ (i := 174) rfl rfl, rfl, rfl⟩
theorem sF8_22 : sd_fl "SitDown$Texts" 22 8 3 true (.array .int) := ⟨RX8, TX8, 13, sC8, by decide, sd_in1_ (i := 175) rfl rfl, rfl, rfl⟩
theorem sF8_25 : sd_fl "SitDown$Texts" 25 8 4 true (.array .int) := ⟨RX8, TX8, 13, sC8, by decide, sd_in1_ (i := 176) rfl rfl, rfl, rfl⟩
theorem sF8_28 : sd_fl "SitDown$Texts" 28 8 5 true (.array .int) := ⟨RX8, TX8, 13, sC8, by decide, sd_in1_ (i := 177) rfl rfl, rfl, rfl⟩
theorem sF7_42 : sd_fl "SitDown$Tape" 42 8 5 true (.array .int) := ⟨RX8, TX8, 13, sC8, by decide, sd_in1_ (i := 178) rfl rfl, rfl, rfl⟩
theorem sF8_31 : sd_fl "SitDown$Texts" 31 8 6 true (.array .int) := ⟨RX8, TX8, 13, sC8, by decide, sd_in1_ (i := 179) rfl rfl, rfl, rfl⟩
theorem sF7_63 : sd_fl "SitDown$Tape" 63 8 6 true (.array .int) := ⟨RX8, TX8, 13, sC8, by decide, sd_in1_ (i := 180) rfl rfl, rfl, rfl⟩
theorem sF8_34 : sd_fl "SitDown$Texts" 34 8 7 true (.array .int) := ⟨RX8, TX8, 13, sC8, by decide, sd_in1_ (i := 181) rfl rfl, rfl, rfl⟩
theorem sF7_66 : sd_fl "SitDown$Tape" 66 8 7 true (.array .int) := ⟨RX8, TX8, 13, sC8, by decide, sd_in1_ (i := 182) rfl rfl, rfl, rfl⟩
theorem sF8_37 : sd_fl "SitDown$Texts" 37 8 8 true (.array .int) := ⟨RX8, TX8, 13, sC8, by decide, sd_in1_ (i := 183) rfl rfl, rfl, rfl⟩
theorem sF7_69 : sd_fl "SitDown$Tape" 69 8 8 true (.array .int) := ⟨RX8, TX8, 13, sC8, by decide, sd_in1_ (i := 184) rfl rfl, rfl, rfl⟩
theorem sF8_40 : sd_fl "SitDown$Texts" 40 8 9 true (.array .int) := ⟨RX8, TX8, 13, sC8, by decide, sd_in1_ (i := 185) rfl rfl, rfl, rfl⟩
theorem sF7_93 : sd_fl "SitDown$Tape" 93 8 9 true (.array .int) := ⟨RX8, TX8, 13, sC8, by decide, sd_in1_ (i := 186) rfl rfl, rfl, rfl⟩
theorem sF8_43 : sd_fl "SitDown$Texts" 43 8 10 true (.array .int) := ⟨RX8, TX8, 13, sC8, by decide, sd_in1_ (i := 187) rfl rfl, rfl, rfl⟩
theorem sF7_96 : sd_fl "SitDown$Tape" 96 8 10 true (.array .int) := ⟨RX8, TX8, 13, sC8, by decide, sd_in1_ (i := 188) rfl rfl, rfl, rfl⟩
theorem sF8_46 : sd_fl "SitDown$Texts" 46 8 11 true (.array .int) := ⟨RX8, TX8, 13, sC8, by decide, sd_in1_ (i := 189) rfl rfl, rfl, rfl⟩
theorem sF7_99 : sd_fl "SitDown$Tape" 99 8 11 true (.array .int) := ⟨RX8, TX8, 13, sC8, by decide, sd_in1_ (i := 190) rfl rfl, rfl, rfl⟩
theorem sF8_49 : sd_fl "SitDown$Texts" 49 8 12 true (.array .int) := ⟨RX8, TX8, 13, sC8, by decide, sd_in1_ (i := 191) rfl rfl, rfl, rfl⟩
theorem sF10_243 : sd_fl "SitDown" 243 8 12 true (.array .int) := ⟨RX8, TX8, 13, sC8, by decide, sd_in1_ (i := 192) rfl rfl, rfl, rfl⟩
theorem sF4_9 : sd_fl "SitDown$Rumours" 9 4 0 false (.int) := ⟨RX4, TX4, 7, sC4, by decide, sd_in1_ (i := 226) rfl rfl, rfl, rfl⟩
theorem sF10_256 : sd_fl "SitDown" 256 4 0 false (.int) := ⟨RX4, TX4, 7, sC4, by decide, sd_in1_ (i := 227) rfl rfl, rfl, rfl⟩
theorem sF4_15 : sd_fl "SitDown$Rumours" 15 4 1 false (.int) := ⟨RX4, TX4, 7, sC4, by decide, sd_in1_ (i := 228) rfl rfl, rfl, rfl⟩
theorem sF10_263 : sd_fl "SitDown" 263 4 1 false (.int) := ⟨RX4, TX4, 7, sC4, by decide, sd_in1_ (i := 229) rfl rfl, rfl, rfl⟩
theorem sF4_18 : sd_fl "SitDown$Rumours" 18 4 2 true (.array .int) := ⟨RX4, TX4, 7, sC4, by decide, sd_in1_ (i := 230) rfl rfl, rfl, rfl⟩
theorem sF4_22 : sd_fl "SitDown$Rumours" 22 4 3 true (.array .int) := ⟨RX4, TX4, 7, sC4, by decide, sd_in1_ (i := 231) rfl rfl, rfl, rfl⟩
theorem sF4_25 : sd_fl "SitDown$Rumours" 25 4 4 true (.array .int) := ⟨RX4, TX4, 7, sC4, by decide, sd_in1_ (i := 232) rfl rfl, rfl, rfl⟩
theorem sF10_260 : sd_fl "SitDown" 260 4 4 true (.array .int) := ⟨RX4, TX4, 7, sC4, by decide, sd_in1_ (i := 233) rfl rfl, rfl, rfl⟩
theorem sF4_28 : sd_fl "SitDown$Rumours" 28 4 5 true (.array .int) := ⟨RX4, TX4, 7, sC4, by decide, sd_in1_ (i := 234) rfl rfl, rfl, rfl⟩
theorem sF10_273 : sd_fl "SitDown" 273 4 5 true (.array .int) := ⟨RX4, TX4, 7, sC4, by decide, sd_in1_ (i := 235) rfl rfl, rfl, rfl⟩
theorem sF4_31 : sd_fl "SitDown$Rumours" 31 4 6 true (.array .int) := ⟨RX4, TX4, 7, sC4, by decide, sd_in1_ (i := 236) rfl rfl, rfl, rfl⟩
theorem sF2_9 : sd_fl "SitDown$Lists" 9 2 0 true (.array .int) := ⟨RX2, TX2, 2, sC2, by decide, sd_in2_ (i := 18) rfl rfl, rfl, rfl⟩
theorem sF10_310 : sd_fl "SitDown" 310 2 0 true (.array .int) := ⟨RX2, TX2, 2, sC2, by decide, sd_in2_ (i := 19) rfl rfl, rfl, rfl⟩
theorem sF2_15 : sd_fl "SitDown$Lists" 15 2 1 true (.array .int) := ⟨RX2, TX2, 2, sC2, by decide, sd_in2_ (i := 20) rfl rfl, rfl, rfl⟩
theorem sF10_315 : sd_fl "SitDown" 315 2 1 true (.array .int) := ⟨RX2, TX2, 2, sC2, by decide, sd_in2_ (i := 21) rfl rfl, rfl, rfl⟩
theorem sF0_9 : sd_fl "SitDown$Game" 9 0 0 true (.array .int) := ⟨RX0, TX0, 4, sC0, by decide, sd_in2_ (i := 33) rfl rfl, rfl, rfl⟩
theorem sF10_328 : sd_fl "SitDown" 328 0 0 true (.array .int) := ⟨RX0, TX0, 4, sC0, by decide, sd_in2_ (i := 34) rfl rfl, rfl, rfl⟩
theorem sF0_15 : sd_fl "SitDown$Game" 15 0 1 true (.array .int) := ⟨RX0, TX0, 4, sC0, by decide, sd_in2_ (i := 35) rfl rfl, rfl, rfl⟩
theorem sF10_331 : sd_fl "SitDown" 331 0 1 true (.array .int) := ⟨RX0, TX0, 4, sC0, by decide, sd_in2_ (i := 36) rfl rfl, rfl, rfl⟩
theorem sF0_18 : sd_fl "SitDown$Game" 18 0 2 true (.array .int) := ⟨RX0, TX0, 4, sC0, by decide, sd_in2_ (i := 37) rfl rfl, rfl, rfl⟩
theorem sF0_21 : sd_fl "SitDown$Game" 21 0 3 false (.int) := ⟨RX0, TX0, 4, sC0, by decide, sd_in2_ (i := 38) rfl rfl, rfl, rfl⟩
theorem sF6_9 : sd_fl "SitDown$Site" 9 6 0 false (.int) := ⟨RX6, TX6, 12, sC6, by decide, sd_in2_ (i := 48) rfl rfl, rfl, rfl⟩
theorem sF10_220 : sd_fl "SitDown" 220 6 0 false (.int) := ⟨RX6, TX6, 12, sC6, by decide, sd_in2_ (i := 49) rfl rfl, rfl, rfl⟩
theorem sF6_15 : sd_fl "SitDown$Site" 15 6 1 false (.int) := ⟨RX6, TX6, 12, sC6, by decide, sd_in2_ (i := 50) rfl rfl, rfl, rfl⟩
theorem sF10_96 : sd_fl "SitDown" 96 6 1 false (.int) := ⟨RX6, TX6, 12, sC6, by decide, sd_in2_ (i := 51) rfl rfl, rfl, rfl⟩
theorem sF6_21 : sd_fl "SitDown$Site" 21 6 2 true (.object "SitDown$Holds") := ⟨RX6, TX6, 12, sC6, by decide, sd_in2_ (i := 52) rfl rfl, rfl, rfl⟩
theorem sF10_41 : sd_fl "SitDown" 41 6 2 true (.object "SitDown$Holds") := ⟨RX6, TX6, 12, sC6, by decide, sd_in2_ (i := 53) rfl rfl, rfl, rfl⟩
theorem sF6_28 : sd_fl "SitDown$Site" 28 6 3 true (.object "SitDown$Men") := ⟨RX6, TX6, 12, sC6, by decide, sd_in2_ (i := 54) rfl rfl, rfl, rfl⟩
theorem sF10_106 : sd_fl "SitDown" 106 6 3 true (.object "SitDown$Men") := ⟨RX6, TX6, 12, sC6, by decide, sd_in2_ (i := 55) rfl rfl, rfl, rfl⟩
theorem sF6_35 : sd_fl "SitDown$Site" 35 6 4 true (.object "SitDown$Works") := ⟨RX6, TX6, 12, sC6, by decide, sd_in2_ (i := 56) rfl rfl, rfl, rfl⟩
theorem sF10_183 : sd_fl "SitDown" 183 6 4 true (.object "SitDown$Works") := ⟨RX6, TX6, 12, sC6, by decide, sd_in2_ (i := 57) rfl rfl, rfl, rfl⟩
theorem sF6_42 : sd_fl "SitDown$Site" 42 6 5 true (.object "SitDown$Texts") := ⟨RX6, TX6, 12, sC6, by decide, sd_in2_ (i := 58) rfl rfl, rfl, rfl⟩
theorem sF10_145 : sd_fl "SitDown" 145 6 5 true (.object "SitDown$Texts") := ⟨RX6, TX6, 12, sC6, by decide, sd_in2_ (i := 59) rfl rfl, rfl, rfl⟩
theorem sF6_49 : sd_fl "SitDown$Site" 49 6 6 true (.object "SitDown$Rumours") := ⟨RX6, TX6, 12, sC6, by decide, sd_in2_ (i := 60) rfl rfl, rfl, rfl⟩
theorem sF10_252 : sd_fl "SitDown" 252 6 6 true (.object "SitDown$Rumours") := ⟨RX6, TX6, 12, sC6, by decide, sd_in2_ (i := 61) rfl rfl, rfl, rfl⟩
theorem sF6_56 : sd_fl "SitDown$Site" 56 6 7 true (.object "SitDown$Lists") := ⟨RX6, TX6, 12, sC6, by decide, sd_in2_ (i := 62) rfl rfl, rfl, rfl⟩
theorem sF10_306 : sd_fl "SitDown" 306 6 7 true (.object "SitDown$Lists") := ⟨RX6, TX6, 12, sC6, by decide, sd_in2_ (i := 63) rfl rfl, rfl, rfl⟩
theorem sF6_63 : sd_fl "SitDown$Site" 63 6 8 true (.object "SitDown$Game") := ⟨RX6, TX6, 12, sC6, by decide, sd_in2_ (i := 64) rfl rfl, rfl, rfl⟩
theorem sF10_324 : sd_fl "SitDown" 324 6 8 true (.object "SitDown$Game") := ⟨RX6, TX6, 12, sC6, by decide, sd_in2_ (i := 65) rfl rfl, rfl, rfl⟩
theorem sF6_67 : sd_fl "SitDown$Site" 67 6 9 true (.array .int) := ⟨RX6, TX6, 12, sC6, by decide, sd_in2_ (i := 66) rfl rfl, rfl, rfl⟩
theorem sF10_353 : sd_fl "SitDown" 353 6 9 true (.array .int) := ⟨RX6, TX6, 12, sC6, by decide, sd_in2_ (i := 67) rfl rfl, rfl, rfl⟩
theorem sF6_71 : sd_fl "SitDown$Site" 71 6 10 true (.array .int) := ⟨RX6, TX6, 12, sC6, by decide, sd_in2_ (i := 68) rfl rfl, rfl, rfl⟩
theorem sF6_74 : sd_fl "SitDown$Site" 74 6 11 true (.array .int) := ⟨RX6, TX6, 12, sC6, by decide, sd_in2_ (i := 69) rfl rfl, rfl, rfl⟩
theorem sF7_9 : sd_fl "SitDown$Tape" 9 7 0 false (.int) := ⟨RX7, TX7, 3, sC7, by decide, sd_in2_ (i := 103) rfl rfl, rfl, rfl⟩
theorem sF10_229 : sd_fl "SitDown" 229 7 0 false (.int) := ⟨RX7, TX7, 3, sC7, by decide, sd_in2_ (i := 104) rfl rfl, rfl, rfl⟩
theorem sF7_15 : sd_fl "SitDown$Tape" 15 7 1 false (.int) := ⟨RX7, TX7, 3, sC7, by decide, sd_in2_ (i := 105) rfl rfl, rfl, rfl⟩
theorem sF10_237 : sd_fl "SitDown" 237 7 1 false (.int) := ⟨RX7, TX7, 3, sC7, by decide, sd_in2_ (i := 106) rfl rfl, rfl, rfl⟩
theorem sF7_18 : sd_fl "SitDown$Tape" 18 7 2 true (.array .int) := ⟨RX7, TX7, 3, sC7, by decide, sd_in2_ (i := 107) rfl rfl, rfl, rfl⟩
theorem sF5_9 : sd_fl "SitDown$Sheet" 9 5 0 false (.int) := ⟨RX5, TX5, 3, sC5, by decide, sd_in2_ (i := 120) rfl rfl, rfl, rfl⟩
theorem sF10_362 : sd_fl "SitDown" 362 5 0 false (.int) := ⟨RX5, TX5, 3, sC5, by decide, sd_in2_ (i := 121) rfl rfl, rfl, rfl⟩
theorem sF5_15 : sd_fl "SitDown$Sheet" 15 5 1 false (.int) := ⟨RX5, TX5, 3, sC5, by decide, sd_in2_ (i := 122) rfl rfl, rfl, rfl⟩
theorem sF10_197 : sd_fl "SitDown" 197 5 1 false (.int) := ⟨RX5, TX5, 3, sC5, by decide, sd_in2_ (i := 123) rfl rfl, rfl, rfl⟩
theorem sF5_18 : sd_fl "SitDown$Sheet" 18 5 2 true (.array .int) := ⟨RX5, TX5, 3, sC5, by decide, sd_in2_ (i := 124) rfl rfl, rfl, rfl⟩
theorem sF10_198 : sd_fl "SitDown" 198 5 2 true (.array .int) := ⟨RX5, TX5, 3, sC5, by decide, sd_in2_ (i := 125) rfl rfl, rfl, rfl⟩
theorem sF10_10 : sd_fl "SitDown" 10 10 0 true (.object "SitDown$Site") := ⟨RX10, TX10, 6, sC10, by decide, sd_in2_ (i := 133) rfl rfl, rfl, rfl⟩
theorem sF10_16 : sd_fl "SitDown" 16 10 1 true (.object "SitDown$Site") := ⟨RX10, TX10, 6, sC10, by decide, sd_in2_ (i := 134) rfl rfl, rfl, rfl⟩
theorem sF10_21 : sd_fl "SitDown" 21 10 2 true (.array (.object "SitDown$Sheet")) := ⟨RX10, TX10, 6, sC10, by decide, sd_in2_ (i := 135) rfl rfl, rfl, rfl⟩
theorem sF10_28 : sd_fl "SitDown" 28 10 3 true (.object "SitDown$Tape") := ⟨RX10, TX10, 6, sC10, by decide, sd_in2_ (i := 136) rfl rfl, rfl, rfl⟩
theorem sF10_32 : sd_fl "SitDown" 32 10 4 true (.array .int) := ⟨RX10, TX10, 6, sC10, by decide, sd_in2_ (i := 137) rfl rfl, rfl, rfl⟩
theorem sF10_36 : sd_fl "SitDown" 36 10 5 false (.boolean) := ⟨RX10, TX10, 6, sC10, by decide, sd_in2_ (i := 138) rfl rfl, rfl, rfl⟩
theorem sF1_66 : Cond.fieldLink "SitDown$Holds" 66 "SitDown$Holds" "ABOVE" "[I" ∈ sd_tb := sd_in2_ (i := 167) rfl rfl
theorem sF10_73 : Cond.fieldLink "SitDown" 73 "SitDown" "KIND_THAT_HAS" "[I" ∈ sd_tb := sd_in2_ (i := 201) rfl rfl
theorem sFJ0_38 : Cond.fieldLink "java/lang/String" 38 "java/lang/String" "COMPACT_STRINGS" "Z" ∈ sd_tb := sd_in4_ (i := 44) rfl rfl
theorem sFJ0_1053 : Cond.fieldLink "java/lang/String" 1053 "jdk/internal/util/Preconditions" "SIOOBE_FORMATTER" "Ljava/util/function/BiFunction;" ∈ sd_tb := sd_in4_ (i := 52) rfl rfl
theorem sFJ2_44 : Cond.fieldLink "java/lang/StringUTF16" 44 "java/lang/StringUTF16" "$assertionsDisabled" "Z" ∈ sd_tb := sd_in4_ (i := 70) rfl rfl
theorem sFJ2_59 : Cond.fieldLink "java/lang/StringUTF16" 59 "java/lang/StringUTF16" "HI_BYTE_SHIFT" "I" ∈ sd_tb := sd_in4_ (i := 72) rfl rfl
theorem sFJ2_63 : Cond.fieldLink "java/lang/StringUTF16" 63 "java/lang/StringUTF16" "LO_BYTE_SHIFT" "I" ∈ sd_tb := sd_in4_ (i := 74) rfl rfl
theorem sF11_7 : sd_fl "SitDownModel" 7 11 0 true (.array .int) := ⟨RX11, TX11, 24, sC11, by decide, sd_in5_ (i := 239) rfl rfl, rfl, rfl⟩
theorem sF11_13 : sd_fl "SitDownModel" 13 11 1 true (.array .int) := ⟨RX11, TX11, 24, sC11, by decide, sd_in6_ (i := 0) rfl rfl, rfl, rfl⟩
theorem sF11_258 : sd_fl "SitDownModel" 258 11 2 false (.boolean) := ⟨RX11, TX11, 24, sC11, by decide, sd_in6_ (i := 1) rfl rfl, rfl, rfl⟩
theorem sF11_16 : sd_fl "SitDownModel" 16 11 3 true (.array .int) := ⟨RX11, TX11, 24, sC11, by decide, sd_in6_ (i := 2) rfl rfl, rfl, rfl⟩
theorem sF11_186 : sd_fl "SitDownModel" 186 11 4 false (.int) := ⟨RX11, TX11, 24, sC11, by decide, sd_in6_ (i := 3) rfl rfl, rfl, rfl⟩
theorem sF11_19 : sd_fl "SitDownModel" 19 11 5 true (.array .int) := ⟨RX11, TX11, 24, sC11, by decide, sd_in6_ (i := 4) rfl rfl, rfl, rfl⟩
theorem sF11_22 : sd_fl "SitDownModel" 22 11 6 true (.array .int) := ⟨RX11, TX11, 24, sC11, by decide, sd_in6_ (i := 5) rfl rfl, rfl, rfl⟩
theorem sF11_25 : sd_fl "SitDownModel" 25 11 7 true (.array .int) := ⟨RX11, TX11, 24, sC11, by decide, sd_in6_ (i := 6) rfl rfl, rfl, rfl⟩
theorem sF11_28 : sd_fl "SitDownModel" 28 11 8 true (.array .int) := ⟨RX11, TX11, 24, sC11, by decide, sd_in6_ (i := 7) rfl rfl, rfl, rfl⟩
theorem sF11_31 : sd_fl "SitDownModel" 31 11 9 true (.array .int) := ⟨RX11, TX11, 24, sC11, by decide, sd_in6_ (i := 8) rfl rfl, rfl, rfl⟩
theorem sF11_154 : sd_fl "SitDownModel" 154 11 10 false (.int) := ⟨RX11, TX11, 24, sC11, by decide, sd_in6_ (i := 9) rfl rfl, rfl, rfl⟩
theorem sF11_151 : sd_fl "SitDownModel" 151 11 11 false (.int) := ⟨RX11, TX11, 24, sC11, by decide, sd_in6_ (i := 10) rfl rfl, rfl, rfl⟩
theorem sF11_147 : sd_fl "SitDownModel" 147 11 12 false (.int) := ⟨RX11, TX11, 24, sC11, by decide, sd_in6_ (i := 11) rfl rfl, rfl, rfl⟩
theorem sF11_157 : sd_fl "SitDownModel" 157 11 13 false (.int) := ⟨RX11, TX11, 24, sC11, by decide, sd_in6_ (i := 12) rfl rfl, rfl, rfl⟩
theorem sF11_34 : sd_fl "SitDownModel" 34 11 14 true (.array .int) := ⟨RX11, TX11, 24, sC11, by decide, sd_in6_ (i := 13) rfl rfl, rfl, rfl⟩
theorem sF11_176 : sd_fl "SitDownModel" 176 11 15 false (.int) := ⟨RX11, TX11, 24, sC11, by decide, sd_in6_ (i := 14) rfl rfl, rfl, rfl⟩
theorem sF11_182 : sd_fl "SitDownModel" 182 11 16 false (.boolean) := ⟨RX11, TX11, 24, sC11, by decide, sd_in6_ (i := 15) rfl rfl, rfl, rfl⟩
theorem sF11_199 : sd_fl "SitDownModel" 199 11 17 false (.int) := ⟨RX11, TX11, 24, sC11, by decide, sd_in6_ (i := 16) rfl rfl, rfl, rfl⟩
theorem sF11_37 : sd_fl "SitDownModel" 37 11 18 true (.array .int) := ⟨RX11, TX11, 24, sC11, by decide, sd_in6_ (i := 17) rfl rfl, rfl, rfl⟩
theorem sF11_40 : sd_fl "SitDownModel" 40 11 19 true (.array .int) := ⟨RX11, TX11, 24, sC11, by decide, sd_in6_ (i := 18) rfl rfl, rfl, rfl⟩
theorem sF11_43 : sd_fl "SitDownModel" 43 11 20 true (.array .int) := ⟨RX11, TX11, 24, sC11, by decide, sd_in6_ (i := 19) rfl rfl, rfl, rfl⟩
theorem sF11_46 : sd_fl "SitDownModel" 46 11 21 true (.array .int) := ⟨RX11, TX11, 24, sC11, by decide, sd_in6_ (i := 20) rfl rfl, rfl, rfl⟩
theorem sF11_49 : sd_fl "SitDownModel" 49 11 22 true (.array .int) := ⟨RX11, TX11, 24, sC11, by decide, sd_in6_ (i := 21) rfl rfl, rfl, rfl⟩
theorem sF11_52 : sd_fl "SitDownModel" 52 11 23 true (.array .int) := ⟨RX11, TX11, 24, sC11, by decide, sd_in6_ (i := 22) rfl rfl, rfl, rfl⟩
theorem sFJ0_9 : Cond.fieldLink "java/lang/String" 9 "java/lang/String" "value" "[B" ∈ sd_tb := sd_in8_ (i := 33) rfl rfl
theorem sFJ0_15 : Cond.fieldLink "java/lang/String" 15 "java/lang/String" "coder" "B" ∈ sd_tb := sd_in8_ (i := 34) rfl rfl
theorem sK10_51 : Cond.constant "SitDown" 51 (Int32.ofInt (-1000001)) ∈ sd_tb := sd_in2_ (i := 169) rfl rfl
theorem sK10_60 : Cond.constant "SitDown" 60 (Int32.ofInt (-1000002)) ∈ sd_tb := sd_in2_ (i := 179) rfl rfl
theorem sK1_69 : Cond.constant "SitDown$Holds" 69 (Int32.ofInt (-1000001)) ∈ sd_tb := sd_in2_ (i := 195) rfl rfl
theorem sK1_74 : Cond.constant "SitDown$Holds" 74 (Int32.ofInt (-1000003)) ∈ sd_tb := sd_in2_ (i := 196) rfl rfl
theorem sK10_130 : Cond.constant "SitDown" 130 (Int32.ofInt (-1000004)) ∈ sd_tb := sd_in3_ (i := 38) rfl rfl
theorem sK10_123 : Cond.constant "SitDown" 123 (Int32.ofInt (-1000005)) ∈ sd_tb := sd_in3_ (i := 64) rfl rfl
theorem sK10_163 : Cond.constant "SitDown" 163 (Int32.ofInt (-1000007)) ∈ sd_tb := sd_in3_ (i := 111) rfl rfl
theorem sK10_182 : Cond.constant "SitDown" 182 (Int32.ofInt (999999)) ∈ sd_tb := sd_in3_ (i := 151) rfl rfl
theorem sK10_196 : Cond.constant "SitDown" 196 (Int32.ofInt (-1000006)) ∈ sd_tb := sd_in3_ (i := 164) rfl rfl
theorem sKJ6_265 : Cond.constant "java/lang/Integer" 265 (Int32.ofInt (1431655765)) ∈ sd_tb := sd_in3_ (i := 226) rfl rfl
theorem sKJ6_266 : Cond.constant "java/lang/Integer" 266 (Int32.ofInt (858993459)) ∈ sd_tb := sd_in3_ (i := 227) rfl rfl
theorem sKJ6_267 : Cond.constant "java/lang/Integer" 267 (Int32.ofInt (252645135)) ∈ sd_tb := sd_in3_ (i := 228) rfl rfl
theorem sK10_365 : Cond.constant "SitDown" 365 (Int32.ofInt (-1000003)) ∈ sd_tb := sd_in5_ (i := 167) rfl rfl
theorem sK11_55 : Cond.constant "SitDownModel" 55 (Int32.ofInt (-1000001)) ∈ sd_tb := sd_in6_ (i := 99) rfl rfl
theorem sK11_125 : Cond.constant "SitDownModel" 125 (Int32.ofInt (999999)) ∈ sd_tb := sd_in7_ (i := 28) rfl rfl
theorem sW0_init : Cond.code sY0_init.1 sY0_init.2.1 sY0_init.2.2.1 sY0_init.2.2.2 ∈ sd_tb := sd_in2_ (i := 31) rfl rfl
theorem sH0_init : Cond.initialized sY0_init.1.cls ∈ sd_tb ∧ (sY0_init.1.cls ≠ "java/lang/invoke/MethodHandle" ∧ sY0_init.1.cls ≠ "java/lang/invoke/VarHandle" ∧ (parseMethodDescriptor sY0_init.1.desc).map (fun d => d.parameters.length) = some 0) ∧ sY0_init.2.2.1 ≤ 40 := ⟨sd_in1_ (i := 9) rfl rfl, ⟨sd_nm0, sd_nv0, rfl⟩, by decide⟩
theorem sW0_become : Cond.code sY0_become.1 sY0_become.2.1 sY0_become.2.2.1 sY0_become.2.2.2 ∈ sd_tb := sd_in5_ (i := 212) rfl rfl
theorem sH0_become : Cond.initialized sY0_become.1.cls ∈ sd_tb ∧ (sY0_become.1.cls ≠ "java/lang/invoke/MethodHandle" ∧ sY0_become.1.cls ≠ "java/lang/invoke/VarHandle" ∧ (parseMethodDescriptor sY0_become.1.desc).map (fun d => d.parameters.length) = some 1) ∧ sY0_become.2.2.1 ≤ 40 := ⟨sd_in1_ (i := 9) rfl rfl, ⟨sd_nm0, sd_nv0, rfl⟩, by decide⟩
theorem sV0_become : Cond.instanceMethod sY0_become.1 ∈ sd_tb ∧ Cond.selects sY0_become.1.cls sY0_become.1 sY0_become.1 ∈ sd_tb := ⟨sd_in5_ (i := 210) rfl rfl, sd_in5_ (i := 211) rfl rfl⟩
theorem sW0_playFreely : Cond.code sY0_playFreely.1 sY0_playFreely.2.1 sY0_playFreely.2.2.1 sY0_playFreely.2.2.2 ∈ sd_tb := sd_in5_ (i := 52) rfl rfl
theorem sH0_playFreely : Cond.initialized sY0_playFreely.1.cls ∈ sd_tb ∧ (sY0_playFreely.1.cls ≠ "java/lang/invoke/MethodHandle" ∧ sY0_playFreely.1.cls ≠ "java/lang/invoke/VarHandle" ∧ (parseMethodDescriptor sY0_playFreely.1.desc).map (fun d => d.parameters.length) = some 3) ∧ sY0_playFreely.2.2.1 ≤ 40 := ⟨sd_in1_ (i := 9) rfl rfl, ⟨sd_nm0, sd_nv0, rfl⟩, by decide⟩
theorem sV0_playFreely : Cond.instanceMethod sY0_playFreely.1 ∈ sd_tb ∧ Cond.selects sY0_playFreely.1.cls sY0_playFreely.1 sY0_playFreely.1 ∈ sd_tb := ⟨sd_in5_ (i := 50) rfl rfl, sd_in5_ (i := 51) rfl rfl⟩
theorem sW0_bestFirstMove : Cond.code sY0_bestFirstMove.1 sY0_bestFirstMove.2.1 sY0_bestFirstMove.2.2.1 sY0_bestFirstMove.2.2.2 ∈ sd_tb := sd_in5_ (i := 75) rfl rfl
theorem sH0_bestFirstMove : Cond.initialized sY0_bestFirstMove.1.cls ∈ sd_tb ∧ (sY0_bestFirstMove.1.cls ≠ "java/lang/invoke/MethodHandle" ∧ sY0_bestFirstMove.1.cls ≠ "java/lang/invoke/VarHandle" ∧ (parseMethodDescriptor sY0_bestFirstMove.1.desc).map (fun d => d.parameters.length) = some 3) ∧ sY0_bestFirstMove.2.2.1 ≤ 40 := ⟨sd_in1_ (i := 9) rfl rfl, ⟨sd_nm0, sd_nv0, rfl⟩, by decide⟩
theorem sV0_bestFirstMove : Cond.instanceMethod sY0_bestFirstMove.1 ∈ sd_tb ∧ Cond.selects sY0_bestFirstMove.1.cls sY0_bestFirstMove.1 sY0_bestFirstMove.1 ∈ sd_tb := ⟨sd_in5_ (i := 73) rfl rfl, sd_in5_ (i := 74) rfl rfl⟩
theorem sW0_playAsPlanned : Cond.code sY0_playAsPlanned.1 sY0_playAsPlanned.2.1 sY0_playAsPlanned.2.2.1 sY0_playAsPlanned.2.2.2 ∈ sd_tb := sd_in5_ (i := 84) rfl rfl
theorem sH0_playAsPlanned : Cond.initialized sY0_playAsPlanned.1.cls ∈ sd_tb ∧ (sY0_playAsPlanned.1.cls ≠ "java/lang/invoke/MethodHandle" ∧ sY0_playAsPlanned.1.cls ≠ "java/lang/invoke/VarHandle" ∧ (parseMethodDescriptor sY0_playAsPlanned.1.desc).map (fun d => d.parameters.length) = some 4) ∧ sY0_playAsPlanned.2.2.1 ≤ 40 := ⟨sd_in1_ (i := 9) rfl rfl, ⟨sd_nm0, sd_nv0, rfl⟩, by decide⟩
theorem sV0_playAsPlanned : Cond.instanceMethod sY0_playAsPlanned.1 ∈ sd_tb ∧ Cond.selects sY0_playAsPlanned.1.cls sY0_playAsPlanned.1 sY0_playAsPlanned.1 ∈ sd_tb := ⟨sd_in5_ (i := 82) rfl rfl, sd_in5_ (i := 83) rfl rfl⟩
theorem sW0_behindSteps : Cond.code sY0_behindSteps.1 sY0_behindSteps.2.1 sY0_behindSteps.2.2.1 sY0_behindSteps.2.2.2 ∈ sd_tb := sd_in5_ (i := 57) rfl rfl
theorem sH0_behindSteps : Cond.initialized sY0_behindSteps.1.cls ∈ sd_tb ∧ (sY0_behindSteps.1.cls ≠ "java/lang/invoke/MethodHandle" ∧ sY0_behindSteps.1.cls ≠ "java/lang/invoke/VarHandle" ∧ (parseMethodDescriptor sY0_behindSteps.1.desc).map (fun d => d.parameters.length) = some 5) ∧ sY0_behindSteps.2.2.1 ≤ 40 := ⟨sd_in1_ (i := 9) rfl rfl, ⟨sd_nm0, sd_nv0, rfl⟩, by decide⟩
theorem sV0_behindSteps : Cond.instanceMethod sY0_behindSteps.1 ∈ sd_tb ∧ Cond.selects sY0_behindSteps.1.cls sY0_behindSteps.1 sY0_behindSteps.1 ∈ sd_tb := ⟨sd_in5_ (i := 56) rfl rfl, sd_in2 (i := 20) rfl rfl⟩
theorem sW0_behindMen : Cond.code sY0_behindMen.1 sY0_behindMen.2.1 sY0_behindMen.2.2.1 sY0_behindMen.2.2.2 ∈ sd_tb := sd_in5_ (i := 62) rfl rfl
theorem sH0_behindMen : Cond.initialized sY0_behindMen.1.cls ∈ sd_tb ∧ (sY0_behindMen.1.cls ≠ "java/lang/invoke/MethodHandle" ∧ sY0_behindMen.1.cls ≠ "java/lang/invoke/VarHandle" ∧ (parseMethodDescriptor sY0_behindMen.1.desc).map (fun d => d.parameters.length) = some 5) ∧ sY0_behindMen.2.2.1 ≤ 40 := ⟨sd_in1_ (i := 9) rfl rfl, ⟨sd_nm0, sd_nv0, rfl⟩, by decide⟩
theorem sV0_behindMen : Cond.instanceMethod sY0_behindMen.1 ∈ sd_tb ∧ Cond.selects sY0_behindMen.1.cls sY0_behindMen.1 sY0_behindMen.1 ∈ sd_tb := ⟨sd_in5_ (i := 61) rfl rfl, sd_in2 (i := 21) rfl rfl⟩
theorem sW0_behindCompany : Cond.code sY0_behindCompany.1 sY0_behindCompany.2.1 sY0_behindCompany.2.2.1 sY0_behindCompany.2.2.2 ∈ sd_tb := sd_in5_ (i := 67) rfl rfl
theorem sH0_behindCompany : Cond.initialized sY0_behindCompany.1.cls ∈ sd_tb ∧ (sY0_behindCompany.1.cls ≠ "java/lang/invoke/MethodHandle" ∧ sY0_behindCompany.1.cls ≠ "java/lang/invoke/VarHandle" ∧ (parseMethodDescriptor sY0_behindCompany.1.desc).map (fun d => d.parameters.length) = some 5) ∧ sY0_behindCompany.2.2.1 ≤ 40 := ⟨sd_in1_ (i := 9) rfl rfl, ⟨sd_nm0, sd_nv0, rfl⟩, by decide⟩
theorem sV0_behindCompany : Cond.instanceMethod sY0_behindCompany.1 ∈ sd_tb ∧ Cond.selects sY0_behindCompany.1.cls sY0_behindCompany.1 sY0_behindCompany.1 ∈ sd_tb := ⟨sd_in5_ (i := 66) rfl rfl, sd_in2 (i := 22) rfl rfl⟩
theorem sW1_init : Cond.code sY1_init.1 sY1_init.2.1 sY1_init.2.2.1 sY1_init.2.2.2 ∈ sd_tb := sd_in1_ (i := 38) rfl rfl
theorem sH1_init : Cond.initialized sY1_init.1.cls ∈ sd_tb ∧ (sY1_init.1.cls ≠ "java/lang/invoke/MethodHandle" ∧ sY1_init.1.cls ≠ "java/lang/invoke/VarHandle" ∧ (parseMethodDescriptor sY1_init.1.desc).map (fun d => d.parameters.length) = some 0) ∧ sY1_init.2.2.1 ≤ 40 := ⟨sd_in1_ (i := 3) rfl rfl, ⟨sd_nm1, sd_nv1, rfl⟩, by decide⟩
theorem sW1_become : Cond.code sY1_become.1 sY1_become.2.1 sY1_become.2.2.1 sY1_become.2.2.2 ∈ sd_tb := sd_in5_ (i := 183) rfl rfl
theorem sH1_become : Cond.initialized sY1_become.1.cls ∈ sd_tb ∧ (sY1_become.1.cls ≠ "java/lang/invoke/MethodHandle" ∧ sY1_become.1.cls ≠ "java/lang/invoke/VarHandle" ∧ (parseMethodDescriptor sY1_become.1.desc).map (fun d => d.parameters.length) = some 1) ∧ sY1_become.2.2.1 ≤ 40 := ⟨sd_in1_ (i := 3) rfl rfl, ⟨sd_nm1, sd_nv1, rfl⟩, by decide⟩
theorem sV1_become : Cond.instanceMethod sY1_become.1 ∈ sd_tb ∧ Cond.selects sY1_become.1.cls sY1_become.1 sY1_become.1 ∈ sd_tb := ⟨sd_in5_ (i := 181) rfl rfl, sd_in5_ (i := 182) rfl rfl⟩
theorem sW1_isA : Cond.code sY1_isA.1 sY1_isA.2.1 sY1_isA.2.2.1 sY1_isA.2.2.2 ∈ sd_tb := sd_in2_ (i := 166) rfl rfl
theorem sH1_isA : Cond.initialized sY1_isA.1.cls ∈ sd_tb ∧ (sY1_isA.1.cls ≠ "java/lang/invoke/MethodHandle" ∧ sY1_isA.1.cls ≠ "java/lang/invoke/VarHandle" ∧ (parseMethodDescriptor sY1_isA.1.desc).map (fun d => d.parameters.length) = some 2) ∧ sY1_isA.2.2.1 ≤ 40 := ⟨sd_in1_ (i := 3) rfl rfl, ⟨sd_nm1, sd_nv1, rfl⟩, by decide⟩
theorem sV1_isA : Cond.instanceMethod sY1_isA.1 ∈ sd_tb ∧ Cond.selects sY1_isA.1.cls sY1_isA.1 sY1_isA.1 ∈ sd_tb := ⟨sd_in2_ (i := 164) rfl rfl, sd_in2_ (i := 165) rfl rfl⟩
theorem sW1_findingOf : Cond.code sY1_findingOf.1 sY1_findingOf.2.1 sY1_findingOf.2.2.1 sY1_findingOf.2.2.2 ∈ sd_tb := sd_in2_ (i := 194) rfl rfl
theorem sH1_findingOf : Cond.initialized sY1_findingOf.1.cls ∈ sd_tb ∧ (sY1_findingOf.1.cls ≠ "java/lang/invoke/MethodHandle" ∧ sY1_findingOf.1.cls ≠ "java/lang/invoke/VarHandle" ∧ (parseMethodDescriptor sY1_findingOf.1.desc).map (fun d => d.parameters.length) = some 2) ∧ sY1_findingOf.2.2.1 ≤ 40 := ⟨sd_in1_ (i := 3) rfl rfl, ⟨sd_nm1, sd_nv1, rfl⟩, by decide⟩
theorem sV1_findingOf : Cond.instanceMethod sY1_findingOf.1 ∈ sd_tb ∧ Cond.selects sY1_findingOf.1.cls sY1_findingOf.1 sY1_findingOf.1 ∈ sd_tb := ⟨sd_in2_ (i := 192) rfl rfl, sd_in2_ (i := 193) rfl rfl⟩
theorem sW1_allows : Cond.code sY1_allows.1 sY1_allows.2.1 sY1_allows.2.2.1 sY1_allows.2.2.2 ∈ sd_tb := sd_in2_ (i := 159) rfl rfl
theorem sH1_allows : Cond.initialized sY1_allows.1.cls ∈ sd_tb ∧ (sY1_allows.1.cls ≠ "java/lang/invoke/MethodHandle" ∧ sY1_allows.1.cls ≠ "java/lang/invoke/VarHandle" ∧ (parseMethodDescriptor sY1_allows.1.desc).map (fun d => d.parameters.length) = some 2) ∧ sY1_allows.2.2.1 ≤ 40 := ⟨sd_in1_ (i := 3) rfl rfl, ⟨sd_nm1, sd_nv1, rfl⟩, by decide⟩
theorem sV1_allows : Cond.instanceMethod sY1_allows.1 ∈ sd_tb ∧ Cond.selects sY1_allows.1.cls sY1_allows.1 sY1_allows.1 ∈ sd_tb := ⟨sd_in2_ (i := 157) rfl rfl, sd_in2_ (i := 158) rfl rfl⟩
theorem sW1_hasRoomFor : Cond.code sY1_hasRoomFor.1 sY1_hasRoomFor.2.1 sY1_hasRoomFor.2.2.1 sY1_hasRoomFor.2.2.2 ∈ sd_tb := sd_in2_ (i := 178) rfl rfl
theorem sH1_hasRoomFor : Cond.initialized sY1_hasRoomFor.1.cls ∈ sd_tb ∧ (sY1_hasRoomFor.1.cls ≠ "java/lang/invoke/MethodHandle" ∧ sY1_hasRoomFor.1.cls ≠ "java/lang/invoke/VarHandle" ∧ (parseMethodDescriptor sY1_hasRoomFor.1.desc).map (fun d => d.parameters.length) = some 1) ∧ sY1_hasRoomFor.2.2.1 ≤ 40 := ⟨sd_in1_ (i := 3) rfl rfl, ⟨sd_nm1, sd_nv1, rfl⟩, by decide⟩
theorem sV1_hasRoomFor : Cond.instanceMethod sY1_hasRoomFor.1 ∈ sd_tb ∧ Cond.selects sY1_hasRoomFor.1.cls sY1_hasRoomFor.1 sY1_hasRoomFor.1 ∈ sd_tb := ⟨sd_in2_ (i := 176) rfl rfl, sd_in2_ (i := 177) rfl rfl⟩
theorem sW1_add : Cond.code sY1_add.1 sY1_add.2.1 sY1_add.2.2.1 sY1_add.2.2.2 ∈ sd_tb := sd_in2_ (i := 183) rfl rfl
theorem sH1_add : Cond.initialized sY1_add.1.cls ∈ sd_tb ∧ (sY1_add.1.cls ≠ "java/lang/invoke/MethodHandle" ∧ sY1_add.1.cls ≠ "java/lang/invoke/VarHandle" ∧ (parseMethodDescriptor sY1_add.1.desc).map (fun d => d.parameters.length) = some 3) ∧ sY1_add.2.2.1 ≤ 40 := ⟨sd_in1_ (i := 3) rfl rfl, ⟨sd_nm1, sd_nv1, rfl⟩, by decide⟩
theorem sV1_add : Cond.instanceMethod sY1_add.1 ∈ sd_tb ∧ Cond.selects sY1_add.1.cls sY1_add.1 sY1_add.1 ∈ sd_tb := ⟨sd_in2_ (i := 181) rfl rfl, sd_in2_ (i := 182) rfl rfl⟩
theorem sW1_number : Cond.code sY1_number.1 sY1_number.2.1 sY1_number.2.2.1 sY1_number.2.2.2 ∈ sd_tb := sd_in2_ (i := 239) rfl rfl
theorem sH1_number : Cond.initialized sY1_number.1.cls ∈ sd_tb ∧ (sY1_number.1.cls ≠ "java/lang/invoke/MethodHandle" ∧ sY1_number.1.cls ≠ "java/lang/invoke/VarHandle" ∧ (parseMethodDescriptor sY1_number.1.desc).map (fun d => d.parameters.length) = some 2) ∧ sY1_number.2.2.1 ≤ 40 := ⟨sd_in1_ (i := 3) rfl rfl, ⟨sd_nm1, sd_nv1, rfl⟩, by decide⟩
theorem sV1_number : Cond.instanceMethod sY1_number.1 ∈ sd_tb ∧ Cond.selects sY1_number.1.cls sY1_number.1 sY1_number.1 ∈ sd_tb := ⟨sd_in2_ (i := 237) rfl rfl, sd_in2_ (i := 238) rfl rfl⟩
theorem sW1_hasOpenPipe : Cond.code sY1_hasOpenPipe.1 sY1_hasOpenPipe.2.1 sY1_hasOpenPipe.2.2.1 sY1_hasOpenPipe.2.2.2 ∈ sd_tb := sd_in3_ (i := 30) rfl rfl
theorem sH1_hasOpenPipe : Cond.initialized sY1_hasOpenPipe.1.cls ∈ sd_tb ∧ (sY1_hasOpenPipe.1.cls ≠ "java/lang/invoke/MethodHandle" ∧ sY1_hasOpenPipe.1.cls ≠ "java/lang/invoke/VarHandle" ∧ (parseMethodDescriptor sY1_hasOpenPipe.1.desc).map (fun d => d.parameters.length) = some 2) ∧ sY1_hasOpenPipe.2.2.1 ≤ 40 := ⟨sd_in1_ (i := 3) rfl rfl, ⟨sd_nm1, sd_nv1, rfl⟩, by decide⟩
theorem sV1_hasOpenPipe : Cond.instanceMethod sY1_hasOpenPipe.1 ∈ sd_tb ∧ Cond.selects sY1_hasOpenPipe.1.cls sY1_hasOpenPipe.1 sY1_hasOpenPipe.1 ∈ sd_tb := ⟨sd_in3_ (i := 28) rfl rfl, sd_in3_ (i := 29) rfl rfl⟩
theorem sW1_warmthBehind : Cond.code sY1_warmthBehind.1 sY1_warmthBehind.2.1 sY1_warmthBehind.2.2.1 sY1_warmthBehind.2.2.2 ∈ sd_tb := sd_in3_ (i := 26) rfl rfl
theorem sH1_warmthBehind : Cond.initialized sY1_warmthBehind.1.cls ∈ sd_tb ∧ (sY1_warmthBehind.1.cls ≠ "java/lang/invoke/MethodHandle" ∧ sY1_warmthBehind.1.cls ≠ "java/lang/invoke/VarHandle" ∧ (parseMethodDescriptor sY1_warmthBehind.1.desc).map (fun d => d.parameters.length) = some 3) ∧ sY1_warmthBehind.2.2.1 ≤ 40 := ⟨sd_in1_ (i := 3) rfl rfl, ⟨sd_nm1, sd_nv1, rfl⟩, by decide⟩
theorem sV1_warmthBehind : Cond.instanceMethod sY1_warmthBehind.1 ∈ sd_tb ∧ Cond.selects sY1_warmthBehind.1.cls sY1_warmthBehind.1 sY1_warmthBehind.1 ∈ sd_tb := ⟨sd_in3_ (i := 24) rfl rfl, sd_in3_ (i := 25) rfl rfl⟩
theorem sW1_weather : Cond.code sY1_weather.1 sY1_weather.2.1 sY1_weather.2.2.1 sY1_weather.2.2.2 ∈ sd_tb := sd_in5_ (i := 97) rfl rfl
theorem sH1_weather : Cond.initialized sY1_weather.1.cls ∈ sd_tb ∧ (sY1_weather.1.cls ≠ "java/lang/invoke/MethodHandle" ∧ sY1_weather.1.cls ≠ "java/lang/invoke/VarHandle" ∧ (parseMethodDescriptor sY1_weather.1.desc).map (fun d => d.parameters.length) = some 1) ∧ sY1_weather.2.2.1 ≤ 40 := ⟨sd_in1_ (i := 3) rfl rfl, ⟨sd_nm1, sd_nv1, rfl⟩, by decide⟩
theorem sV1_weather : Cond.instanceMethod sY1_weather.1 ∈ sd_tb ∧ Cond.selects sY1_weather.1.cls sY1_weather.1 sY1_weather.1 ∈ sd_tb := ⟨sd_in5_ (i := 95) rfl rfl, sd_in5_ (i := 96) rfl rfl⟩
theorem sW1_oneGateFurther : Cond.code sY1_oneGateFurther.1 sY1_oneGateFurther.2.1 sY1_oneGateFurther.2.2.1 sY1_oneGateFurther.2.2.2 ∈ sd_tb := sd_in3_ (i := 72) rfl rfl
theorem sH1_oneGateFurther : Cond.initialized sY1_oneGateFurther.1.cls ∈ sd_tb ∧ (sY1_oneGateFurther.1.cls ≠ "java/lang/invoke/MethodHandle" ∧ sY1_oneGateFurther.1.cls ≠ "java/lang/invoke/VarHandle" ∧ (parseMethodDescriptor sY1_oneGateFurther.1.desc).map (fun d => d.parameters.length) = some 1) ∧ sY1_oneGateFurther.2.2.1 ≤ 40 := ⟨sd_in1_ (i := 3) rfl rfl, ⟨sd_nm1, sd_nv1, rfl⟩, by decide⟩
theorem sV1_oneGateFurther : Cond.instanceMethod sY1_oneGateFurther.1 ∈ sd_tb ∧ Cond.selects sY1_oneGateFurther.1.cls sY1_oneGateFurther.1 sY1_oneGateFurther.1 ∈ sd_tb := ⟨sd_in3_ (i := 70) rfl rfl, sd_in3_ (i := 71) rfl rfl⟩
theorem sW1_letsIn : Cond.code sY1_letsIn.1 sY1_letsIn.2.1 sY1_letsIn.2.2.1 sY1_letsIn.2.2.2 ∈ sd_tb := sd_in3_ (i := 106) rfl rfl
theorem sH1_letsIn : Cond.initialized sY1_letsIn.1.cls ∈ sd_tb ∧ (sY1_letsIn.1.cls ≠ "java/lang/invoke/MethodHandle" ∧ sY1_letsIn.1.cls ≠ "java/lang/invoke/VarHandle" ∧ (parseMethodDescriptor sY1_letsIn.1.desc).map (fun d => d.parameters.length) = some 2) ∧ sY1_letsIn.2.2.1 ≤ 40 := ⟨sd_in1_ (i := 3) rfl rfl, ⟨sd_nm1, sd_nv1, rfl⟩, by decide⟩
theorem sV1_letsIn : Cond.instanceMethod sY1_letsIn.1 ∈ sd_tb ∧ Cond.selects sY1_letsIn.1.cls sY1_letsIn.1 sY1_letsIn.1 ∈ sd_tb := ⟨sd_in3_ (i := 104) rfl rfl, sd_in3_ (i := 105) rfl rfl⟩
theorem sW1_addMeals : Cond.code sY1_addMeals.1 sY1_addMeals.2.1 sY1_addMeals.2.2.1 sY1_addMeals.2.2.2 ∈ sd_tb := sd_in3_ (i := 110) rfl rfl
theorem sH1_addMeals : Cond.initialized sY1_addMeals.1.cls ∈ sd_tb ∧ (sY1_addMeals.1.cls ≠ "java/lang/invoke/MethodHandle" ∧ sY1_addMeals.1.cls ≠ "java/lang/invoke/VarHandle" ∧ (parseMethodDescriptor sY1_addMeals.1.desc).map (fun d => d.parameters.length) = some 2) ∧ sY1_addMeals.2.2.1 ≤ 40 := ⟨sd_in1_ (i := 3) rfl rfl, ⟨sd_nm1, sd_nv1, rfl⟩, by decide⟩
theorem sV1_addMeals : Cond.instanceMethod sY1_addMeals.1 ∈ sd_tb ∧ Cond.selects sY1_addMeals.1.cls sY1_addMeals.1 sY1_addMeals.1 ∈ sd_tb := ⟨sd_in3_ (i := 108) rfl rfl, sd_in3_ (i := 109) rfl rfl⟩
theorem sW1_openWindows : Cond.code sY1_openWindows.1 sY1_openWindows.2.1 sY1_openWindows.2.2.1 sY1_openWindows.2.2.2 ∈ sd_tb := sd_in5_ (i := 132) rfl rfl
theorem sH1_openWindows : Cond.initialized sY1_openWindows.1.cls ∈ sd_tb ∧ (sY1_openWindows.1.cls ≠ "java/lang/invoke/MethodHandle" ∧ sY1_openWindows.1.cls ≠ "java/lang/invoke/VarHandle" ∧ (parseMethodDescriptor sY1_openWindows.1.desc).map (fun d => d.parameters.length) = some 0) ∧ sY1_openWindows.2.2.1 ≤ 40 := ⟨sd_in1_ (i := 3) rfl rfl, ⟨sd_nm1, sd_nv1, rfl⟩, by decide⟩
theorem sV1_openWindows : Cond.instanceMethod sY1_openWindows.1 ∈ sd_tb ∧ Cond.selects sY1_openWindows.1.cls sY1_openWindows.1 sY1_openWindows.1 ∈ sd_tb := ⟨sd_in5_ (i := 130) rfl rfl, sd_in5_ (i := 131) rfl rfl⟩
theorem sW1_firstWithMeals : Cond.code sY1_firstWithMeals.1 sY1_firstWithMeals.2.1 sY1_firstWithMeals.2.2.1 sY1_firstWithMeals.2.2.2 ∈ sd_tb := sd_in5_ (i := 106) rfl rfl
theorem sH1_firstWithMeals : Cond.initialized sY1_firstWithMeals.1.cls ∈ sd_tb ∧ (sY1_firstWithMeals.1.cls ≠ "java/lang/invoke/MethodHandle" ∧ sY1_firstWithMeals.1.cls ≠ "java/lang/invoke/VarHandle" ∧ (parseMethodDescriptor sY1_firstWithMeals.1.desc).map (fun d => d.parameters.length) = some 1) ∧ sY1_firstWithMeals.2.2.1 ≤ 40 := ⟨sd_in1_ (i := 3) rfl rfl, ⟨sd_nm1, sd_nv1, rfl⟩, by decide⟩
theorem sV1_firstWithMeals : Cond.instanceMethod sY1_firstWithMeals.1 ∈ sd_tb ∧ Cond.selects sY1_firstWithMeals.1.cls sY1_firstWithMeals.1 sY1_firstWithMeals.1 ∈ sd_tb := ⟨sd_in5_ (i := 104) rfl rfl, sd_in5_ (i := 105) rfl rfl⟩
theorem sW1_mealsIn : Cond.code sY1_mealsIn.1 sY1_mealsIn.2.1 sY1_mealsIn.2.2.1 sY1_mealsIn.2.2.2 ∈ sd_tb := sd_in3_ (i := 120) rfl rfl
theorem sH1_mealsIn : Cond.initialized sY1_mealsIn.1.cls ∈ sd_tb ∧ (sY1_mealsIn.1.cls ≠ "java/lang/invoke/MethodHandle" ∧ sY1_mealsIn.1.cls ≠ "java/lang/invoke/VarHandle" ∧ (parseMethodDescriptor sY1_mealsIn.1.desc).map (fun d => d.parameters.length) = some 1) ∧ sY1_mealsIn.2.2.1 ≤ 40 := ⟨sd_in1_ (i := 3) rfl rfl, ⟨sd_nm1, sd_nv1, rfl⟩, by decide⟩
theorem sV1_mealsIn : Cond.instanceMethod sY1_mealsIn.1 ∈ sd_tb ∧ Cond.selects sY1_mealsIn.1.cls sY1_mealsIn.1 sY1_mealsIn.1 ∈ sd_tb := ⟨sd_in3_ (i := 118) rfl rfl, sd_in3_ (i := 119) rfl rfl⟩
theorem sW1_heldGates : Cond.code sY1_heldGates.1 sY1_heldGates.2.1 sY1_heldGates.2.2.1 sY1_heldGates.2.2.2 ∈ sd_tb := sd_in5_ (i := 128) rfl rfl
theorem sH1_heldGates : Cond.initialized sY1_heldGates.1.cls ∈ sd_tb ∧ (sY1_heldGates.1.cls ≠ "java/lang/invoke/MethodHandle" ∧ sY1_heldGates.1.cls ≠ "java/lang/invoke/VarHandle" ∧ (parseMethodDescriptor sY1_heldGates.1.desc).map (fun d => d.parameters.length) = some 0) ∧ sY1_heldGates.2.2.1 ≤ 40 := ⟨sd_in1_ (i := 3) rfl rfl, ⟨sd_nm1, sd_nv1, rfl⟩, by decide⟩
theorem sV1_heldGates : Cond.instanceMethod sY1_heldGates.1 ∈ sd_tb ∧ Cond.selects sY1_heldGates.1.cls sY1_heldGates.1 sY1_heldGates.1 ∈ sd_tb := ⟨sd_in5_ (i := 126) rfl rfl, sd_in5_ (i := 127) rfl rfl⟩
theorem sW1_isFreeGate : Cond.code sY1_isFreeGate.1 sY1_isFreeGate.2.1 sY1_isFreeGate.2.2.1 sY1_isFreeGate.2.2.2 ∈ sd_tb := sd_in4_ (i := 187) rfl rfl
theorem sH1_isFreeGate : Cond.initialized sY1_isFreeGate.1.cls ∈ sd_tb ∧ (sY1_isFreeGate.1.cls ≠ "java/lang/invoke/MethodHandle" ∧ sY1_isFreeGate.1.cls ≠ "java/lang/invoke/VarHandle" ∧ (parseMethodDescriptor sY1_isFreeGate.1.desc).map (fun d => d.parameters.length) = some 1) ∧ sY1_isFreeGate.2.2.1 ≤ 40 := ⟨sd_in1_ (i := 3) rfl rfl, ⟨sd_nm1, sd_nv1, rfl⟩, by decide⟩
theorem sV1_isFreeGate : Cond.instanceMethod sY1_isFreeGate.1 ∈ sd_tb ∧ Cond.selects sY1_isFreeGate.1.cls sY1_isFreeGate.1 sY1_isFreeGate.1 ∈ sd_tb := ⟨sd_in4_ (i := 185) rfl rfl, sd_in4_ (i := 186) rfl rfl⟩
theorem sW1_guardBySquads : Cond.code sY1_guardBySquads.1 sY1_guardBySquads.2.1 sY1_guardBySquads.2.2.1 sY1_guardBySquads.2.2.2 ∈ sd_tb := sd_in4_ (i := 199) rfl rfl
theorem sH1_guardBySquads : Cond.initialized sY1_guardBySquads.1.cls ∈ sd_tb ∧ (sY1_guardBySquads.1.cls ≠ "java/lang/invoke/MethodHandle" ∧ sY1_guardBySquads.1.cls ≠ "java/lang/invoke/VarHandle" ∧ (parseMethodDescriptor sY1_guardBySquads.1.desc).map (fun d => d.parameters.length) = some 1) ∧ sY1_guardBySquads.2.2.1 ≤ 40 := ⟨sd_in1_ (i := 3) rfl rfl, ⟨sd_nm1, sd_nv1, rfl⟩, by decide⟩
theorem sV1_guardBySquads : Cond.instanceMethod sY1_guardBySquads.1 ∈ sd_tb ∧ Cond.selects sY1_guardBySquads.1.cls sY1_guardBySquads.1 sY1_guardBySquads.1 ∈ sd_tb := ⟨sd_in4_ (i := 197) rfl rfl, sd_in4_ (i := 198) rfl rfl⟩
theorem sW1_isUnlike : Cond.code sY1_isUnlike.1 sY1_isUnlike.2.1 sY1_isUnlike.2.2.1 sY1_isUnlike.2.2.2 ∈ sd_tb := sd_in4_ (i := 220) rfl rfl
theorem sH1_isUnlike : Cond.initialized sY1_isUnlike.1.cls ∈ sd_tb ∧ (sY1_isUnlike.1.cls ≠ "java/lang/invoke/MethodHandle" ∧ sY1_isUnlike.1.cls ≠ "java/lang/invoke/VarHandle" ∧ (parseMethodDescriptor sY1_isUnlike.1.desc).map (fun d => d.parameters.length) = some 1) ∧ sY1_isUnlike.2.2.1 ≤ 40 := ⟨sd_in1_ (i := 3) rfl rfl, ⟨sd_nm1, sd_nv1, rfl⟩, by decide⟩
theorem sV1_isUnlike : Cond.instanceMethod sY1_isUnlike.1 ∈ sd_tb ∧ Cond.selects sY1_isUnlike.1.cls sY1_isUnlike.1 sY1_isUnlike.1 ∈ sd_tb := ⟨sd_in4_ (i := 218) rfl rfl, sd_in4_ (i := 219) rfl rfl⟩
theorem sW1_unlikeTerms : Cond.code sY1_unlikeTerms.1 sY1_unlikeTerms.2.1 sY1_unlikeTerms.2.2.1 sY1_unlikeTerms.2.2.2 ∈ sd_tb := sd_in4_ (i := 228) rfl rfl
theorem sH1_unlikeTerms : Cond.initialized sY1_unlikeTerms.1.cls ∈ sd_tb ∧ (sY1_unlikeTerms.1.cls ≠ "java/lang/invoke/MethodHandle" ∧ sY1_unlikeTerms.1.cls ≠ "java/lang/invoke/VarHandle" ∧ (parseMethodDescriptor sY1_unlikeTerms.1.desc).map (fun d => d.parameters.length) = some 0) ∧ sY1_unlikeTerms.2.2.1 ≤ 40 := ⟨sd_in1_ (i := 3) rfl rfl, ⟨sd_nm1, sd_nv1, rfl⟩, by decide⟩
theorem sV1_unlikeTerms : Cond.instanceMethod sY1_unlikeTerms.1 ∈ sd_tb ∧ Cond.selects sY1_unlikeTerms.1.cls sY1_unlikeTerms.1 sY1_unlikeTerms.1 ∈ sd_tb := ⟨sd_in4_ (i := 226) rfl rfl, sd_in4_ (i := 227) rfl rfl⟩
theorem sW1_areTerms : Cond.code sY1_areTerms.1 sY1_areTerms.2.1 sY1_areTerms.2.2.1 sY1_areTerms.2.2.2 ∈ sd_tb := sd_in4_ (i := 237) rfl rfl
theorem sH1_areTerms : Cond.initialized sY1_areTerms.1.cls ∈ sd_tb ∧ (sY1_areTerms.1.cls ≠ "java/lang/invoke/MethodHandle" ∧ sY1_areTerms.1.cls ≠ "java/lang/invoke/VarHandle" ∧ (parseMethodDescriptor sY1_areTerms.1.desc).map (fun d => d.parameters.length) = some 1) ∧ sY1_areTerms.2.2.1 ≤ 40 := ⟨sd_in1_ (i := 3) rfl rfl, ⟨sd_nm1, sd_nv1, rfl⟩, by decide⟩
theorem sV1_areTerms : Cond.instanceMethod sY1_areTerms.1 ∈ sd_tb ∧ Cond.selects sY1_areTerms.1.cls sY1_areTerms.1 sY1_areTerms.1 ∈ sd_tb := ⟨sd_in4_ (i := 235) rfl rfl, sd_in4_ (i := 236) rfl rfl⟩
theorem sW1_termsToSign : Cond.code sY1_termsToSign.1 sY1_termsToSign.2.1 sY1_termsToSign.2.2.1 sY1_termsToSign.2.2.2 ∈ sd_tb := sd_in5_ (i := 2) rfl rfl
theorem sH1_termsToSign : Cond.initialized sY1_termsToSign.1.cls ∈ sd_tb ∧ (sY1_termsToSign.1.cls ≠ "java/lang/invoke/MethodHandle" ∧ sY1_termsToSign.1.cls ≠ "java/lang/invoke/VarHandle" ∧ (parseMethodDescriptor sY1_termsToSign.1.desc).map (fun d => d.parameters.length) = some 3) ∧ sY1_termsToSign.2.2.1 ≤ 40 := ⟨sd_in1_ (i := 3) rfl rfl, ⟨sd_nm1, sd_nv1, rfl⟩, by decide⟩
theorem sV1_termsToSign : Cond.instanceMethod sY1_termsToSign.1 ∈ sd_tb ∧ Cond.selects sY1_termsToSign.1.cls sY1_termsToSign.1 sY1_termsToSign.1 ∈ sd_tb := ⟨sd_in5_ (i := 0) rfl rfl, sd_in5_ (i := 1) rfl rfl⟩
theorem sW1_isSigned : Cond.code sY1_isSigned.1 sY1_isSigned.2.1 sY1_isSigned.2.2.1 sY1_isSigned.2.2.2 ∈ sd_tb := sd_in5_ (i := 7) rfl rfl
theorem sH1_isSigned : Cond.initialized sY1_isSigned.1.cls ∈ sd_tb ∧ (sY1_isSigned.1.cls ≠ "java/lang/invoke/MethodHandle" ∧ sY1_isSigned.1.cls ≠ "java/lang/invoke/VarHandle" ∧ (parseMethodDescriptor sY1_isSigned.1.desc).map (fun d => d.parameters.length) = some 3) ∧ sY1_isSigned.2.2.1 ≤ 40 := ⟨sd_in1_ (i := 3) rfl rfl, ⟨sd_nm1, sd_nv1, rfl⟩, by decide⟩
theorem sV1_isSigned : Cond.instanceMethod sY1_isSigned.1 ∈ sd_tb ∧ Cond.selects sY1_isSigned.1.cls sY1_isSigned.1 sY1_isSigned.1 ∈ sd_tb := ⟨sd_in5_ (i := 6) rfl rfl, sd_in2 (i := 17) rfl rfl⟩
theorem sW1_isDearer : Cond.code sY1_isDearer.1 sY1_isDearer.2.1 sY1_isDearer.2.2.1 sY1_isDearer.2.2.2 ∈ sd_tb := sd_in5_ (i := 15) rfl rfl
theorem sH1_isDearer : Cond.initialized sY1_isDearer.1.cls ∈ sd_tb ∧ (sY1_isDearer.1.cls ≠ "java/lang/invoke/MethodHandle" ∧ sY1_isDearer.1.cls ≠ "java/lang/invoke/VarHandle" ∧ (parseMethodDescriptor sY1_isDearer.1.desc).map (fun d => d.parameters.length) = some 2) ∧ sY1_isDearer.2.2.1 ≤ 40 := ⟨sd_in1_ (i := 3) rfl rfl, ⟨sd_nm1, sd_nv1, rfl⟩, by decide⟩
theorem sV1_isDearer : Cond.instanceMethod sY1_isDearer.1 ∈ sd_tb ∧ Cond.selects sY1_isDearer.1.cls sY1_isDearer.1 sY1_isDearer.1 ∈ sd_tb := ⟨sd_in5_ (i := 14) rfl rfl, sd_in2 (i := 19) rfl rfl⟩
theorem sW1_sumIn : Cond.code sY1_sumIn.1 sY1_sumIn.2.1 sY1_sumIn.2.2.1 sY1_sumIn.2.2.2 ∈ sd_tb := sd_in5_ (i := 11) rfl rfl
theorem sH1_sumIn : Cond.initialized sY1_sumIn.1.cls ∈ sd_tb ∧ (sY1_sumIn.1.cls ≠ "java/lang/invoke/MethodHandle" ∧ sY1_sumIn.1.cls ≠ "java/lang/invoke/VarHandle" ∧ (parseMethodDescriptor sY1_sumIn.1.desc).map (fun d => d.parameters.length) = some 2) ∧ sY1_sumIn.2.2.1 ≤ 40 := ⟨sd_in1_ (i := 3) rfl rfl, ⟨sd_nm1, sd_nv1, rfl⟩, by decide⟩
theorem sV1_sumIn : Cond.instanceMethod sY1_sumIn.1 ∈ sd_tb ∧ Cond.selects sY1_sumIn.1.cls sY1_sumIn.1 sY1_sumIn.1 ∈ sd_tb := ⟨sd_in5_ (i := 10) rfl rfl, sd_in2 (i := 18) rfl rfl⟩
theorem sW2_init : Cond.code sY2_init.1 sY2_init.2.1 sY2_init.2.2.1 sY2_init.2.2.2 ∈ sd_tb := sd_in2_ (i := 16) rfl rfl
theorem sH2_init : Cond.initialized sY2_init.1.cls ∈ sd_tb ∧ (sY2_init.1.cls ≠ "java/lang/invoke/MethodHandle" ∧ sY2_init.1.cls ≠ "java/lang/invoke/VarHandle" ∧ (parseMethodDescriptor sY2_init.1.desc).map (fun d => d.parameters.length) = some 0) ∧ sY2_init.2.2.1 ≤ 40 := ⟨sd_in1_ (i := 8) rfl rfl, ⟨sd_nm2, sd_nv2, rfl⟩, by decide⟩
theorem sW2_become : Cond.code sY2_become.1 sY2_become.2.1 sY2_become.2.2.1 sY2_become.2.2.2 ∈ sd_tb := sd_in5_ (i := 207) rfl rfl
theorem sH2_become : Cond.initialized sY2_become.1.cls ∈ sd_tb ∧ (sY2_become.1.cls ≠ "java/lang/invoke/MethodHandle" ∧ sY2_become.1.cls ≠ "java/lang/invoke/VarHandle" ∧ (parseMethodDescriptor sY2_become.1.desc).map (fun d => d.parameters.length) = some 1) ∧ sY2_become.2.2.1 ≤ 40 := ⟨sd_in1_ (i := 8) rfl rfl, ⟨sd_nm2, sd_nv2, rfl⟩, by decide⟩
theorem sV2_become : Cond.instanceMethod sY2_become.1 ∈ sd_tb ∧ Cond.selects sY2_become.1.cls sY2_become.1 sY2_become.1 ∈ sd_tb := ⟨sd_in5_ (i := 205) rfl rfl, sd_in5_ (i := 206) rfl rfl⟩
theorem sW2_leastWho : Cond.code sY2_leastWho.1 sY2_leastWho.2.1 sY2_leastWho.2.2.1 sY2_leastWho.2.2.2 ∈ sd_tb := sd_in5_ (i := 28) rfl rfl
theorem sH2_leastWho : Cond.initialized sY2_leastWho.1.cls ∈ sd_tb ∧ (sY2_leastWho.1.cls ≠ "java/lang/invoke/MethodHandle" ∧ sY2_leastWho.1.cls ≠ "java/lang/invoke/VarHandle" ∧ (parseMethodDescriptor sY2_leastWho.1.desc).map (fun d => d.parameters.length) = some 0) ∧ sY2_leastWho.2.2.1 ≤ 40 := ⟨sd_in1_ (i := 8) rfl rfl, ⟨sd_nm2, sd_nv2, rfl⟩, by decide⟩
theorem sV2_leastWho : Cond.instanceMethod sY2_leastWho.1 ∈ sd_tb ∧ Cond.selects sY2_leastWho.1.cls sY2_leastWho.1 sY2_leastWho.1 ∈ sd_tb := ⟨sd_in5_ (i := 26) rfl rfl, sd_in5_ (i := 27) rfl rfl⟩
theorem sW2_mostWho : Cond.code sY2_mostWho.1 sY2_mostWho.2.1 sY2_mostWho.2.2.1 sY2_mostWho.2.2.2 ∈ sd_tb := sd_in5_ (i := 33) rfl rfl
theorem sH2_mostWho : Cond.initialized sY2_mostWho.1.cls ∈ sd_tb ∧ (sY2_mostWho.1.cls ≠ "java/lang/invoke/MethodHandle" ∧ sY2_mostWho.1.cls ≠ "java/lang/invoke/VarHandle" ∧ (parseMethodDescriptor sY2_mostWho.1.desc).map (fun d => d.parameters.length) = some 0) ∧ sY2_mostWho.2.2.1 ≤ 40 := ⟨sd_in1_ (i := 8) rfl rfl, ⟨sd_nm2, sd_nv2, rfl⟩, by decide⟩
theorem sV2_mostWho : Cond.instanceMethod sY2_mostWho.1 ∈ sd_tb ∧ Cond.selects sY2_mostWho.1.cls sY2_mostWho.1 sY2_mostWho.1 ∈ sd_tb := ⟨sd_in5_ (i := 31) rfl rfl, sd_in5_ (i := 32) rfl rfl⟩
theorem sW3_init : Cond.code sY3_init.1 sY3_init.2.1 sY3_init.2.2.1 sY3_init.2.2.2 ∈ sd_tb := sd_in1_ (i := 108) rfl rfl
theorem sH3_init : Cond.initialized sY3_init.1.cls ∈ sd_tb ∧ (sY3_init.1.cls ≠ "java/lang/invoke/MethodHandle" ∧ sY3_init.1.cls ≠ "java/lang/invoke/VarHandle" ∧ (parseMethodDescriptor sY3_init.1.desc).map (fun d => d.parameters.length) = some 0) ∧ sY3_init.2.2.1 ≤ 40 := ⟨sd_in1_ (i := 4) rfl rfl, ⟨sd_nm3, sd_nv3, rfl⟩, by decide⟩
theorem sW3_become : Cond.code sY3_become.1 sY3_become.2.1 sY3_become.2.2.1 sY3_become.2.2.2 ∈ sd_tb := sd_in5_ (i := 188) rfl rfl
theorem sH3_become : Cond.initialized sY3_become.1.cls ∈ sd_tb ∧ (sY3_become.1.cls ≠ "java/lang/invoke/MethodHandle" ∧ sY3_become.1.cls ≠ "java/lang/invoke/VarHandle" ∧ (parseMethodDescriptor sY3_become.1.desc).map (fun d => d.parameters.length) = some 1) ∧ sY3_become.2.2.1 ≤ 40 := ⟨sd_in1_ (i := 4) rfl rfl, ⟨sd_nm3, sd_nv3, rfl⟩, by decide⟩
theorem sV3_become : Cond.instanceMethod sY3_become.1 ∈ sd_tb ∧ Cond.selects sY3_become.1.cls sY3_become.1 sY3_become.1 ∈ sd_tb := ⟨sd_in5_ (i := 186) rfl rfl, sd_in5_ (i := 187) rfl rfl⟩
theorem sW3_has : Cond.code sY3_has.1 sY3_has.2.1 sY3_has.2.2.1 sY3_has.2.2.2 ∈ sd_tb := sd_in3_ (i := 54) rfl rfl
theorem sH3_has : Cond.initialized sY3_has.1.cls ∈ sd_tb ∧ (sY3_has.1.cls ≠ "java/lang/invoke/MethodHandle" ∧ sY3_has.1.cls ≠ "java/lang/invoke/VarHandle" ∧ (parseMethodDescriptor sY3_has.1.desc).map (fun d => d.parameters.length) = some 1) ∧ sY3_has.2.2.1 ≤ 40 := ⟨sd_in1_ (i := 4) rfl rfl, ⟨sd_nm3, sd_nv3, rfl⟩, by decide⟩
theorem sV3_has : Cond.instanceMethod sY3_has.1 ∈ sd_tb ∧ Cond.selects sY3_has.1.cls sY3_has.1 sY3_has.1 ∈ sd_tb := ⟨sd_in3_ (i := 52) rfl rfl, sd_in3_ (i := 53) rfl rfl⟩
theorem sW3_add : Cond.code sY3_add.1 sY3_add.2.1 sY3_add.2.2.1 sY3_add.2.2.2 ∈ sd_tb := sd_in3_ (i := 46) rfl rfl
theorem sH3_add : Cond.initialized sY3_add.1.cls ∈ sd_tb ∧ (sY3_add.1.cls ≠ "java/lang/invoke/MethodHandle" ∧ sY3_add.1.cls ≠ "java/lang/invoke/VarHandle" ∧ (parseMethodDescriptor sY3_add.1.desc).map (fun d => d.parameters.length) = some 3) ∧ sY3_add.2.2.1 ≤ 40 := ⟨sd_in1_ (i := 4) rfl rfl, ⟨sd_nm3, sd_nv3, rfl⟩, by decide⟩
theorem sV3_add : Cond.instanceMethod sY3_add.1 ∈ sd_tb ∧ Cond.selects sY3_add.1.cls sY3_add.1 sY3_add.1 ∈ sd_tb := ⟨sd_in3_ (i := 44) rfl rfl, sd_in3_ (i := 45) rfl rfl⟩
theorem sW3_number : Cond.code sY3_number.1 sY3_number.2.1 sY3_number.2.2.1 sY3_number.2.2.2 ∈ sd_tb := sd_in3_ (i := 59) rfl rfl
theorem sH3_number : Cond.initialized sY3_number.1.cls ∈ sd_tb ∧ (sY3_number.1.cls ≠ "java/lang/invoke/MethodHandle" ∧ sY3_number.1.cls ≠ "java/lang/invoke/VarHandle" ∧ (parseMethodDescriptor sY3_number.1.desc).map (fun d => d.parameters.length) = some 2) ∧ sY3_number.2.2.1 ≤ 40 := ⟨sd_in1_ (i := 4) rfl rfl, ⟨sd_nm3, sd_nv3, rfl⟩, by decide⟩
theorem sV3_number : Cond.instanceMethod sY3_number.1 ∈ sd_tb ∧ Cond.selects sY3_number.1.cls sY3_number.1 sY3_number.1 ∈ sd_tb := ⟨sd_in3_ (i := 57) rfl rfl, sd_in3_ (i := 58) rfl rfl⟩
theorem sW3_inShops : Cond.code sY3_inShops.1 sY3_inShops.2.1 sY3_inShops.2.2.1 sY3_inShops.2.2.2 ∈ sd_tb := sd_in2_ (i := 210) rfl rfl
theorem sH3_inShops : Cond.initialized sY3_inShops.1.cls ∈ sd_tb ∧ (sY3_inShops.1.cls ≠ "java/lang/invoke/MethodHandle" ∧ sY3_inShops.1.cls ≠ "java/lang/invoke/VarHandle" ∧ (parseMethodDescriptor sY3_inShops.1.desc).map (fun d => d.parameters.length) = some 1) ∧ sY3_inShops.2.2.1 ≤ 40 := ⟨sd_in1_ (i := 4) rfl rfl, ⟨sd_nm3, sd_nv3, rfl⟩, by decide⟩
theorem sV3_inShops : Cond.instanceMethod sY3_inShops.1 ∈ sd_tb ∧ Cond.selects sY3_inShops.1.cls sY3_inShops.1 sY3_inShops.1 ∈ sd_tb := ⟨sd_in2_ (i := 208) rfl rfl, sd_in2_ (i := 209) rfl rfl⟩
theorem sW3_willInShops : Cond.code sY3_willInShops.1 sY3_willInShops.2.1 sY3_willInShops.2.2.1 sY3_willInShops.2.2.2 ∈ sd_tb := sd_in5_ (i := 123) rfl rfl
theorem sH3_willInShops : Cond.initialized sY3_willInShops.1.cls ∈ sd_tb ∧ (sY3_willInShops.1.cls ≠ "java/lang/invoke/MethodHandle" ∧ sY3_willInShops.1.cls ≠ "java/lang/invoke/VarHandle" ∧ (parseMethodDescriptor sY3_willInShops.1.desc).map (fun d => d.parameters.length) = some 0) ∧ sY3_willInShops.2.2.1 ≤ 40 := ⟨sd_in1_ (i := 4) rfl rfl, ⟨sd_nm3, sd_nv3, rfl⟩, by decide⟩
theorem sV3_willInShops : Cond.instanceMethod sY3_willInShops.1 ∈ sd_tb ∧ Cond.selects sY3_willInShops.1.cls sY3_willInShops.1 sY3_willInShops.1 ∈ sd_tb := ⟨sd_in5_ (i := 121) rfl rfl, sd_in5_ (i := 122) rfl rfl⟩
theorem sW4_init : Cond.code sY4_init.1 sY4_init.2.1 sY4_init.2.2.1 sY4_init.2.2.2 ∈ sd_tb := sd_in1_ (i := 224) rfl rfl
theorem sH4_init : Cond.initialized sY4_init.1.cls ∈ sd_tb ∧ (sY4_init.1.cls ≠ "java/lang/invoke/MethodHandle" ∧ sY4_init.1.cls ≠ "java/lang/invoke/VarHandle" ∧ (parseMethodDescriptor sY4_init.1.desc).map (fun d => d.parameters.length) = some 0) ∧ sY4_init.2.2.1 ≤ 40 := ⟨sd_in1_ (i := 7) rfl rfl, ⟨sd_nm4, sd_nv4, rfl⟩, by decide⟩
theorem sW4_become : Cond.code sY4_become.1 sY4_become.2.1 sY4_become.2.2.1 sY4_become.2.2.2 ∈ sd_tb := sd_in5_ (i := 202) rfl rfl
theorem sH4_become : Cond.initialized sY4_become.1.cls ∈ sd_tb ∧ (sY4_become.1.cls ≠ "java/lang/invoke/MethodHandle" ∧ sY4_become.1.cls ≠ "java/lang/invoke/VarHandle" ∧ (parseMethodDescriptor sY4_become.1.desc).map (fun d => d.parameters.length) = some 1) ∧ sY4_become.2.2.1 ≤ 40 := ⟨sd_in1_ (i := 7) rfl rfl, ⟨sd_nm4, sd_nv4, rfl⟩, by decide⟩
theorem sV4_become : Cond.instanceMethod sY4_become.1 ∈ sd_tb ∧ Cond.selects sY4_become.1.cls sY4_become.1 sY4_become.1 ∈ sd_tb := ⟨sd_in5_ (i := 200) rfl rfl, sd_in5_ (i := 201) rfl rfl⟩
theorem sW4_add : Cond.code sY4_add.1 sY4_add.2.1 sY4_add.2.2.1 sY4_add.2.2.2 ∈ sd_tb := sd_in4_ (i := 161) rfl rfl
theorem sH4_add : Cond.initialized sY4_add.1.cls ∈ sd_tb ∧ (sY4_add.1.cls ≠ "java/lang/invoke/MethodHandle" ∧ sY4_add.1.cls ≠ "java/lang/invoke/VarHandle" ∧ (parseMethodDescriptor sY4_add.1.desc).map (fun d => d.parameters.length) = some 2) ∧ sY4_add.2.2.1 ≤ 40 := ⟨sd_in1_ (i := 7) rfl rfl, ⟨sd_nm4, sd_nv4, rfl⟩, by decide⟩
theorem sV4_add : Cond.instanceMethod sY4_add.1 ∈ sd_tb ∧ Cond.selects sY4_add.1.cls sY4_add.1 sY4_add.1 ∈ sd_tb := ⟨sd_in4_ (i := 159) rfl rfl, sd_in4_ (i := 160) rfl rfl⟩
theorem sW4_thoseOut : Cond.code sY4_thoseOut.1 sY4_thoseOut.2.1 sY4_thoseOut.2.2.1 sY4_thoseOut.2.2.2 ∈ sd_tb := sd_in4_ (i := 177) rfl rfl
theorem sH4_thoseOut : Cond.initialized sY4_thoseOut.1.cls ∈ sd_tb ∧ (sY4_thoseOut.1.cls ≠ "java/lang/invoke/MethodHandle" ∧ sY4_thoseOut.1.cls ≠ "java/lang/invoke/VarHandle" ∧ (parseMethodDescriptor sY4_thoseOut.1.desc).map (fun d => d.parameters.length) = some 0) ∧ sY4_thoseOut.2.2.1 ≤ 40 := ⟨sd_in1_ (i := 7) rfl rfl, ⟨sd_nm4, sd_nv4, rfl⟩, by decide⟩
theorem sV4_thoseOut : Cond.instanceMethod sY4_thoseOut.1 ∈ sd_tb ∧ Cond.selects sY4_thoseOut.1.cls sY4_thoseOut.1 sY4_thoseOut.1 ∈ sd_tb := ⟨sd_in4_ (i := 175) rfl rfl, sd_in4_ (i := 176) rfl rfl⟩
theorem sW4_setSquads : Cond.code sY4_setSquads.1 sY4_setSquads.2.1 sY4_setSquads.2.2.1 sY4_setSquads.2.2.2 ∈ sd_tb := sd_in4_ (i := 181) rfl rfl
theorem sH4_setSquads : Cond.initialized sY4_setSquads.1.cls ∈ sd_tb ∧ (sY4_setSquads.1.cls ≠ "java/lang/invoke/MethodHandle" ∧ sY4_setSquads.1.cls ≠ "java/lang/invoke/VarHandle" ∧ (parseMethodDescriptor sY4_setSquads.1.desc).map (fun d => d.parameters.length) = some 2) ∧ sY4_setSquads.2.2.1 ≤ 40 := ⟨sd_in1_ (i := 7) rfl rfl, ⟨sd_nm4, sd_nv4, rfl⟩, by decide⟩
theorem sV4_setSquads : Cond.instanceMethod sY4_setSquads.1 ∈ sd_tb ∧ Cond.selects sY4_setSquads.1.cls sY4_setSquads.1 sY4_setSquads.1 ∈ sd_tb := ⟨sd_in4_ (i := 179) rfl rfl, sd_in4_ (i := 180) rfl rfl⟩
theorem sW4_mostBelieved : Cond.code sY4_mostBelieved.1 sY4_mostBelieved.2.1 sY4_mostBelieved.2.2.1 sY4_mostBelieved.2.2.2 ∈ sd_tb := sd_in4_ (i := 191) rfl rfl
theorem sH4_mostBelieved : Cond.initialized sY4_mostBelieved.1.cls ∈ sd_tb ∧ (sY4_mostBelieved.1.cls ≠ "java/lang/invoke/MethodHandle" ∧ sY4_mostBelieved.1.cls ≠ "java/lang/invoke/VarHandle" ∧ (parseMethodDescriptor sY4_mostBelieved.1.desc).map (fun d => d.parameters.length) = some 0) ∧ sY4_mostBelieved.2.2.1 ≤ 40 := ⟨sd_in1_ (i := 7) rfl rfl, ⟨sd_nm4, sd_nv4, rfl⟩, by decide⟩
theorem sV4_mostBelieved : Cond.instanceMethod sY4_mostBelieved.1 ∈ sd_tb ∧ Cond.selects sY4_mostBelieved.1.cls sY4_mostBelieved.1 sY4_mostBelieved.1 ∈ sd_tb := ⟨sd_in4_ (i := 190) rfl rfl, sd_in2 (i := 15) rfl rfl⟩
theorem sW4_isMoreBelieved : Cond.code sY4_isMoreBelieved.1 sY4_isMoreBelieved.2.1 sY4_isMoreBelieved.2.2.1 sY4_isMoreBelieved.2.2.2 ∈ sd_tb := sd_in4_ (i := 195) rfl rfl
theorem sH4_isMoreBelieved : Cond.initialized sY4_isMoreBelieved.1.cls ∈ sd_tb ∧ (sY4_isMoreBelieved.1.cls ≠ "java/lang/invoke/MethodHandle" ∧ sY4_isMoreBelieved.1.cls ≠ "java/lang/invoke/VarHandle" ∧ (parseMethodDescriptor sY4_isMoreBelieved.1.desc).map (fun d => d.parameters.length) = some 2) ∧ sY4_isMoreBelieved.2.2.1 ≤ 40 := ⟨sd_in1_ (i := 7) rfl rfl, ⟨sd_nm4, sd_nv4, rfl⟩, by decide⟩
theorem sV4_isMoreBelieved : Cond.instanceMethod sY4_isMoreBelieved.1 ∈ sd_tb ∧ Cond.selects sY4_isMoreBelieved.1.cls sY4_isMoreBelieved.1 sY4_isMoreBelieved.1 ∈ sd_tb := ⟨sd_in4_ (i := 194) rfl rfl, sd_in2 (i := 16) rfl rfl⟩
theorem sW4_leastFor : Cond.code sY4_leastFor.1 sY4_leastFor.2.1 sY4_leastFor.2.2.1 sY4_leastFor.2.2.2 ∈ sd_tb := sd_in4_ (i := 208) rfl rfl
theorem sH4_leastFor : Cond.initialized sY4_leastFor.1.cls ∈ sd_tb ∧ (sY4_leastFor.1.cls ≠ "java/lang/invoke/MethodHandle" ∧ sY4_leastFor.1.cls ≠ "java/lang/invoke/VarHandle" ∧ (parseMethodDescriptor sY4_leastFor.1.desc).map (fun d => d.parameters.length) = some 3) ∧ sY4_leastFor.2.2.1 ≤ 40 := ⟨sd_in1_ (i := 7) rfl rfl, ⟨sd_nm4, sd_nv4, rfl⟩, by decide⟩
theorem sV4_leastFor : Cond.instanceMethod sY4_leastFor.1 ∈ sd_tb ∧ Cond.selects sY4_leastFor.1.cls sY4_leastFor.1 sY4_leastFor.1 ∈ sd_tb := ⟨sd_in4_ (i := 206) rfl rfl, sd_in4_ (i := 207) rfl rfl⟩
theorem sW5_init : Cond.code sY5_init.1 sY5_init.2.1 sY5_init.2.2.1 sY5_init.2.2.2 ∈ sd_tb := sd_in2_ (i := 118) rfl rfl
theorem sH5_init : Cond.initialized sY5_init.1.cls ∈ sd_tb ∧ (sY5_init.1.cls ≠ "java/lang/invoke/MethodHandle" ∧ sY5_init.1.cls ≠ "java/lang/invoke/VarHandle" ∧ (parseMethodDescriptor sY5_init.1.desc).map (fun d => d.parameters.length) = some 0) ∧ sY5_init.2.2.1 ≤ 40 := ⟨sd_in1_ (i := 11) rfl rfl, ⟨sd_nm5, sd_nv5, rfl⟩, by decide⟩
theorem sW5_isMissing : Cond.code sY5_isMissing.1 sY5_isMissing.2.1 sY5_isMissing.2.2.1 sY5_isMissing.2.2.2 ∈ sd_tb := sd_in3_ (i := 163) rfl rfl
theorem sH5_isMissing : Cond.initialized sY5_isMissing.1.cls ∈ sd_tb ∧ (sY5_isMissing.1.cls ≠ "java/lang/invoke/MethodHandle" ∧ sY5_isMissing.1.cls ≠ "java/lang/invoke/VarHandle" ∧ (parseMethodDescriptor sY5_isMissing.1.desc).map (fun d => d.parameters.length) = some 0) ∧ sY5_isMissing.2.2.1 ≤ 40 := ⟨sd_in1_ (i := 11) rfl rfl, ⟨sd_nm5, sd_nv5, rfl⟩, by decide⟩
theorem sV5_isMissing : Cond.instanceMethod sY5_isMissing.1 ∈ sd_tb ∧ Cond.selects sY5_isMissing.1.cls sY5_isMissing.1 sY5_isMissing.1 ∈ sd_tb := ⟨sd_in3_ (i := 161) rfl rfl, sd_in3_ (i := 162) rfl rfl⟩
theorem sW5_begin : Cond.code sY5_begin.1 sY5_begin.2.1 sY5_begin.2.2.1 sY5_begin.2.2.2 ∈ sd_tb := sd_in5_ (i := 153) rfl rfl
theorem sH5_begin : Cond.initialized sY5_begin.1.cls ∈ sd_tb ∧ (sY5_begin.1.cls ≠ "java/lang/invoke/MethodHandle" ∧ sY5_begin.1.cls ≠ "java/lang/invoke/VarHandle" ∧ (parseMethodDescriptor sY5_begin.1.desc).map (fun d => d.parameters.length) = some 2) ∧ sY5_begin.2.2.1 ≤ 40 := ⟨sd_in1_ (i := 11) rfl rfl, ⟨sd_nm5, sd_nv5, rfl⟩, by decide⟩
theorem sV5_begin : Cond.instanceMethod sY5_begin.1 ∈ sd_tb ∧ Cond.selects sY5_begin.1.cls sY5_begin.1 sY5_begin.1 ∈ sd_tb := ⟨sd_in5_ (i := 151) rfl rfl, sd_in5_ (i := 152) rfl rfl⟩
theorem sW5_put : Cond.code sY5_put.1 sY5_put.2.1 sY5_put.2.2.1 sY5_put.2.2.2 ∈ sd_tb := sd_in5_ (i := 162) rfl rfl
theorem sH5_put : Cond.initialized sY5_put.1.cls ∈ sd_tb ∧ (sY5_put.1.cls ≠ "java/lang/invoke/MethodHandle" ∧ sY5_put.1.cls ≠ "java/lang/invoke/VarHandle" ∧ (parseMethodDescriptor sY5_put.1.desc).map (fun d => d.parameters.length) = some 2) ∧ sY5_put.2.2.1 ≤ 40 := ⟨sd_in1_ (i := 11) rfl rfl, ⟨sd_nm5, sd_nv5, rfl⟩, by decide⟩
theorem sV5_put : Cond.instanceMethod sY5_put.1 ∈ sd_tb ∧ Cond.selects sY5_put.1.cls sY5_put.1 sY5_put.1 ∈ sd_tb := ⟨sd_in5_ (i := 160) rfl rfl, sd_in5_ (i := 161) rfl rfl⟩
theorem sW5_hasNumbers : Cond.code sY5_hasNumbers.1 sY5_hasNumbers.2.1 sY5_hasNumbers.2.2.1 sY5_hasNumbers.2.2.2 ∈ sd_tb := sd_in5_ (i := 171) rfl rfl
theorem sH5_hasNumbers : Cond.initialized sY5_hasNumbers.1.cls ∈ sd_tb ∧ (sY5_hasNumbers.1.cls ≠ "java/lang/invoke/MethodHandle" ∧ sY5_hasNumbers.1.cls ≠ "java/lang/invoke/VarHandle" ∧ (parseMethodDescriptor sY5_hasNumbers.1.desc).map (fun d => d.parameters.length) = some 2) ∧ sY5_hasNumbers.2.2.1 ≤ 40 := ⟨sd_in1_ (i := 11) rfl rfl, ⟨sd_nm5, sd_nv5, rfl⟩, by decide⟩
theorem sV5_hasNumbers : Cond.instanceMethod sY5_hasNumbers.1 ∈ sd_tb ∧ Cond.selects sY5_hasNumbers.1.cls sY5_hasNumbers.1 sY5_hasNumbers.1 ∈ sd_tb := ⟨sd_in5_ (i := 169) rfl rfl, sd_in5_ (i := 170) rfl rfl⟩
theorem sW6_init : Cond.code sY6_init.1 sY6_init.2.1 sY6_init.2.2.1 sY6_init.2.2.2 ∈ sd_tb := sd_in1_ (i := 32) rfl rfl
theorem sH6_init : Cond.initialized sY6_init.1.cls ∈ sd_tb ∧ (sY6_init.1.cls ≠ "java/lang/invoke/MethodHandle" ∧ sY6_init.1.cls ≠ "java/lang/invoke/VarHandle" ∧ (parseMethodDescriptor sY6_init.1.desc).map (fun d => d.parameters.length) = some 0) ∧ sY6_init.2.2.1 ≤ 40 := ⟨sd_in1_ (i := 2) rfl rfl, ⟨sd_nm6, sd_nv6, rfl⟩, by decide⟩
theorem sW6_become : Cond.code sY6_become.1 sY6_become.2.1 sY6_become.2.2.1 sY6_become.2.2.2 ∈ sd_tb := sd_in5_ (i := 179) rfl rfl
theorem sH6_become : Cond.initialized sY6_become.1.cls ∈ sd_tb ∧ (sY6_become.1.cls ≠ "java/lang/invoke/MethodHandle" ∧ sY6_become.1.cls ≠ "java/lang/invoke/VarHandle" ∧ (parseMethodDescriptor sY6_become.1.desc).map (fun d => d.parameters.length) = some 1) ∧ sY6_become.2.2.1 ≤ 40 := ⟨sd_in1_ (i := 2) rfl rfl, ⟨sd_nm6, sd_nv6, rfl⟩, by decide⟩
theorem sV6_become : Cond.instanceMethod sY6_become.1 ∈ sd_tb ∧ Cond.selects sY6_become.1.cls sY6_become.1 sY6_become.1 ∈ sd_tb := ⟨sd_in5_ (i := 177) rfl rfl, sd_in5_ (i := 178) rfl rfl⟩
theorem sW6_reachedFrom : Cond.code sY6_reachedFrom.1 sY6_reachedFrom.2.1 sY6_reachedFrom.2.2.1 sY6_reachedFrom.2.2.2 ∈ sd_tb := sd_in3_ (i := 68) rfl rfl
theorem sH6_reachedFrom : Cond.initialized sY6_reachedFrom.1.cls ∈ sd_tb ∧ (sY6_reachedFrom.1.cls ≠ "java/lang/invoke/MethodHandle" ∧ sY6_reachedFrom.1.cls ≠ "java/lang/invoke/VarHandle" ∧ (parseMethodDescriptor sY6_reachedFrom.1.desc).map (fun d => d.parameters.length) = some 2) ∧ sY6_reachedFrom.2.2.1 ≤ 40 := ⟨sd_in1_ (i := 2) rfl rfl, ⟨sd_nm6, sd_nv6, rfl⟩, by decide⟩
theorem sV6_reachedFrom : Cond.instanceMethod sY6_reachedFrom.1 ∈ sd_tb ∧ Cond.selects sY6_reachedFrom.1.cls sY6_reachedFrom.1 sY6_reachedFrom.1 ∈ sd_tb := ⟨sd_in3_ (i := 66) rfl rfl, sd_in3_ (i := 67) rfl rfl⟩
theorem sW6_forceAt : Cond.code sY6_forceAt.1 sY6_forceAt.2.1 sY6_forceAt.2.2.1 sY6_forceAt.2.2.2 ∈ sd_tb := sd_in3_ (i := 137) rfl rfl
theorem sH6_forceAt : Cond.initialized sY6_forceAt.1.cls ∈ sd_tb ∧ (sY6_forceAt.1.cls ≠ "java/lang/invoke/MethodHandle" ∧ sY6_forceAt.1.cls ≠ "java/lang/invoke/VarHandle" ∧ (parseMethodDescriptor sY6_forceAt.1.desc).map (fun d => d.parameters.length) = some 1) ∧ sY6_forceAt.2.2.1 ≤ 40 := ⟨sd_in1_ (i := 2) rfl rfl, ⟨sd_nm6, sd_nv6, rfl⟩, by decide⟩
theorem sV6_forceAt : Cond.instanceMethod sY6_forceAt.1 ∈ sd_tb ∧ Cond.selects sY6_forceAt.1.cls sY6_forceAt.1 sY6_forceAt.1 ∈ sd_tb := ⟨sd_in3_ (i := 135) rfl rfl, sd_in3_ (i := 136) rfl rfl⟩
theorem sW6_clauseAt : Cond.code sY6_clauseAt.1 sY6_clauseAt.2.1 sY6_clauseAt.2.2.1 sY6_clauseAt.2.2.2 ∈ sd_tb := sd_in2_ (i := 218) rfl rfl
theorem sH6_clauseAt : Cond.initialized sY6_clauseAt.1.cls ∈ sd_tb ∧ (sY6_clauseAt.1.cls ≠ "java/lang/invoke/MethodHandle" ∧ sY6_clauseAt.1.cls ≠ "java/lang/invoke/VarHandle" ∧ (parseMethodDescriptor sY6_clauseAt.1.desc).map (fun d => d.parameters.length) = some 2) ∧ sY6_clauseAt.2.2.1 ≤ 40 := ⟨sd_in1_ (i := 2) rfl rfl, ⟨sd_nm6, sd_nv6, rfl⟩, by decide⟩
theorem sV6_clauseAt : Cond.instanceMethod sY6_clauseAt.1 ∈ sd_tb ∧ Cond.selects sY6_clauseAt.1.cls sY6_clauseAt.1 sY6_clauseAt.1 ∈ sd_tb := ⟨sd_in2_ (i := 216) rfl rfl, sd_in2_ (i := 217) rfl rfl⟩
theorem sW6_makes : Cond.code sY6_makes.1 sY6_makes.2.1 sY6_makes.2.2.1 sY6_makes.2.2.2 ∈ sd_tb := sd_in2_ (i := 206) rfl rfl
theorem sH6_makes : Cond.initialized sY6_makes.1.cls ∈ sd_tb ∧ (sY6_makes.1.cls ≠ "java/lang/invoke/MethodHandle" ∧ sY6_makes.1.cls ≠ "java/lang/invoke/VarHandle" ∧ (parseMethodDescriptor sY6_makes.1.desc).map (fun d => d.parameters.length) = some 1) ∧ sY6_makes.2.2.1 ≤ 40 := ⟨sd_in1_ (i := 2) rfl rfl, ⟨sd_nm6, sd_nv6, rfl⟩, by decide⟩
theorem sV6_makes : Cond.instanceMethod sY6_makes.1 ∈ sd_tb ∧ Cond.selects sY6_makes.1.cls sY6_makes.1 sY6_makes.1 ∈ sd_tb := ⟨sd_in2_ (i := 204) rfl rfl, sd_in2_ (i := 205) rfl rfl⟩
theorem sW6_makers : Cond.code sY6_makers.1 sY6_makers.2.1 sY6_makers.2.2.1 sY6_makers.2.2.2 ∈ sd_tb := sd_in3_ (i := 180) rfl rfl
theorem sH6_makers : Cond.initialized sY6_makers.1.cls ∈ sd_tb ∧ (sY6_makers.1.cls ≠ "java/lang/invoke/MethodHandle" ∧ sY6_makers.1.cls ≠ "java/lang/invoke/VarHandle" ∧ (parseMethodDescriptor sY6_makers.1.desc).map (fun d => d.parameters.length) = some 0) ∧ sY6_makers.2.2.1 ≤ 40 := ⟨sd_in1_ (i := 2) rfl rfl, ⟨sd_nm6, sd_nv6, rfl⟩, by decide⟩
theorem sV6_makers : Cond.instanceMethod sY6_makers.1 ∈ sd_tb ∧ Cond.selects sY6_makers.1.cls sY6_makers.1 sY6_makers.1 ∈ sd_tb := ⟨sd_in3_ (i := 178) rfl rfl, sd_in3_ (i := 179) rfl rfl⟩
theorem sW6_madeBy : Cond.code sY6_madeBy.1 sY6_madeBy.2.1 sY6_madeBy.2.2.1 sY6_madeBy.2.2.2 ∈ sd_tb := sd_in3_ (i := 185) rfl rfl
theorem sH6_madeBy : Cond.initialized sY6_madeBy.1.cls ∈ sd_tb ∧ (sY6_madeBy.1.cls ≠ "java/lang/invoke/MethodHandle" ∧ sY6_madeBy.1.cls ≠ "java/lang/invoke/VarHandle" ∧ (parseMethodDescriptor sY6_madeBy.1.desc).map (fun d => d.parameters.length) = some 1) ∧ sY6_madeBy.2.2.1 ≤ 40 := ⟨sd_in1_ (i := 2) rfl rfl, ⟨sd_nm6, sd_nv6, rfl⟩, by decide⟩
theorem sV6_madeBy : Cond.instanceMethod sY6_madeBy.1 ∈ sd_tb ∧ Cond.selects sY6_madeBy.1.cls sY6_madeBy.1 sY6_madeBy.1 ∈ sd_tb := ⟨sd_in3_ (i := 183) rfl rfl, sd_in3_ (i := 184) rfl rfl⟩
theorem sW6_leastShops : Cond.code sY6_leastShops.1 sY6_leastShops.2.1 sY6_leastShops.2.2.1 sY6_leastShops.2.2.2 ∈ sd_tb := sd_in3_ (i := 221) rfl rfl
theorem sH6_leastShops : Cond.initialized sY6_leastShops.1.cls ∈ sd_tb ∧ (sY6_leastShops.1.cls ≠ "java/lang/invoke/MethodHandle" ∧ sY6_leastShops.1.cls ≠ "java/lang/invoke/VarHandle" ∧ (parseMethodDescriptor sY6_leastShops.1.desc).map (fun d => d.parameters.length) = some 1) ∧ sY6_leastShops.2.2.1 ≤ 40 := ⟨sd_in1_ (i := 2) rfl rfl, ⟨sd_nm6, sd_nv6, rfl⟩, by decide⟩
theorem sV6_leastShops : Cond.instanceMethod sY6_leastShops.1 ∈ sd_tb ∧ Cond.selects sY6_leastShops.1.cls sY6_leastShops.1 sY6_leastShops.1 ∈ sd_tb := ⟨sd_in3_ (i := 219) rfl rfl, sd_in3_ (i := 220) rfl rfl⟩
theorem sW6_firstCold : Cond.code sY6_firstCold.1 sY6_firstCold.2.1 sY6_firstCold.2.2.1 sY6_firstCold.2.2.2 ∈ sd_tb := sd_in3_ (i := 22) rfl rfl
theorem sH6_firstCold : Cond.initialized sY6_firstCold.1.cls ∈ sd_tb ∧ (sY6_firstCold.1.cls ≠ "java/lang/invoke/MethodHandle" ∧ sY6_firstCold.1.cls ≠ "java/lang/invoke/VarHandle" ∧ (parseMethodDescriptor sY6_firstCold.1.desc).map (fun d => d.parameters.length) = some 2) ∧ sY6_firstCold.2.2.1 ≤ 40 := ⟨sd_in1_ (i := 2) rfl rfl, ⟨sd_nm6, sd_nv6, rfl⟩, by decide⟩
theorem sV6_firstCold : Cond.instanceMethod sY6_firstCold.1 ∈ sd_tb ∧ Cond.selects sY6_firstCold.1.cls sY6_firstCold.1 sY6_firstCold.1 ∈ sd_tb := ⟨sd_in3_ (i := 20) rfl rfl, sd_in3_ (i := 21) rfl rfl⟩
theorem sW6_firstLeave : Cond.code sY6_firstLeave.1 sY6_firstLeave.2.1 sY6_firstLeave.2.2.1 sY6_firstLeave.2.2.2 ∈ sd_tb := sd_in3_ (i := 89) rfl rfl
theorem sH6_firstLeave : Cond.initialized sY6_firstLeave.1.cls ∈ sd_tb ∧ (sY6_firstLeave.1.cls ≠ "java/lang/invoke/MethodHandle" ∧ sY6_firstLeave.1.cls ≠ "java/lang/invoke/VarHandle" ∧ (parseMethodDescriptor sY6_firstLeave.1.desc).map (fun d => d.parameters.length) = some 1) ∧ sY6_firstLeave.2.2.1 ≤ 40 := ⟨sd_in1_ (i := 2) rfl rfl, ⟨sd_nm6, sd_nv6, rfl⟩, by decide⟩
theorem sV6_firstLeave : Cond.instanceMethod sY6_firstLeave.1 ∈ sd_tb ∧ Cond.selects sY6_firstLeave.1.cls sY6_firstLeave.1 sY6_firstLeave.1 ∈ sd_tb := ⟨sd_in3_ (i := 87) rfl rfl, sd_in3_ (i := 88) rfl rfl⟩
theorem sW6_lossOfWill : Cond.code sY6_lossOfWill.1 sY6_lossOfWill.2.1 sY6_lossOfWill.2.2.1 sY6_lossOfWill.2.2.2 ∈ sd_tb := sd_in3_ (i := 94) rfl rfl
theorem sH6_lossOfWill : Cond.initialized sY6_lossOfWill.1.cls ∈ sd_tb ∧ (sY6_lossOfWill.1.cls ≠ "java/lang/invoke/MethodHandle" ∧ sY6_lossOfWill.1.cls ≠ "java/lang/invoke/VarHandle" ∧ (parseMethodDescriptor sY6_lossOfWill.1.desc).map (fun d => d.parameters.length) = some 3) ∧ sY6_lossOfWill.2.2.1 ≤ 40 := ⟨sd_in1_ (i := 2) rfl rfl, ⟨sd_nm6, sd_nv6, rfl⟩, by decide⟩
theorem sV6_lossOfWill : Cond.instanceMethod sY6_lossOfWill.1 ∈ sd_tb ∧ Cond.selects sY6_lossOfWill.1.cls sY6_lossOfWill.1 sY6_lossOfWill.1 ∈ sd_tb := ⟨sd_in3_ (i := 93) rfl rfl, sd_in2 (i := 3) rfl rfl⟩
theorem sW6_isClosed : Cond.code sY6_isClosed.1 sY6_isClosed.2.1 sY6_isClosed.2.2.1 sY6_isClosed.2.2.2 ∈ sd_tb := sd_in5_ (i := 141) rfl rfl
theorem sH6_isClosed : Cond.initialized sY6_isClosed.1.cls ∈ sd_tb ∧ (sY6_isClosed.1.cls ≠ "java/lang/invoke/MethodHandle" ∧ sY6_isClosed.1.cls ≠ "java/lang/invoke/VarHandle" ∧ (parseMethodDescriptor sY6_isClosed.1.desc).map (fun d => d.parameters.length) = some 1) ∧ sY6_isClosed.2.2.1 ≤ 40 := ⟨sd_in1_ (i := 2) rfl rfl, ⟨sd_nm6, sd_nv6, rfl⟩, by decide⟩
theorem sV6_isClosed : Cond.instanceMethod sY6_isClosed.1 ∈ sd_tb ∧ Cond.selects sY6_isClosed.1.cls sY6_isClosed.1 sY6_isClosed.1 ∈ sd_tb := ⟨sd_in5_ (i := 139) rfl rfl, sd_in5_ (i := 140) rfl rfl⟩
theorem sW6_closeHour : Cond.code sY6_closeHour.1 sY6_closeHour.2.1 sY6_closeHour.2.2.1 sY6_closeHour.2.2.2 ∈ sd_tb := sd_in5_ (i := 93) rfl rfl
theorem sH6_closeHour : Cond.initialized sY6_closeHour.1.cls ∈ sd_tb ∧ (sY6_closeHour.1.cls ≠ "java/lang/invoke/MethodHandle" ∧ sY6_closeHour.1.cls ≠ "java/lang/invoke/VarHandle" ∧ (parseMethodDescriptor sY6_closeHour.1.desc).map (fun d => d.parameters.length) = some 0) ∧ sY6_closeHour.2.2.1 ≤ 40 := ⟨sd_in1_ (i := 2) rfl rfl, ⟨sd_nm6, sd_nv6, rfl⟩, by decide⟩
theorem sV6_closeHour : Cond.instanceMethod sY6_closeHour.1 ∈ sd_tb ∧ Cond.selects sY6_closeHour.1.cls sY6_closeHour.1 sY6_closeHour.1 ∈ sd_tb := ⟨sd_in5_ (i := 91) rfl rfl, sd_in5_ (i := 92) rfl rfl⟩
theorem sW6_eatOrHunger : Cond.code sY6_eatOrHunger.1 sY6_eatOrHunger.2.1 sY6_eatOrHunger.2.2.1 sY6_eatOrHunger.2.2.2 ∈ sd_tb := sd_in5_ (i := 102) rfl rfl
theorem sH6_eatOrHunger : Cond.initialized sY6_eatOrHunger.1.cls ∈ sd_tb ∧ (sY6_eatOrHunger.1.cls ≠ "java/lang/invoke/MethodHandle" ∧ sY6_eatOrHunger.1.cls ≠ "java/lang/invoke/VarHandle" ∧ (parseMethodDescriptor sY6_eatOrHunger.1.desc).map (fun d => d.parameters.length) = some 2) ∧ sY6_eatOrHunger.2.2.1 ≤ 40 := ⟨sd_in1_ (i := 2) rfl rfl, ⟨sd_nm6, sd_nv6, rfl⟩, by decide⟩
theorem sV6_eatOrHunger : Cond.instanceMethod sY6_eatOrHunger.1 ∈ sd_tb ∧ Cond.selects sY6_eatOrHunger.1.cls sY6_eatOrHunger.1 sY6_eatOrHunger.1 ∈ sd_tb := ⟨sd_in5_ (i := 101) rfl rfl, sd_in2 (i := 23) rfl rfl⟩
theorem sW6_loseWill : Cond.code sY6_loseWill.1 sY6_loseWill.2.1 sY6_loseWill.2.2.1 sY6_loseWill.2.2.2 ∈ sd_tb := sd_in5_ (i := 110) rfl rfl
theorem sH6_loseWill : Cond.initialized sY6_loseWill.1.cls ∈ sd_tb ∧ (sY6_loseWill.1.cls ≠ "java/lang/invoke/MethodHandle" ∧ sY6_loseWill.1.cls ≠ "java/lang/invoke/VarHandle" ∧ (parseMethodDescriptor sY6_loseWill.1.desc).map (fun d => d.parameters.length) = some 2) ∧ sY6_loseWill.2.2.1 ≤ 40 := ⟨sd_in1_ (i := 2) rfl rfl, ⟨sd_nm6, sd_nv6, rfl⟩, by decide⟩
theorem sV6_loseWill : Cond.instanceMethod sY6_loseWill.1 ∈ sd_tb ∧ Cond.selects sY6_loseWill.1.cls sY6_loseWill.1 sY6_loseWill.1 ∈ sd_tb := ⟨sd_in5_ (i := 109) rfl rfl, sd_in2 (i := 24) rfl rfl⟩
theorem sW6_writePage : Cond.code sY6_writePage.1 sY6_writePage.2.1 sY6_writePage.2.2.1 sY6_writePage.2.2.2 ∈ sd_tb := sd_in5_ (i := 119) rfl rfl
theorem sH6_writePage : Cond.initialized sY6_writePage.1.cls ∈ sd_tb ∧ (sY6_writePage.1.cls ≠ "java/lang/invoke/MethodHandle" ∧ sY6_writePage.1.cls ≠ "java/lang/invoke/VarHandle" ∧ (parseMethodDescriptor sY6_writePage.1.desc).map (fun d => d.parameters.length) = some 2) ∧ sY6_writePage.2.2.1 ≤ 40 := ⟨sd_in1_ (i := 2) rfl rfl, ⟨sd_nm6, sd_nv6, rfl⟩, by decide⟩
theorem sV6_writePage : Cond.instanceMethod sY6_writePage.1 ∈ sd_tb ∧ Cond.selects sY6_writePage.1.cls sY6_writePage.1 sY6_writePage.1 ∈ sd_tb := ⟨sd_in5_ (i := 118) rfl rfl, sd_in2 (i := 25) rfl rfl⟩
theorem sW7_init : Cond.code sY7_init.1 sY7_init.2.1 sY7_init.2.2.1 sY7_init.2.2.2 ∈ sd_tb := sd_in2_ (i := 101) rfl rfl
theorem sH7_init : Cond.initialized sY7_init.1.cls ∈ sd_tb ∧ (sY7_init.1.cls ≠ "java/lang/invoke/MethodHandle" ∧ sY7_init.1.cls ≠ "java/lang/invoke/VarHandle" ∧ (parseMethodDescriptor sY7_init.1.desc).map (fun d => d.parameters.length) = some 0) ∧ sY7_init.2.2.1 ≤ 40 := ⟨sd_in1_ (i := 10) rfl rfl, ⟨sd_nm7, sd_nv7, rfl⟩, by decide⟩
theorem sW7_add : Cond.code sY7_add.1 sY7_add.2.1 sY7_add.2.2.1 sY7_add.2.2.2 ∈ sd_tb := sd_in4_ (i := 4) rfl rfl
theorem sH7_add : Cond.initialized sY7_add.1.cls ∈ sd_tb ∧ (sY7_add.1.cls ≠ "java/lang/invoke/MethodHandle" ∧ sY7_add.1.cls ≠ "java/lang/invoke/VarHandle" ∧ (parseMethodDescriptor sY7_add.1.desc).map (fun d => d.parameters.length) = some 2) ∧ sY7_add.2.2.1 ≤ 40 := ⟨sd_in1_ (i := 10) rfl rfl, ⟨sd_nm7, sd_nv7, rfl⟩, by decide⟩
theorem sV7_add : Cond.instanceMethod sY7_add.1 ∈ sd_tb ∧ Cond.selects sY7_add.1.cls sY7_add.1 sY7_add.1 ∈ sd_tb := ⟨sd_in4_ (i := 2) rfl rfl, sd_in4_ (i := 3) rfl rfl⟩
theorem sW7_readText : Cond.code sY7_readText.1 sY7_readText.2.1 sY7_readText.2.2.1 sY7_readText.2.2.2 ∈ sd_tb := sd_in4_ (i := 12) rfl rfl
theorem sH7_readText : Cond.initialized sY7_readText.1.cls ∈ sd_tb ∧ (sY7_readText.1.cls ≠ "java/lang/invoke/MethodHandle" ∧ sY7_readText.1.cls ≠ "java/lang/invoke/VarHandle" ∧ (parseMethodDescriptor sY7_readText.1.desc).map (fun d => d.parameters.length) = some 1) ∧ sY7_readText.2.2.1 ≤ 40 := ⟨sd_in1_ (i := 10) rfl rfl, ⟨sd_nm7, sd_nv7, rfl⟩, by decide⟩
theorem sV7_readText : Cond.instanceMethod sY7_readText.1 ∈ sd_tb ∧ Cond.selects sY7_readText.1.cls sY7_readText.1 sY7_readText.1 ∈ sd_tb := ⟨sd_in4_ (i := 10) rfl rfl, sd_in4_ (i := 11) rfl rfl⟩
theorem sW7_readWords : Cond.code sY7_readWords.1 sY7_readWords.2.1 sY7_readWords.2.2.1 sY7_readWords.2.2.2 ∈ sd_tb := sd_in4_ (i := 20) rfl rfl
theorem sH7_readWords : Cond.initialized sY7_readWords.1.cls ∈ sd_tb ∧ (sY7_readWords.1.cls ≠ "java/lang/invoke/MethodHandle" ∧ sY7_readWords.1.cls ≠ "java/lang/invoke/VarHandle" ∧ (parseMethodDescriptor sY7_readWords.1.desc).map (fun d => d.parameters.length) = some 2) ∧ sY7_readWords.2.2.1 ≤ 40 := ⟨sd_in1_ (i := 10) rfl rfl, ⟨sd_nm7, sd_nv7, rfl⟩, by decide⟩
theorem sV7_readWords : Cond.instanceMethod sY7_readWords.1 ∈ sd_tb ∧ Cond.selects sY7_readWords.1.cls sY7_readWords.1 sY7_readWords.1 ∈ sd_tb := ⟨sd_in4_ (i := 19) rfl rfl, sd_in2 (i := 8) rfl rfl⟩
theorem sW7_readTests : Cond.code sY7_readTests.1 sY7_readTests.2.1 sY7_readTests.2.2.1 sY7_readTests.2.2.2 ∈ sd_tb := sd_in4_ (i := 96) rfl rfl
theorem sH7_readTests : Cond.initialized sY7_readTests.1.cls ∈ sd_tb ∧ (sY7_readTests.1.cls ≠ "java/lang/invoke/MethodHandle" ∧ sY7_readTests.1.cls ≠ "java/lang/invoke/VarHandle" ∧ (parseMethodDescriptor sY7_readTests.1.desc).map (fun d => d.parameters.length) = some 2) ∧ sY7_readTests.2.2.1 ≤ 40 := ⟨sd_in1_ (i := 10) rfl rfl, ⟨sd_nm7, sd_nv7, rfl⟩, by decide⟩
theorem sV7_readTests : Cond.instanceMethod sY7_readTests.1 ∈ sd_tb ∧ Cond.selects sY7_readTests.1.cls sY7_readTests.1 sY7_readTests.1 ∈ sd_tb := ⟨sd_in4_ (i := 95) rfl rfl, sd_in2 (i := 12) rfl rfl⟩
theorem sW7_readTest : Cond.code sY7_readTest.1 sY7_readTest.2.1 sY7_readTest.2.2.1 sY7_readTest.2.2.2 ∈ sd_tb := sd_in4_ (i := 100) rfl rfl
theorem sH7_readTest : Cond.initialized sY7_readTest.1.cls ∈ sd_tb ∧ (sY7_readTest.1.cls ≠ "java/lang/invoke/MethodHandle" ∧ sY7_readTest.1.cls ≠ "java/lang/invoke/VarHandle" ∧ (parseMethodDescriptor sY7_readTest.1.desc).map (fun d => d.parameters.length) = some 2) ∧ sY7_readTest.2.2.1 ≤ 40 := ⟨sd_in1_ (i := 10) rfl rfl, ⟨sd_nm7, sd_nv7, rfl⟩, by decide⟩
theorem sV7_readTest : Cond.instanceMethod sY7_readTest.1 ∈ sd_tb ∧ Cond.selects sY7_readTest.1.cls sY7_readTest.1 sY7_readTest.1 ∈ sd_tb := ⟨sd_in4_ (i := 99) rfl rfl, sd_in2 (i := 13) rfl rfl⟩
theorem sW7_readNumber : Cond.code sY7_readNumber.1 sY7_readNumber.2.1 sY7_readNumber.2.2.1 sY7_readNumber.2.2.2 ∈ sd_tb := sd_in4_ (i := 111) rfl rfl
theorem sH7_readNumber : Cond.initialized sY7_readNumber.1.cls ∈ sd_tb ∧ (sY7_readNumber.1.cls ≠ "java/lang/invoke/MethodHandle" ∧ sY7_readNumber.1.cls ≠ "java/lang/invoke/VarHandle" ∧ (parseMethodDescriptor sY7_readNumber.1.desc).map (fun d => d.parameters.length) = some 0) ∧ sY7_readNumber.2.2.1 ≤ 40 := ⟨sd_in1_ (i := 10) rfl rfl, ⟨sd_nm7, sd_nv7, rfl⟩, by decide⟩
theorem sV7_readNumber : Cond.instanceMethod sY7_readNumber.1 ∈ sd_tb ∧ Cond.selects sY7_readNumber.1.cls sY7_readNumber.1 sY7_readNumber.1 ∈ sd_tb := ⟨sd_in4_ (i := 110) rfl rfl, sd_in2 (i := 14) rfl rfl⟩
theorem sW7_readOneOf : Cond.code sY7_readOneOf.1 sY7_readOneOf.2.1 sY7_readOneOf.2.2.1 sY7_readOneOf.2.2.2 ∈ sd_tb := sd_in4_ (i := 27) rfl rfl
theorem sH7_readOneOf : Cond.initialized sY7_readOneOf.1.cls ∈ sd_tb ∧ (sY7_readOneOf.1.cls ≠ "java/lang/invoke/MethodHandle" ∧ sY7_readOneOf.1.cls ≠ "java/lang/invoke/VarHandle" ∧ (parseMethodDescriptor sY7_readOneOf.1.desc).map (fun d => d.parameters.length) = some 4) ∧ sY7_readOneOf.2.2.1 ≤ 40 := ⟨sd_in1_ (i := 10) rfl rfl, ⟨sd_nm7, sd_nv7, rfl⟩, by decide⟩
theorem sV7_readOneOf : Cond.instanceMethod sY7_readOneOf.1 ∈ sd_tb ∧ Cond.selects sY7_readOneOf.1.cls sY7_readOneOf.1 sY7_readOneOf.1 ∈ sd_tb := ⟨sd_in4_ (i := 26) rfl rfl, sd_in2 (i := 9) rfl rfl⟩
theorem sW7_begins : Cond.code sY7_begins.1 sY7_begins.2.1 sY7_begins.2.2.1 sY7_begins.2.2.2 ∈ sd_tb := sd_in4_ (i := 31) rfl rfl
theorem sH7_begins : Cond.initialized sY7_begins.1.cls ∈ sd_tb ∧ (sY7_begins.1.cls ≠ "java/lang/invoke/MethodHandle" ∧ sY7_begins.1.cls ≠ "java/lang/invoke/VarHandle" ∧ (parseMethodDescriptor sY7_begins.1.desc).map (fun d => d.parameters.length) = some 1) ∧ sY7_begins.2.2.1 ≤ 40 := ⟨sd_in1_ (i := 10) rfl rfl, ⟨sd_nm7, sd_nv7, rfl⟩, by decide⟩
theorem sV7_begins : Cond.instanceMethod sY7_begins.1 ∈ sd_tb ∧ Cond.selects sY7_begins.1.cls sY7_begins.1 sY7_begins.1 ∈ sd_tb := ⟨sd_in4_ (i := 30) rfl rfl, sd_in2 (i := 10) rfl rfl⟩
theorem sW7_spells : Cond.code sY7_spells.1 sY7_spells.2.1 sY7_spells.2.2.1 sY7_spells.2.2.2 ∈ sd_tb := sd_in4_ (i := 79) rfl rfl
theorem sH7_spells : Cond.initialized sY7_spells.1.cls ∈ sd_tb ∧ (sY7_spells.1.cls ≠ "java/lang/invoke/MethodHandle" ∧ sY7_spells.1.cls ≠ "java/lang/invoke/VarHandle" ∧ (parseMethodDescriptor sY7_spells.1.desc).map (fun d => d.parameters.length) = some 1) ∧ sY7_spells.2.2.1 ≤ 40 := ⟨sd_in1_ (i := 10) rfl rfl, ⟨sd_nm7, sd_nv7, rfl⟩, by decide⟩
theorem sV7_spells : Cond.instanceMethod sY7_spells.1 ∈ sd_tb ∧ Cond.selects sY7_spells.1.cls sY7_spells.1 sY7_spells.1 ∈ sd_tb := ⟨sd_in4_ (i := 78) rfl rfl, sd_in2 (i := 11) rfl rfl⟩
theorem sW7_sees : Cond.code sY7_sees.1 sY7_sees.2.1 sY7_sees.2.2.1 sY7_sees.2.2.2 ∈ sd_tb := sd_in4_ (i := 16) rfl rfl
theorem sH7_sees : Cond.initialized sY7_sees.1.cls ∈ sd_tb ∧ (sY7_sees.1.cls ≠ "java/lang/invoke/MethodHandle" ∧ sY7_sees.1.cls ≠ "java/lang/invoke/VarHandle" ∧ (parseMethodDescriptor sY7_sees.1.desc).map (fun d => d.parameters.length) = some 1) ∧ sY7_sees.2.2.1 ≤ 40 := ⟨sd_in1_ (i := 10) rfl rfl, ⟨sd_nm7, sd_nv7, rfl⟩, by decide⟩
theorem sV7_sees : Cond.instanceMethod sY7_sees.1 ∈ sd_tb ∧ Cond.selects sY7_sees.1.cls sY7_sees.1 sY7_sees.1 ∈ sd_tb := ⟨sd_in4_ (i := 15) rfl rfl, sd_in2 (i := 7) rfl rfl⟩
theorem sW8_init : Cond.code sY8_init.1 sY8_init.2.1 sY8_init.2.2.1 sY8_init.2.2.2 ∈ sd_tb := sd_in1_ (i := 168) rfl rfl
theorem sH8_init : Cond.initialized sY8_init.1.cls ∈ sd_tb ∧ (sY8_init.1.cls ≠ "java/lang/invoke/MethodHandle" ∧ sY8_init.1.cls ≠ "java/lang/invoke/VarHandle" ∧ (parseMethodDescriptor sY8_init.1.desc).map (fun d => d.parameters.length) = some 0) ∧ sY8_init.2.2.1 ≤ 40 := ⟨sd_in1_ (i := 6) rfl rfl, ⟨sd_nm8, sd_nv8, rfl⟩, by decide⟩
theorem sW8_become : Cond.code sY8_become.1 sY8_become.2.1 sY8_become.2.2.1 sY8_become.2.2.2 ∈ sd_tb := sd_in5_ (i := 197) rfl rfl
theorem sH8_become : Cond.initialized sY8_become.1.cls ∈ sd_tb ∧ (sY8_become.1.cls ≠ "java/lang/invoke/MethodHandle" ∧ sY8_become.1.cls ≠ "java/lang/invoke/VarHandle" ∧ (parseMethodDescriptor sY8_become.1.desc).map (fun d => d.parameters.length) = some 1) ∧ sY8_become.2.2.1 ≤ 40 := ⟨sd_in1_ (i := 6) rfl rfl, ⟨sd_nm8, sd_nv8, rfl⟩, by decide⟩
theorem sV8_become : Cond.instanceMethod sY8_become.1 ∈ sd_tb ∧ Cond.selects sY8_become.1.cls sY8_become.1 sY8_become.1 ∈ sd_tb := ⟨sd_in5_ (i := 195) rfl rfl, sd_in5_ (i := 196) rfl rfl⟩
theorem sW8_add : Cond.code sY8_add.1 sY8_add.2.1 sY8_add.2.2.1 sY8_add.2.2.2 ∈ sd_tb := sd_in4_ (i := 117) rfl rfl
theorem sH8_add : Cond.initialized sY8_add.1.cls ∈ sd_tb ∧ (sY8_add.1.cls ≠ "java/lang/invoke/MethodHandle" ∧ sY8_add.1.cls ≠ "java/lang/invoke/VarHandle" ∧ (parseMethodDescriptor sY8_add.1.desc).map (fun d => d.parameters.length) = some 4) ∧ sY8_add.2.2.1 ≤ 40 := ⟨sd_in1_ (i := 6) rfl rfl, ⟨sd_nm8, sd_nv8, rfl⟩, by decide⟩
theorem sV8_add : Cond.instanceMethod sY8_add.1 ∈ sd_tb ∧ Cond.selects sY8_add.1.cls sY8_add.1 sY8_add.1 ∈ sd_tb := ⟨sd_in4_ (i := 115) rfl rfl, sd_in4_ (i := 116) rfl rfl⟩
theorem sW8_isInForce : Cond.code sY8_isInForce.1 sY8_isInForce.2.1 sY8_isInForce.2.2.1 sY8_isInForce.2.2.2 ∈ sd_tb := sd_in2_ (i := 226) rfl rfl
theorem sH8_isInForce : Cond.initialized sY8_isInForce.1.cls ∈ sd_tb ∧ (sY8_isInForce.1.cls ≠ "java/lang/invoke/MethodHandle" ∧ sY8_isInForce.1.cls ≠ "java/lang/invoke/VarHandle" ∧ (parseMethodDescriptor sY8_isInForce.1.desc).map (fun d => d.parameters.length) = some 2) ∧ sY8_isInForce.2.2.1 ≤ 40 := ⟨sd_in1_ (i := 6) rfl rfl, ⟨sd_nm8, sd_nv8, rfl⟩, by decide⟩
theorem sV8_isInForce : Cond.instanceMethod sY8_isInForce.1 ∈ sd_tb ∧ Cond.selects sY8_isInForce.1.cls sY8_isInForce.1 sY8_isInForce.1 ∈ sd_tb := ⟨sd_in2_ (i := 224) rfl rfl, sd_in2_ (i := 225) rfl rfl⟩
theorem sW8_countInForce : Cond.code sY8_countInForce.1 sY8_countInForce.2.1 sY8_countInForce.2.2.1 sY8_countInForce.2.2.2 ∈ sd_tb := sd_in4_ (i := 134) rfl rfl
theorem sH8_countInForce : Cond.initialized sY8_countInForce.1.cls ∈ sd_tb ∧ (sY8_countInForce.1.cls ≠ "java/lang/invoke/MethodHandle" ∧ sY8_countInForce.1.cls ≠ "java/lang/invoke/VarHandle" ∧ (parseMethodDescriptor sY8_countInForce.1.desc).map (fun d => d.parameters.length) = some 1) ∧ sY8_countInForce.2.2.1 ≤ 40 := ⟨sd_in1_ (i := 6) rfl rfl, ⟨sd_nm8, sd_nv8, rfl⟩, by decide⟩
theorem sV8_countInForce : Cond.instanceMethod sY8_countInForce.1 ∈ sd_tb ∧ Cond.selects sY8_countInForce.1.cls sY8_countInForce.1 sY8_countInForce.1 ∈ sd_tb := ⟨sd_in4_ (i := 132) rfl rfl, sd_in4_ (i := 133) rfl rfl⟩
theorem sW8_unseat : Cond.code sY8_unseat.1 sY8_unseat.2.1 sY8_unseat.2.2.1 sY8_unseat.2.2.2 ∈ sd_tb := sd_in4_ (i := 130) rfl rfl
theorem sH8_unseat : Cond.initialized sY8_unseat.1.cls ∈ sd_tb ∧ (sY8_unseat.1.cls ≠ "java/lang/invoke/MethodHandle" ∧ sY8_unseat.1.cls ≠ "java/lang/invoke/VarHandle" ∧ (parseMethodDescriptor sY8_unseat.1.desc).map (fun d => d.parameters.length) = some 2) ∧ sY8_unseat.2.2.1 ≤ 40 := ⟨sd_in1_ (i := 6) rfl rfl, ⟨sd_nm8, sd_nv8, rfl⟩, by decide⟩
theorem sV8_unseat : Cond.instanceMethod sY8_unseat.1 ∈ sd_tb ∧ Cond.selects sY8_unseat.1.cls sY8_unseat.1 sY8_unseat.1 ∈ sd_tb := ⟨sd_in4_ (i := 128) rfl rfl, sd_in4_ (i := 129) rfl rfl⟩
theorem sW8_hoursInForce : Cond.code sY8_hoursInForce.1 sY8_hoursInForce.2.1 sY8_hoursInForce.2.2.1 sY8_hoursInForce.2.2.2 ∈ sd_tb := sd_in4_ (i := 143) rfl rfl
theorem sH8_hoursInForce : Cond.initialized sY8_hoursInForce.1.cls ∈ sd_tb ∧ (sY8_hoursInForce.1.cls ≠ "java/lang/invoke/MethodHandle" ∧ sY8_hoursInForce.1.cls ≠ "java/lang/invoke/VarHandle" ∧ (parseMethodDescriptor sY8_hoursInForce.1.desc).map (fun d => d.parameters.length) = some 2) ∧ sY8_hoursInForce.2.2.1 ≤ 40 := ⟨sd_in1_ (i := 6) rfl rfl, ⟨sd_nm8, sd_nv8, rfl⟩, by decide⟩
theorem sV8_hoursInForce : Cond.instanceMethod sY8_hoursInForce.1 ∈ sd_tb ∧ Cond.selects sY8_hoursInForce.1.cls sY8_hoursInForce.1 sY8_hoursInForce.1 ∈ sd_tb := ⟨sd_in4_ (i := 141) rfl rfl, sd_in4_ (i := 142) rfl rfl⟩
theorem sW8_clauseFor : Cond.code sY8_clauseFor.1 sY8_clauseFor.2.1 sY8_clauseFor.2.2.1 sY8_clauseFor.2.2.2 ∈ sd_tb := sd_in2_ (i := 222) rfl rfl
theorem sH8_clauseFor : Cond.initialized sY8_clauseFor.1.cls ∈ sd_tb ∧ (sY8_clauseFor.1.cls ≠ "java/lang/invoke/MethodHandle" ∧ sY8_clauseFor.1.cls ≠ "java/lang/invoke/VarHandle" ∧ (parseMethodDescriptor sY8_clauseFor.1.desc).map (fun d => d.parameters.length) = some 3) ∧ sY8_clauseFor.2.2.1 ≤ 40 := ⟨sd_in1_ (i := 6) rfl rfl, ⟨sd_nm8, sd_nv8, rfl⟩, by decide⟩
theorem sV8_clauseFor : Cond.instanceMethod sY8_clauseFor.1 ∈ sd_tb ∧ Cond.selects sY8_clauseFor.1.cls sY8_clauseFor.1 sY8_clauseFor.1 ∈ sd_tb := ⟨sd_in2_ (i := 220) rfl rfl, sd_in2_ (i := 221) rfl rfl⟩
theorem sW8_isSo : Cond.code sY8_isSo.1 sY8_isSo.2.1 sY8_isSo.2.2.1 sY8_isSo.2.2.2 ∈ sd_tb := sd_in2_ (i := 230) rfl rfl
theorem sH8_isSo : Cond.initialized sY8_isSo.1.cls ∈ sd_tb ∧ (sY8_isSo.1.cls ≠ "java/lang/invoke/MethodHandle" ∧ sY8_isSo.1.cls ≠ "java/lang/invoke/VarHandle" ∧ (parseMethodDescriptor sY8_isSo.1.desc).map (fun d => d.parameters.length) = some 2) ∧ sY8_isSo.2.2.1 ≤ 40 := ⟨sd_in1_ (i := 6) rfl rfl, ⟨sd_nm8, sd_nv8, rfl⟩, by decide⟩
theorem sV8_isSo : Cond.instanceMethod sY8_isSo.1 ∈ sd_tb ∧ Cond.selects sY8_isSo.1.cls sY8_isSo.1 sY8_isSo.1 ∈ sd_tb := ⟨sd_in2_ (i := 229) rfl rfl, sd_in2 (i := 1) rfl rfl⟩
theorem sW8_bars : Cond.code sY8_bars.1 sY8_bars.2.1 sY8_bars.2.2.1 sY8_bars.2.2.2 ∈ sd_tb := sd_in2_ (i := 234) rfl rfl
theorem sH8_bars : Cond.initialized sY8_bars.1.cls ∈ sd_tb ∧ (sY8_bars.1.cls ≠ "java/lang/invoke/MethodHandle" ∧ sY8_bars.1.cls ≠ "java/lang/invoke/VarHandle" ∧ (parseMethodDescriptor sY8_bars.1.desc).map (fun d => d.parameters.length) = some 1) ∧ sY8_bars.2.2.1 ≤ 40 := ⟨sd_in1_ (i := 6) rfl rfl, ⟨sd_nm8, sd_nv8, rfl⟩, by decide⟩
theorem sV8_bars : Cond.instanceMethod sY8_bars.1 ∈ sd_tb ∧ Cond.selects sY8_bars.1.cls sY8_bars.1 sY8_bars.1 ∈ sd_tb := ⟨sd_in2_ (i := 232) rfl rfl, sd_in2_ (i := 233) rfl rfl⟩
theorem sW9_init : Cond.code sY9_init.1 sY9_init.2.1 sY9_init.2.2.1 sY9_init.2.2.2 ∈ sd_tb := sd_in1_ (i := 138) rfl rfl
theorem sH9_init : Cond.initialized sY9_init.1.cls ∈ sd_tb ∧ (sY9_init.1.cls ≠ "java/lang/invoke/MethodHandle" ∧ sY9_init.1.cls ≠ "java/lang/invoke/VarHandle" ∧ (parseMethodDescriptor sY9_init.1.desc).map (fun d => d.parameters.length) = some 0) ∧ sY9_init.2.2.1 ≤ 40 := ⟨sd_in1_ (i := 5) rfl rfl, ⟨sd_nm9, sd_nv9, rfl⟩, by decide⟩
theorem sW9_become : Cond.code sY9_become.1 sY9_become.2.1 sY9_become.2.2.1 sY9_become.2.2.2 ∈ sd_tb := sd_in5_ (i := 193) rfl rfl
theorem sH9_become : Cond.initialized sY9_become.1.cls ∈ sd_tb ∧ (sY9_become.1.cls ≠ "java/lang/invoke/MethodHandle" ∧ sY9_become.1.cls ≠ "java/lang/invoke/VarHandle" ∧ (parseMethodDescriptor sY9_become.1.desc).map (fun d => d.parameters.length) = some 1) ∧ sY9_become.2.2.1 ≤ 40 := ⟨sd_in1_ (i := 5) rfl rfl, ⟨sd_nm9, sd_nv9, rfl⟩, by decide⟩
theorem sV9_become : Cond.instanceMethod sY9_become.1 ∈ sd_tb ∧ Cond.selects sY9_become.1.cls sY9_become.1 sY9_become.1 ∈ sd_tb := ⟨sd_in5_ (i := 191) rfl rfl, sd_in5_ (i := 192) rfl rfl⟩
theorem sW9_add : Cond.code sY9_add.1 sY9_add.2.1 sY9_add.2.2.1 sY9_add.2.2.2 ∈ sd_tb := sd_in3_ (i := 155) rfl rfl
theorem sH9_add : Cond.initialized sY9_add.1.cls ∈ sd_tb ∧ (sY9_add.1.cls ≠ "java/lang/invoke/MethodHandle" ∧ sY9_add.1.cls ≠ "java/lang/invoke/VarHandle" ∧ (parseMethodDescriptor sY9_add.1.desc).map (fun d => d.parameters.length) = some 1) ∧ sY9_add.2.2.1 ≤ 40 := ⟨sd_in1_ (i := 5) rfl rfl, ⟨sd_nm9, sd_nv9, rfl⟩, by decide⟩
theorem sV9_add : Cond.instanceMethod sY9_add.1 ∈ sd_tb ∧ Cond.selects sY9_add.1.cls sY9_add.1 sY9_add.1 ∈ sd_tb := ⟨sd_in3_ (i := 153) rfl rfl, sd_in3_ (i := 154) rfl rfl⟩
theorem sW9_restock : Cond.code sY9_restock.1 sY9_restock.2.1 sY9_restock.2.2.1 sY9_restock.2.2.2 ∈ sd_tb := sd_in3_ (i := 168) rfl rfl
theorem sH9_restock : Cond.initialized sY9_restock.1.cls ∈ sd_tb ∧ (sY9_restock.1.cls ≠ "java/lang/invoke/MethodHandle" ∧ sY9_restock.1.cls ≠ "java/lang/invoke/VarHandle" ∧ (parseMethodDescriptor sY9_restock.1.desc).map (fun d => d.parameters.length) = some 1) ∧ sY9_restock.2.2.1 ≤ 40 := ⟨sd_in1_ (i := 5) rfl rfl, ⟨sd_nm9, sd_nv9, rfl⟩, by decide⟩
theorem sV9_restock : Cond.instanceMethod sY9_restock.1 ∈ sd_tb ∧ Cond.selects sY9_restock.1.cls sY9_restock.1 sY9_restock.1 ∈ sd_tb := ⟨sd_in3_ (i := 166) rfl rfl, sd_in3_ (i := 167) rfl rfl⟩
theorem sW9_closeHour : Cond.code sY9_closeHour.1 sY9_closeHour.2.1 sY9_closeHour.2.2.1 sY9_closeHour.2.2.2 ∈ sd_tb := sd_in5_ (i := 114) rfl rfl
theorem sH9_closeHour : Cond.initialized sY9_closeHour.1.cls ∈ sd_tb ∧ (sY9_closeHour.1.cls ≠ "java/lang/invoke/MethodHandle" ∧ sY9_closeHour.1.cls ≠ "java/lang/invoke/VarHandle" ∧ (parseMethodDescriptor sY9_closeHour.1.desc).map (fun d => d.parameters.length) = some 1) ∧ sY9_closeHour.2.2.1 ≤ 40 := ⟨sd_in1_ (i := 5) rfl rfl, ⟨sd_nm9, sd_nv9, rfl⟩, by decide⟩
theorem sV9_closeHour : Cond.instanceMethod sY9_closeHour.1 ∈ sd_tb ∧ Cond.selects sY9_closeHour.1.cls sY9_closeHour.1 sY9_closeHour.1 ∈ sd_tb := ⟨sd_in5_ (i := 112) rfl rfl, sd_in5_ (i := 113) rfl rfl⟩
theorem sW9_goThroughHour : Cond.code sY9_goThroughHour.1 sY9_goThroughHour.2.1 sY9_goThroughHour.2.2.1 sY9_goThroughHour.2.2.2 ∈ sd_tb := sd_in3_ (i := 203) rfl rfl
theorem sH9_goThroughHour : Cond.initialized sY9_goThroughHour.1.cls ∈ sd_tb ∧ (sY9_goThroughHour.1.cls ≠ "java/lang/invoke/MethodHandle" ∧ sY9_goThroughHour.1.cls ≠ "java/lang/invoke/VarHandle" ∧ (parseMethodDescriptor sY9_goThroughHour.1.desc).map (fun d => d.parameters.length) = some 2) ∧ sY9_goThroughHour.2.2.1 ≤ 40 := ⟨sd_in1_ (i := 5) rfl rfl, ⟨sd_nm9, sd_nv9, rfl⟩, by decide⟩
theorem sV9_goThroughHour : Cond.instanceMethod sY9_goThroughHour.1 ∈ sd_tb ∧ Cond.selects sY9_goThroughHour.1.cls sY9_goThroughHour.1 sY9_goThroughHour.1 ∈ sd_tb := ⟨sd_in3_ (i := 202) rfl rfl, sd_in2 (i := 4) rfl rfl⟩
theorem sW9_lackOf : Cond.code sY9_lackOf.1 sY9_lackOf.2.1 sY9_lackOf.2.2.1 sY9_lackOf.2.2.2 ∈ sd_tb := sd_in3_ (i := 208) rfl rfl
theorem sH9_lackOf : Cond.initialized sY9_lackOf.1.cls ∈ sd_tb ∧ (sY9_lackOf.1.cls ≠ "java/lang/invoke/MethodHandle" ∧ sY9_lackOf.1.cls ≠ "java/lang/invoke/VarHandle" ∧ (parseMethodDescriptor sY9_lackOf.1.desc).map (fun d => d.parameters.length) = some 2) ∧ sY9_lackOf.2.2.1 ≤ 40 := ⟨sd_in1_ (i := 5) rfl rfl, ⟨sd_nm9, sd_nv9, rfl⟩, by decide⟩
theorem sV9_lackOf : Cond.instanceMethod sY9_lackOf.1 ∈ sd_tb ∧ Cond.selects sY9_lackOf.1.cls sY9_lackOf.1 sY9_lackOf.1 ∈ sd_tb := ⟨sd_in3_ (i := 207) rfl rfl, sd_in2 (i := 5) rfl rfl⟩
theorem sW9_takeNeed : Cond.code sY9_takeNeed.1 sY9_takeNeed.2.1 sY9_takeNeed.2.2.1 sY9_takeNeed.2.2.2 ∈ sd_tb := sd_in3_ (i := 212) rfl rfl
theorem sH9_takeNeed : Cond.initialized sY9_takeNeed.1.cls ∈ sd_tb ∧ (sY9_takeNeed.1.cls ≠ "java/lang/invoke/MethodHandle" ∧ sY9_takeNeed.1.cls ≠ "java/lang/invoke/VarHandle" ∧ (parseMethodDescriptor sY9_takeNeed.1.desc).map (fun d => d.parameters.length) = some 2) ∧ sY9_takeNeed.2.2.1 ≤ 40 := ⟨sd_in1_ (i := 5) rfl rfl, ⟨sd_nm9, sd_nv9, rfl⟩, by decide⟩
theorem sV9_takeNeed : Cond.instanceMethod sY9_takeNeed.1 ∈ sd_tb ∧ Cond.selects sY9_takeNeed.1.cls sY9_takeNeed.1 sY9_takeNeed.1 ∈ sd_tb := ⟨sd_in3_ (i := 211) rfl rfl, sd_in2 (i := 6) rfl rfl⟩
theorem sW9_hoursTillItStands : Cond.code sY9_hoursTillItStands.1 sY9_hoursTillItStands.2.1 sY9_hoursTillItStands.2.2.1 sY9_hoursTillItStands.2.2.2 ∈ sd_tb := sd_in3_ (i := 193) rfl rfl
theorem sH9_hoursTillItStands : Cond.initialized sY9_hoursTillItStands.1.cls ∈ sd_tb ∧ (sY9_hoursTillItStands.1.cls ≠ "java/lang/invoke/MethodHandle" ∧ sY9_hoursTillItStands.1.cls ≠ "java/lang/invoke/VarHandle" ∧ (parseMethodDescriptor sY9_hoursTillItStands.1.desc).map (fun d => d.parameters.length) = some 2) ∧ sY9_hoursTillItStands.2.2.1 ≤ 40 := ⟨sd_in1_ (i := 5) rfl rfl, ⟨sd_nm9, sd_nv9, rfl⟩, by decide⟩
theorem sV9_hoursTillItStands : Cond.instanceMethod sY9_hoursTillItStands.1 ∈ sd_tb ∧ Cond.selects sY9_hoursTillItStands.1.cls sY9_hoursTillItStands.1 sY9_hoursTillItStands.1 ∈ sd_tb := ⟨sd_in3_ (i := 191) rfl rfl, sd_in3_ (i := 192) rfl rfl⟩
theorem sW9_wouldAllStand : Cond.code sY9_wouldAllStand.1 sY9_wouldAllStand.2.1 sY9_wouldAllStand.2.2.1 sY9_wouldAllStand.2.2.2 ∈ sd_tb := sd_in3_ (i := 233) rfl rfl
theorem sH9_wouldAllStand : Cond.initialized sY9_wouldAllStand.1.cls ∈ sd_tb ∧ (sY9_wouldAllStand.1.cls ≠ "java/lang/invoke/MethodHandle" ∧ sY9_wouldAllStand.1.cls ≠ "java/lang/invoke/VarHandle" ∧ (parseMethodDescriptor sY9_wouldAllStand.1.desc).map (fun d => d.parameters.length) = some 2) ∧ sY9_wouldAllStand.2.2.1 ≤ 40 := ⟨sd_in1_ (i := 5) rfl rfl, ⟨sd_nm9, sd_nv9, rfl⟩, by decide⟩
theorem sV9_wouldAllStand : Cond.instanceMethod sY9_wouldAllStand.1 ∈ sd_tb ∧ Cond.selects sY9_wouldAllStand.1.cls sY9_wouldAllStand.1 sY9_wouldAllStand.1 ∈ sd_tb := ⟨sd_in3_ (i := 231) rfl rfl, sd_in3_ (i := 232) rfl rfl⟩
theorem sW10_init : Cond.code sY10_init.1 sY10_init.2.1 sY10_init.2.2.1 sY10_init.2.2.2 ∈ sd_tb := sd_in1_ (i := 24) rfl rfl
theorem sH10_init : Cond.initialized sY10_init.1.cls ∈ sd_tb ∧ (sY10_init.1.cls ≠ "java/lang/invoke/MethodHandle" ∧ sY10_init.1.cls ≠ "java/lang/invoke/VarHandle" ∧ (parseMethodDescriptor sY10_init.1.desc).map (fun d => d.parameters.length) = some 0) ∧ sY10_init.2.2.1 ≤ 40 := ⟨sd_in1_ (i := 1) rfl rfl, ⟨sd_nm10, sd_nv10, rfl⟩, by decide⟩
theorem sW10_hold : Cond.code sY10_hold.1 sY10_hold.2.1 sY10_hold.2.2.1 sY10_hold.2.2.2 ∈ sd_tb := sd_in2_ (i := 155) rfl rfl
theorem sH10_hold : Cond.initialized sY10_hold.1.cls ∈ sd_tb ∧ (sY10_hold.1.cls ≠ "java/lang/invoke/MethodHandle" ∧ sY10_hold.1.cls ≠ "java/lang/invoke/VarHandle" ∧ (parseMethodDescriptor sY10_hold.1.desc).map (fun d => d.parameters.length) = some 2) ∧ sY10_hold.2.2.1 ≤ 40 := ⟨sd_in1_ (i := 1) rfl rfl, ⟨sd_nm10, sd_nv10, rfl⟩, by decide⟩
theorem sV10_hold : Cond.instanceMethod sY10_hold.1 ∈ sd_tb ∧ Cond.selects sY10_hold.1.cls sY10_hold.1 sY10_hold.1 ∈ sd_tb := ⟨sd_in2_ (i := 153) rfl rfl, sd_in2_ (i := 154) rfl rfl⟩
theorem sW10_as : Cond.code sY10_as.1 sY10_as.2.1 sY10_as.2.2.1 sY10_as.2.2.2 ∈ sd_tb := sd_in2_ (i := 190) rfl rfl
theorem sH10_as : Cond.initialized sY10_as.1.cls ∈ sd_tb ∧ (sY10_as.1.cls ≠ "java/lang/invoke/MethodHandle" ∧ sY10_as.1.cls ≠ "java/lang/invoke/VarHandle" ∧ (parseMethodDescriptor sY10_as.1.desc).map (fun d => d.parameters.length) = some 2) ∧ sY10_as.2.2.1 ≤ 40 := ⟨sd_in1_ (i := 1) rfl rfl, ⟨sd_nm10, sd_nv10, rfl⟩, by decide⟩
theorem sV10_as : Cond.instanceMethod sY10_as.1 ∈ sd_tb ∧ Cond.selects sY10_as.1.cls sY10_as.1 sY10_as.1 ∈ sd_tb := ⟨sd_in2_ (i := 188) rfl rfl, sd_in2_ (i := 189) rfl rfl⟩
theorem sW10_of : Cond.code sY10_of.1 sY10_of.2.1 sY10_of.2.2.1 sY10_of.2.2.2 ∈ sd_tb := sd_in2_ (i := 200) rfl rfl
theorem sH10_of : Cond.initialized sY10_of.1.cls ∈ sd_tb ∧ (sY10_of.1.cls ≠ "java/lang/invoke/MethodHandle" ∧ sY10_of.1.cls ≠ "java/lang/invoke/VarHandle" ∧ (parseMethodDescriptor sY10_of.1.desc).map (fun d => d.parameters.length) = some 2) ∧ sY10_of.2.2.1 ≤ 40 := ⟨sd_in1_ (i := 1) rfl rfl, ⟨sd_nm10, sd_nv10, rfl⟩, by decide⟩
theorem sV10_of : Cond.instanceMethod sY10_of.1 ∈ sd_tb ∧ Cond.selects sY10_of.1.cls sY10_of.1 sY10_of.1 ∈ sd_tb := ⟨sd_in2_ (i := 198) rfl rfl, sd_in2_ (i := 199) rfl rfl⟩
theorem sW10_run : Cond.code sY10_run.1 sY10_run.2.1 sY10_run.2.2.1 sY10_run.2.2.2 ∈ sd_tb := sd_in3_ (i := 3) rfl rfl
theorem sH10_run : Cond.initialized sY10_run.1.cls ∈ sd_tb ∧ (sY10_run.1.cls ≠ "java/lang/invoke/MethodHandle" ∧ sY10_run.1.cls ≠ "java/lang/invoke/VarHandle" ∧ (parseMethodDescriptor sY10_run.1.desc).map (fun d => d.parameters.length) = some 2) ∧ sY10_run.2.2.1 ≤ 40 := ⟨sd_in1_ (i := 1) rfl rfl, ⟨sd_nm10, sd_nv10, rfl⟩, by decide⟩
theorem sV10_run : Cond.instanceMethod sY10_run.1 ∈ sd_tb ∧ Cond.selects sY10_run.1.cls sY10_run.1 sY10_run.1 ∈ sd_tb := ⟨sd_in3_ (i := 1) rfl rfl, sd_in3_ (i := 2) rfl rfl⟩
theorem sW10_shut : Cond.code sY10_shut.1 sY10_shut.2.1 sY10_shut.2.2.1 sY10_shut.2.2.2 ∈ sd_tb := sd_in3_ (i := 10) rfl rfl
theorem sH10_shut : Cond.initialized sY10_shut.1.cls ∈ sd_tb ∧ (sY10_shut.1.cls ≠ "java/lang/invoke/MethodHandle" ∧ sY10_shut.1.cls ≠ "java/lang/invoke/VarHandle" ∧ (parseMethodDescriptor sY10_shut.1.desc).map (fun d => d.parameters.length) = some 2) ∧ sY10_shut.2.2.1 ≤ 40 := ⟨sd_in1_ (i := 1) rfl rfl, ⟨sd_nm10, sd_nv10, rfl⟩, by decide⟩
theorem sV10_shut : Cond.instanceMethod sY10_shut.1 ∈ sd_tb ∧ Cond.selects sY10_shut.1.cls sY10_shut.1 sY10_shut.1 ∈ sd_tb := ⟨sd_in3_ (i := 8) rfl rfl, sd_in3_ (i := 9) rfl rfl⟩
theorem sW10_outside : Cond.code sY10_outside.1 sY10_outside.2.1 sY10_outside.2.2.1 sY10_outside.2.2.2 ∈ sd_tb := sd_in3_ (i := 14) rfl rfl
theorem sH10_outside : Cond.initialized sY10_outside.1.cls ∈ sd_tb ∧ (sY10_outside.1.cls ≠ "java/lang/invoke/MethodHandle" ∧ sY10_outside.1.cls ≠ "java/lang/invoke/VarHandle" ∧ (parseMethodDescriptor sY10_outside.1.desc).map (fun d => d.parameters.length) = some 1) ∧ sY10_outside.2.2.1 ≤ 40 := ⟨sd_in1_ (i := 1) rfl rfl, ⟨sd_nm10, sd_nv10, rfl⟩, by decide⟩
theorem sV10_outside : Cond.instanceMethod sY10_outside.1 ∈ sd_tb ∧ Cond.selects sY10_outside.1.cls sY10_outside.1 sY10_outside.1 ∈ sd_tb := ⟨sd_in3_ (i := 12) rfl rfl, sd_in3_ (i := 13) rfl rfl⟩
theorem sW10_cold : Cond.code sY10_cold.1 sY10_cold.2.1 sY10_cold.2.2.1 sY10_cold.2.2.2 ∈ sd_tb := sd_in3_ (i := 18) rfl rfl
theorem sH10_cold : Cond.initialized sY10_cold.1.cls ∈ sd_tb ∧ (sY10_cold.1.cls ≠ "java/lang/invoke/MethodHandle" ∧ sY10_cold.1.cls ≠ "java/lang/invoke/VarHandle" ∧ (parseMethodDescriptor sY10_cold.1.desc).map (fun d => d.parameters.length) = some 2) ∧ sY10_cold.2.2.1 ≤ 40 := ⟨sd_in1_ (i := 1) rfl rfl, ⟨sd_nm10, sd_nv10, rfl⟩, by decide⟩
theorem sV10_cold : Cond.instanceMethod sY10_cold.1 ∈ sd_tb ∧ Cond.selects sY10_cold.1.cls sY10_cold.1 sY10_cold.1 ∈ sd_tb := ⟨sd_in3_ (i := 16) rfl rfl, sd_in3_ (i := 17) rfl rfl⟩
theorem sW10_man : Cond.code sY10_man.1 sY10_man.2.1 sY10_man.2.2.1 sY10_man.2.2.2 ∈ sd_tb := sd_in3_ (i := 42) rfl rfl
theorem sH10_man : Cond.initialized sY10_man.1.cls ∈ sd_tb ∧ (sY10_man.1.cls ≠ "java/lang/invoke/MethodHandle" ∧ sY10_man.1.cls ≠ "java/lang/invoke/VarHandle" ∧ (parseMethodDescriptor sY10_man.1.desc).map (fun d => d.parameters.length) = some 2) ∧ sY10_man.2.2.1 ≤ 40 := ⟨sd_in1_ (i := 1) rfl rfl, ⟨sd_nm10, sd_nv10, rfl⟩, by decide⟩
theorem sV10_man : Cond.instanceMethod sY10_man.1 ∈ sd_tb ∧ Cond.selects sY10_man.1.cls sY10_man.1 sY10_man.1 ∈ sd_tb := ⟨sd_in3_ (i := 40) rfl rfl, sd_in3_ (i := 41) rfl rfl⟩
theorem sW10_where : Cond.code sY10_where.1 sY10_where.2.1 sY10_where.2.2.1 sY10_where.2.2.2 ∈ sd_tb := sd_in3_ (i := 50) rfl rfl
theorem sH10_where : Cond.initialized sY10_where.1.cls ∈ sd_tb ∧ (sY10_where.1.cls ≠ "java/lang/invoke/MethodHandle" ∧ sY10_where.1.cls ≠ "java/lang/invoke/VarHandle" ∧ (parseMethodDescriptor sY10_where.1.desc).map (fun d => d.parameters.length) = some 2) ∧ sY10_where.2.2.1 ≤ 40 := ⟨sd_in1_ (i := 1) rfl rfl, ⟨sd_nm10, sd_nv10, rfl⟩, by decide⟩
theorem sV10_where : Cond.instanceMethod sY10_where.1 ∈ sd_tb ∧ Cond.selects sY10_where.1.cls sY10_where.1 sY10_where.1 ∈ sd_tb := ⟨sd_in3_ (i := 48) rfl rfl, sd_in3_ (i := 49) rfl rfl⟩
theorem sW10_go : Cond.code sY10_go.1 sY10_go.2.1 sY10_go.2.2.1 sY10_go.2.2.2 ∈ sd_tb := sd_in3_ (i := 63) rfl rfl
theorem sH10_go : Cond.initialized sY10_go.1.cls ∈ sd_tb ∧ (sY10_go.1.cls ≠ "java/lang/invoke/MethodHandle" ∧ sY10_go.1.cls ≠ "java/lang/invoke/VarHandle" ∧ (parseMethodDescriptor sY10_go.1.desc).map (fun d => d.parameters.length) = some 2) ∧ sY10_go.2.2.1 ≤ 40 := ⟨sd_in1_ (i := 1) rfl rfl, ⟨sd_nm10, sd_nv10, rfl⟩, by decide⟩
theorem sV10_go : Cond.instanceMethod sY10_go.1 ∈ sd_tb ∧ Cond.selects sY10_go.1.cls sY10_go.1 sY10_go.1 ∈ sd_tb := ⟨sd_in3_ (i := 61) rfl rfl, sd_in3_ (i := 62) rfl rfl⟩
theorem sW10_hear : Cond.code sY10_hear.1 sY10_hear.2.1 sY10_hear.2.2.1 sY10_hear.2.2.2 ∈ sd_tb := sd_in3_ (i := 77) rfl rfl
theorem sH10_hear : Cond.initialized sY10_hear.1.cls ∈ sd_tb ∧ (sY10_hear.1.cls ≠ "java/lang/invoke/MethodHandle" ∧ sY10_hear.1.cls ≠ "java/lang/invoke/VarHandle" ∧ (parseMethodDescriptor sY10_hear.1.desc).map (fun d => d.parameters.length) = some 2) ∧ sY10_hear.2.2.1 ≤ 40 := ⟨sd_in1_ (i := 1) rfl rfl, ⟨sd_nm10, sd_nv10, rfl⟩, by decide⟩
theorem sV10_hear : Cond.instanceMethod sY10_hear.1 ∈ sd_tb ∧ Cond.selects sY10_hear.1.cls sY10_hear.1 sY10_hear.1 ∈ sd_tb := ⟨sd_in3_ (i := 75) rfl rfl, sd_in3_ (i := 76) rfl rfl⟩
theorem sW10_stay : Cond.code sY10_stay.1 sY10_stay.2.1 sY10_stay.2.2.1 sY10_stay.2.2.2 ∈ sd_tb := sd_in3_ (i := 85) rfl rfl
theorem sH10_stay : Cond.initialized sY10_stay.1.cls ∈ sd_tb ∧ (sY10_stay.1.cls ≠ "java/lang/invoke/MethodHandle" ∧ sY10_stay.1.cls ≠ "java/lang/invoke/VarHandle" ∧ (parseMethodDescriptor sY10_stay.1.desc).map (fun d => d.parameters.length) = some 1) ∧ sY10_stay.2.2.1 ≤ 40 := ⟨sd_in1_ (i := 1) rfl rfl, ⟨sd_nm10, sd_nv10, rfl⟩, by decide⟩
theorem sV10_stay : Cond.instanceMethod sY10_stay.1 ∈ sd_tb ∧ Cond.selects sY10_stay.1.cls sY10_stay.1 sY10_stay.1 ∈ sd_tb := ⟨sd_in3_ (i := 83) rfl rfl, sd_in3_ (i := 84) rfl rfl⟩
theorem sW10_pass : Cond.code sY10_pass.1 sY10_pass.2.1 sY10_pass.2.2.1 sY10_pass.2.2.2 ∈ sd_tb := sd_in3_ (i := 100) rfl rfl
theorem sH10_pass : Cond.initialized sY10_pass.1.cls ∈ sd_tb ∧ (sY10_pass.1.cls ≠ "java/lang/invoke/MethodHandle" ∧ sY10_pass.1.cls ≠ "java/lang/invoke/VarHandle" ∧ (parseMethodDescriptor sY10_pass.1.desc).map (fun d => d.parameters.length) = some 2) ∧ sY10_pass.2.2.1 ≤ 40 := ⟨sd_in1_ (i := 1) rfl rfl, ⟨sd_nm10, sd_nv10, rfl⟩, by decide⟩
theorem sV10_pass : Cond.instanceMethod sY10_pass.1 ∈ sd_tb ∧ Cond.selects sY10_pass.1.cls sY10_pass.1 sY10_pass.1 ∈ sd_tb := ⟨sd_in3_ (i := 98) rfl rfl, sd_in3_ (i := 99) rfl rfl⟩
theorem sW10_food : Cond.code sY10_food.1 sY10_food.2.1 sY10_food.2.2.1 sY10_food.2.2.2 ∈ sd_tb := sd_in3_ (i := 115) rfl rfl
theorem sH10_food : Cond.initialized sY10_food.1.cls ∈ sd_tb ∧ (sY10_food.1.cls ≠ "java/lang/invoke/MethodHandle" ∧ sY10_food.1.cls ≠ "java/lang/invoke/VarHandle" ∧ (parseMethodDescriptor sY10_food.1.desc).map (fun d => d.parameters.length) = some 1) ∧ sY10_food.2.2.1 ≤ 40 := ⟨sd_in1_ (i := 1) rfl rfl, ⟨sd_nm10, sd_nv10, rfl⟩, by decide⟩
theorem sV10_food : Cond.instanceMethod sY10_food.1 ∈ sd_tb ∧ Cond.selects sY10_food.1.cls sY10_food.1 sY10_food.1 ∈ sd_tb := ⟨sd_in3_ (i := 113) rfl rfl, sd_in3_ (i := 114) rfl rfl⟩
theorem sW10_reach : Cond.code sY10_reach.1 sY10_reach.2.1 sY10_reach.2.2.1 sY10_reach.2.2.2 ∈ sd_tb := sd_in3_ (i := 125) rfl rfl
theorem sH10_reach : Cond.initialized sY10_reach.1.cls ∈ sd_tb ∧ (sY10_reach.1.cls ≠ "java/lang/invoke/MethodHandle" ∧ sY10_reach.1.cls ≠ "java/lang/invoke/VarHandle" ∧ (parseMethodDescriptor sY10_reach.1.desc).map (fun d => d.parameters.length) = some 1) ∧ sY10_reach.2.2.1 ≤ 40 := ⟨sd_in1_ (i := 1) rfl rfl, ⟨sd_nm10, sd_nv10, rfl⟩, by decide⟩
theorem sV10_reach : Cond.instanceMethod sY10_reach.1 ∈ sd_tb ∧ Cond.selects sY10_reach.1.cls sY10_reach.1 sY10_reach.1 ∈ sd_tb := ⟨sd_in3_ (i := 123) rfl rfl, sd_in3_ (i := 124) rfl rfl⟩
theorem sW10_whistle : Cond.code sY10_whistle.1 sY10_whistle.2.1 sY10_whistle.2.2.1 sY10_whistle.2.2.2 ∈ sd_tb := sd_in3_ (i := 129) rfl rfl
theorem sH10_whistle : Cond.initialized sY10_whistle.1.cls ∈ sd_tb ∧ (sY10_whistle.1.cls ≠ "java/lang/invoke/MethodHandle" ∧ sY10_whistle.1.cls ≠ "java/lang/invoke/VarHandle" ∧ (parseMethodDescriptor sY10_whistle.1.desc).map (fun d => d.parameters.length) = some 2) ∧ sY10_whistle.2.2.1 ≤ 40 := ⟨sd_in1_ (i := 1) rfl rfl, ⟨sd_nm10, sd_nv10, rfl⟩, by decide⟩
theorem sV10_whistle : Cond.instanceMethod sY10_whistle.1 ∈ sd_tb ∧ Cond.selects sY10_whistle.1.cls sY10_whistle.1 sY10_whistle.1 ∈ sd_tb := ⟨sd_in3_ (i := 127) rfl rfl, sd_in3_ (i := 128) rfl rfl⟩
theorem sW10_force : Cond.code sY10_force.1 sY10_force.2.1 sY10_force.2.2.1 sY10_force.2.2.2 ∈ sd_tb := sd_in3_ (i := 133) rfl rfl
theorem sH10_force : Cond.initialized sY10_force.1.cls ∈ sd_tb ∧ (sY10_force.1.cls ≠ "java/lang/invoke/MethodHandle" ∧ sY10_force.1.cls ≠ "java/lang/invoke/VarHandle" ∧ (parseMethodDescriptor sY10_force.1.desc).map (fun d => d.parameters.length) = some 1) ∧ sY10_force.2.2.1 ≤ 40 := ⟨sd_in1_ (i := 1) rfl rfl, ⟨sd_nm10, sd_nv10, rfl⟩, by decide⟩
theorem sV10_force : Cond.instanceMethod sY10_force.1 ∈ sd_tb ∧ Cond.selects sY10_force.1.cls sY10_force.1 sY10_force.1 ∈ sd_tb := ⟨sd_in3_ (i := 131) rfl rfl, sd_in3_ (i := 132) rfl rfl⟩
theorem sW10_take : Cond.code sY10_take.1 sY10_take.2.1 sY10_take.2.2.1 sY10_take.2.2.2 ∈ sd_tb := sd_in3_ (i := 142) rfl rfl
theorem sH10_take : Cond.initialized sY10_take.1.cls ∈ sd_tb ∧ (sY10_take.1.cls ≠ "java/lang/invoke/MethodHandle" ∧ sY10_take.1.cls ≠ "java/lang/invoke/VarHandle" ∧ (parseMethodDescriptor sY10_take.1.desc).map (fun d => d.parameters.length) = some 1) ∧ sY10_take.2.2.1 ≤ 40 := ⟨sd_in1_ (i := 1) rfl rfl, ⟨sd_nm10, sd_nv10, rfl⟩, by decide⟩
theorem sV10_take : Cond.instanceMethod sY10_take.1 ∈ sd_tb ∧ Cond.selects sY10_take.1.cls sY10_take.1 sY10_take.1 ∈ sd_tb := ⟨sd_in3_ (i := 140) rfl rfl, sd_in3_ (i := 141) rfl rfl⟩
theorem sW10_guard : Cond.code sY10_guard.1 sY10_guard.2.1 sY10_guard.2.2.1 sY10_guard.2.2.2 ∈ sd_tb := sd_in3_ (i := 146) rfl rfl
theorem sH10_guard : Cond.initialized sY10_guard.1.cls ∈ sd_tb ∧ (sY10_guard.1.cls ≠ "java/lang/invoke/MethodHandle" ∧ sY10_guard.1.cls ≠ "java/lang/invoke/VarHandle" ∧ (parseMethodDescriptor sY10_guard.1.desc).map (fun d => d.parameters.length) = some 2) ∧ sY10_guard.2.2.1 ≤ 40 := ⟨sd_in1_ (i := 1) rfl rfl, ⟨sd_nm10, sd_nv10, rfl⟩, by decide⟩
theorem sV10_guard : Cond.instanceMethod sY10_guard.1 ∈ sd_tb ∧ Cond.selects sY10_guard.1.cls sY10_guard.1 sY10_guard.1 ∈ sd_tb := ⟨sd_in3_ (i := 144) rfl rfl, sd_in3_ (i := 145) rfl rfl⟩
theorem sW10_work : Cond.code sY10_work.1 sY10_work.2.1 sY10_work.2.2.1 sY10_work.2.2.2 ∈ sd_tb := sd_in3_ (i := 150) rfl rfl
theorem sH10_work : Cond.initialized sY10_work.1.cls ∈ sd_tb ∧ (sY10_work.1.cls ≠ "java/lang/invoke/MethodHandle" ∧ sY10_work.1.cls ≠ "java/lang/invoke/VarHandle" ∧ (parseMethodDescriptor sY10_work.1.desc).map (fun d => d.parameters.length) = some 1) ∧ sY10_work.2.2.1 ≤ 40 := ⟨sd_in1_ (i := 1) rfl rfl, ⟨sd_nm10, sd_nv10, rfl⟩, by decide⟩
theorem sV10_work : Cond.instanceMethod sY10_work.1 ∈ sd_tb ∧ Cond.selects sY10_work.1.cls sY10_work.1 sY10_work.1 ∈ sd_tb := ⟨sd_in3_ (i := 148) rfl rfl, sd_in3_ (i := 149) rfl rfl⟩
theorem sW10_stock : Cond.code sY10_stock.1 sY10_stock.2.1 sY10_stock.2.2.1 sY10_stock.2.2.2 ∈ sd_tb := sd_in3_ (i := 159) rfl rfl
theorem sH10_stock : Cond.initialized sY10_stock.1.cls ∈ sd_tb ∧ (sY10_stock.1.cls ≠ "java/lang/invoke/MethodHandle" ∧ sY10_stock.1.cls ≠ "java/lang/invoke/VarHandle" ∧ (parseMethodDescriptor sY10_stock.1.desc).map (fun d => d.parameters.length) = some 1) ∧ sY10_stock.2.2.1 ≤ 40 := ⟨sd_in1_ (i := 1) rfl rfl, ⟨sd_nm10, sd_nv10, rfl⟩, by decide⟩
theorem sV10_stock : Cond.instanceMethod sY10_stock.1 ∈ sd_tb ∧ Cond.selects sY10_stock.1.cls sY10_stock.1 sY10_stock.1 ∈ sd_tb := ⟨sd_in3_ (i := 157) rfl rfl, sd_in3_ (i := 158) rfl rfl⟩
theorem sW10_part : Cond.code sY10_part.1 sY10_part.2.1 sY10_part.2.2.1 sY10_part.2.2.2 ∈ sd_tb := sd_in3_ (i := 172) rfl rfl
theorem sH10_part : Cond.initialized sY10_part.1.cls ∈ sd_tb ∧ (sY10_part.1.cls ≠ "java/lang/invoke/MethodHandle" ∧ sY10_part.1.cls ≠ "java/lang/invoke/VarHandle" ∧ (parseMethodDescriptor sY10_part.1.desc).map (fun d => d.parameters.length) = some 1) ∧ sY10_part.2.2.1 ≤ 40 := ⟨sd_in1_ (i := 1) rfl rfl, ⟨sd_nm10, sd_nv10, rfl⟩, by decide⟩
theorem sV10_part : Cond.instanceMethod sY10_part.1 ∈ sd_tb ∧ Cond.selects sY10_part.1.cls sY10_part.1 sY10_part.1 ∈ sd_tb := ⟨sd_in3_ (i := 170) rfl rfl, sd_in3_ (i := 171) rfl rfl⟩
theorem sW10_last : Cond.code sY10_last.1 sY10_last.2.1 sY10_last.2.2.1 sY10_last.2.2.2 ∈ sd_tb := sd_in3_ (i := 176) rfl rfl
theorem sH10_last : Cond.initialized sY10_last.1.cls ∈ sd_tb ∧ (sY10_last.1.cls ≠ "java/lang/invoke/MethodHandle" ∧ sY10_last.1.cls ≠ "java/lang/invoke/VarHandle" ∧ (parseMethodDescriptor sY10_last.1.desc).map (fun d => d.parameters.length) = some 2) ∧ sY10_last.2.2.1 ≤ 40 := ⟨sd_in1_ (i := 1) rfl rfl, ⟨sd_nm10, sd_nv10, rfl⟩, by decide⟩
theorem sV10_last : Cond.instanceMethod sY10_last.1 ∈ sd_tb ∧ Cond.selects sY10_last.1.cls sY10_last.1 sY10_last.1 ∈ sd_tb := ⟨sd_in3_ (i := 174) rfl rfl, sd_in3_ (i := 175) rfl rfl⟩
theorem sW10_least : Cond.code sY10_least.1 sY10_least.2.1 sY10_least.2.2.1 sY10_least.2.2.2 ∈ sd_tb := sd_in3_ (i := 217) rfl rfl
theorem sH10_least : Cond.initialized sY10_least.1.cls ∈ sd_tb ∧ (sY10_least.1.cls ≠ "java/lang/invoke/MethodHandle" ∧ sY10_least.1.cls ≠ "java/lang/invoke/VarHandle" ∧ (parseMethodDescriptor sY10_least.1.desc).map (fun d => d.parameters.length) = some 1) ∧ sY10_least.2.2.1 ≤ 40 := ⟨sd_in1_ (i := 1) rfl rfl, ⟨sd_nm10, sd_nv10, rfl⟩, by decide⟩
theorem sV10_least : Cond.instanceMethod sY10_least.1 ∈ sd_tb ∧ Cond.selects sY10_least.1.cls sY10_least.1 sY10_least.1 ∈ sd_tb := ⟨sd_in3_ (i := 215) rfl rfl, sd_in3_ (i := 216) rfl rfl⟩
theorem sW10_feed : Cond.code sY10_feed.1 sY10_feed.2.1 sY10_feed.2.2.1 sY10_feed.2.2.2 ∈ sd_tb := sd_in4_ (i := 0) rfl rfl
theorem sH10_feed : Cond.initialized sY10_feed.1.cls ∈ sd_tb ∧ (sY10_feed.1.cls ≠ "java/lang/invoke/MethodHandle" ∧ sY10_feed.1.cls ≠ "java/lang/invoke/VarHandle" ∧ (parseMethodDescriptor sY10_feed.1.desc).map (fun d => d.parameters.length) = some 2) ∧ sY10_feed.2.2.1 ≤ 40 := ⟨sd_in1_ (i := 1) rfl rfl, ⟨sd_nm10, sd_nv10, rfl⟩, by decide⟩
theorem sV10_feed : Cond.instanceMethod sY10_feed.1 ∈ sd_tb ∧ Cond.selects sY10_feed.1.cls sY10_feed.1 sY10_feed.1 ∈ sd_tb := ⟨sd_in3_ (i := 238) rfl rfl, sd_in3_ (i := 239) rfl rfl⟩
theorem sW10_text : Cond.code sY10_text.1 sY10_text.2.1 sY10_text.2.2.1 sY10_text.2.2.2 ∈ sd_tb := sd_in4_ (i := 8) rfl rfl
theorem sH10_text : Cond.initialized sY10_text.1.cls ∈ sd_tb ∧ (sY10_text.1.cls ≠ "java/lang/invoke/MethodHandle" ∧ sY10_text.1.cls ≠ "java/lang/invoke/VarHandle" ∧ (parseMethodDescriptor sY10_text.1.desc).map (fun d => d.parameters.length) = some 3) ∧ sY10_text.2.2.1 ≤ 40 := ⟨sd_in1_ (i := 1) rfl rfl, ⟨sd_nm10, sd_nv10, rfl⟩, by decide⟩
theorem sV10_text : Cond.instanceMethod sY10_text.1 ∈ sd_tb ∧ Cond.selects sY10_text.1.cls sY10_text.1 sY10_text.1 ∈ sd_tb := ⟨sd_in4_ (i := 6) rfl rfl, sd_in4_ (i := 7) rfl rfl⟩
theorem sW10_wipe : Cond.code sY10_wipe.1 sY10_wipe.2.1 sY10_wipe.2.2.1 sY10_wipe.2.2.2 ∈ sd_tb := sd_in4_ (i := 122) rfl rfl
theorem sH10_wipe : Cond.initialized sY10_wipe.1.cls ∈ sd_tb ∧ (sY10_wipe.1.cls ≠ "java/lang/invoke/MethodHandle" ∧ sY10_wipe.1.cls ≠ "java/lang/invoke/VarHandle" ∧ (parseMethodDescriptor sY10_wipe.1.desc).map (fun d => d.parameters.length) = some 0) ∧ sY10_wipe.2.2.1 ≤ 40 := ⟨sd_in1_ (i := 1) rfl rfl, ⟨sd_nm10, sd_nv10, rfl⟩, by decide⟩
theorem sV10_wipe : Cond.instanceMethod sY10_wipe.1 ∈ sd_tb ∧ Cond.selects sY10_wipe.1.cls sY10_wipe.1 sY10_wipe.1 ∈ sd_tb := ⟨sd_in4_ (i := 120) rfl rfl, sd_in4_ (i := 121) rfl rfl⟩
theorem sW10_shares : Cond.code sY10_shares.1 sY10_shares.2.1 sY10_shares.2.2.1 sY10_shares.2.2.2 ∈ sd_tb := sd_in4_ (i := 126) rfl rfl
theorem sH10_shares : Cond.initialized sY10_shares.1.cls ∈ sd_tb ∧ (sY10_shares.1.cls ≠ "java/lang/invoke/MethodHandle" ∧ sY10_shares.1.cls ≠ "java/lang/invoke/VarHandle" ∧ (parseMethodDescriptor sY10_shares.1.desc).map (fun d => d.parameters.length) = some 1) ∧ sY10_shares.2.2.1 ≤ 40 := ⟨sd_in1_ (i := 1) rfl rfl, ⟨sd_nm10, sd_nv10, rfl⟩, by decide⟩
theorem sV10_shares : Cond.instanceMethod sY10_shares.1 ∈ sd_tb ∧ Cond.selects sY10_shares.1.cls sY10_shares.1 sY10_shares.1 ∈ sd_tb := ⟨sd_in4_ (i := 124) rfl rfl, sd_in4_ (i := 125) rfl rfl⟩
theorem sW10_between : Cond.code sY10_between.1 sY10_between.2.1 sY10_between.2.2.1 sY10_between.2.2.2 ∈ sd_tb := sd_in4_ (i := 139) rfl rfl
theorem sH10_between : Cond.initialized sY10_between.1.cls ∈ sd_tb ∧ (sY10_between.1.cls ≠ "java/lang/invoke/MethodHandle" ∧ sY10_between.1.cls ≠ "java/lang/invoke/VarHandle" ∧ (parseMethodDescriptor sY10_between.1.desc).map (fun d => d.parameters.length) = some 1) ∧ sY10_between.2.2.1 ≤ 40 := ⟨sd_in1_ (i := 1) rfl rfl, ⟨sd_nm10, sd_nv10, rfl⟩, by decide⟩
theorem sV10_between : Cond.instanceMethod sY10_between.1 ∈ sd_tb ∧ Cond.selects sY10_between.1.cls sY10_between.1 sY10_between.1 ∈ sd_tb := ⟨sd_in4_ (i := 137) rfl rfl, sd_in4_ (i := 138) rfl rfl⟩
theorem sW10_barred : Cond.code sY10_barred.1 sY10_barred.2.1 sY10_barred.2.2.1 sY10_barred.2.2.2 ∈ sd_tb := sd_in4_ (i := 149) rfl rfl
theorem sH10_barred : Cond.initialized sY10_barred.1.cls ∈ sd_tb ∧ (sY10_barred.1.cls ≠ "java/lang/invoke/MethodHandle" ∧ sY10_barred.1.cls ≠ "java/lang/invoke/VarHandle" ∧ (parseMethodDescriptor sY10_barred.1.desc).map (fun d => d.parameters.length) = some 2) ∧ sY10_barred.2.2.1 ≤ 40 := ⟨sd_in1_ (i := 1) rfl rfl, ⟨sd_nm10, sd_nv10, rfl⟩, by decide⟩
theorem sV10_barred : Cond.instanceMethod sY10_barred.1 ∈ sd_tb ∧ Cond.selects sY10_barred.1.cls sY10_barred.1 sY10_barred.1 ∈ sd_tb := ⟨sd_in4_ (i := 147) rfl rfl, sd_in4_ (i := 148) rfl rfl⟩
theorem sW10_why : Cond.code sY10_why.1 sY10_why.2.1 sY10_why.2.2.1 sY10_why.2.2.2 ∈ sd_tb := sd_in4_ (i := 153) rfl rfl
theorem sH10_why : Cond.initialized sY10_why.1.cls ∈ sd_tb ∧ (sY10_why.1.cls ≠ "java/lang/invoke/MethodHandle" ∧ sY10_why.1.cls ≠ "java/lang/invoke/VarHandle" ∧ (parseMethodDescriptor sY10_why.1.desc).map (fun d => d.parameters.length) = some 2) ∧ sY10_why.2.2.1 ≤ 40 := ⟨sd_in1_ (i := 1) rfl rfl, ⟨sd_nm10, sd_nv10, rfl⟩, by decide⟩
theorem sV10_why : Cond.instanceMethod sY10_why.1 ∈ sd_tb ∧ Cond.selects sY10_why.1.cls sY10_why.1 sY10_why.1 ∈ sd_tb := ⟨sd_in4_ (i := 151) rfl rfl, sd_in4_ (i := 152) rfl rfl⟩
theorem sW10_rumour : Cond.code sY10_rumour.1 sY10_rumour.2.1 sY10_rumour.2.2.1 sY10_rumour.2.2.2 ∈ sd_tb := sd_in4_ (i := 157) rfl rfl
theorem sH10_rumour : Cond.initialized sY10_rumour.1.cls ∈ sd_tb ∧ (sY10_rumour.1.cls ≠ "java/lang/invoke/MethodHandle" ∧ sY10_rumour.1.cls ≠ "java/lang/invoke/VarHandle" ∧ (parseMethodDescriptor sY10_rumour.1.desc).map (fun d => d.parameters.length) = some 2) ∧ sY10_rumour.2.2.1 ≤ 40 := ⟨sd_in1_ (i := 1) rfl rfl, ⟨sd_nm10, sd_nv10, rfl⟩, by decide⟩
theorem sV10_rumour : Cond.instanceMethod sY10_rumour.1 ∈ sd_tb ∧ Cond.selects sY10_rumour.1.cls sY10_rumour.1 sY10_rumour.1 ∈ sd_tb := ⟨sd_in4_ (i := 155) rfl rfl, sd_in4_ (i := 156) rfl rfl⟩
theorem sW10_out : Cond.code sY10_out.1 sY10_out.2.1 sY10_out.2.2.1 sY10_out.2.2.2 ∈ sd_tb := sd_in4_ (i := 165) rfl rfl
theorem sH10_out : Cond.initialized sY10_out.1.cls ∈ sd_tb ∧ (sY10_out.1.cls ≠ "java/lang/invoke/MethodHandle" ∧ sY10_out.1.cls ≠ "java/lang/invoke/VarHandle" ∧ (parseMethodDescriptor sY10_out.1.desc).map (fun d => d.parameters.length) = some 2) ∧ sY10_out.2.2.1 ≤ 40 := ⟨sd_in1_ (i := 1) rfl rfl, ⟨sd_nm10, sd_nv10, rfl⟩, by decide⟩
theorem sV10_out : Cond.instanceMethod sY10_out.1 ∈ sd_tb ∧ Cond.selects sY10_out.1.cls sY10_out.1 sY10_out.1 ∈ sd_tb := ⟨sd_in4_ (i := 163) rfl rfl, sd_in4_ (i := 164) rfl rfl⟩
theorem sW10_squads : Cond.code sY10_squads.1 sY10_squads.2.1 sY10_squads.2.2.1 sY10_squads.2.2.2 ∈ sd_tb := sd_in4_ (i := 169) rfl rfl
theorem sH10_squads : Cond.initialized sY10_squads.1.cls ∈ sd_tb ∧ (sY10_squads.1.cls ≠ "java/lang/invoke/MethodHandle" ∧ sY10_squads.1.cls ≠ "java/lang/invoke/VarHandle" ∧ (parseMethodDescriptor sY10_squads.1.desc).map (fun d => d.parameters.length) = some 1) ∧ sY10_squads.2.2.1 ≤ 40 := ⟨sd_in1_ (i := 1) rfl rfl, ⟨sd_nm10, sd_nv10, rfl⟩, by decide⟩
theorem sV10_squads : Cond.instanceMethod sY10_squads.1 ∈ sd_tb ∧ Cond.selects sY10_squads.1.cls sY10_squads.1 sY10_squads.1 ∈ sd_tb := ⟨sd_in4_ (i := 167) rfl rfl, sd_in4_ (i := 168) rfl rfl⟩
theorem sW10_believe : Cond.code sY10_believe.1 sY10_believe.2.1 sY10_believe.2.2.1 sY10_believe.2.2.2 ∈ sd_tb := sd_in4_ (i := 173) rfl rfl
theorem sH10_believe : Cond.initialized sY10_believe.1.cls ∈ sd_tb ∧ (sY10_believe.1.cls ≠ "java/lang/invoke/MethodHandle" ∧ sY10_believe.1.cls ≠ "java/lang/invoke/VarHandle" ∧ (parseMethodDescriptor sY10_believe.1.desc).map (fun d => d.parameters.length) = some 0) ∧ sY10_believe.2.2.1 ≤ 40 := ⟨sd_in1_ (i := 1) rfl rfl, ⟨sd_nm10, sd_nv10, rfl⟩, by decide⟩
theorem sV10_believe : Cond.instanceMethod sY10_believe.1 ∈ sd_tb ∧ Cond.selects sY10_believe.1.cls sY10_believe.1 sY10_believe.1 ∈ sd_tb := ⟨sd_in4_ (i := 171) rfl rfl, sd_in4_ (i := 172) rfl rfl⟩
theorem sW10_feint : Cond.code sY10_feint.1 sY10_feint.2.1 sY10_feint.2.2.1 sY10_feint.2.2.2 ∈ sd_tb := sd_in4_ (i := 204) rfl rfl
theorem sH10_feint : Cond.initialized sY10_feint.1.cls ∈ sd_tb ∧ (sY10_feint.1.cls ≠ "java/lang/invoke/MethodHandle" ∧ sY10_feint.1.cls ≠ "java/lang/invoke/VarHandle" ∧ (parseMethodDescriptor sY10_feint.1.desc).map (fun d => d.parameters.length) = some 1) ∧ sY10_feint.2.2.1 ≤ 40 := ⟨sd_in1_ (i := 1) rfl rfl, ⟨sd_nm10, sd_nv10, rfl⟩, by decide⟩
theorem sV10_feint : Cond.instanceMethod sY10_feint.1 ∈ sd_tb ∧ Cond.selects sY10_feint.1.cls sY10_feint.1 sY10_feint.1 ∈ sd_tb := ⟨sd_in4_ (i := 202) rfl rfl, sd_in4_ (i := 203) rfl rfl⟩
theorem sW10_copyTerm : Cond.code sY10_copyTerm.1 sY10_copyTerm.2.1 sY10_copyTerm.2.2.1 sY10_copyTerm.2.2.2 ∈ sd_tb := sd_in4_ (i := 216) rfl rfl
theorem sH10_copyTerm : Cond.initialized sY10_copyTerm.1.cls ∈ sd_tb ∧ (sY10_copyTerm.1.cls ≠ "java/lang/invoke/MethodHandle" ∧ sY10_copyTerm.1.cls ≠ "java/lang/invoke/VarHandle" ∧ (parseMethodDescriptor sY10_copyTerm.1.desc).map (fun d => d.parameters.length) = some 3) ∧ sY10_copyTerm.2.2.1 ≤ 40 := ⟨sd_in1_ (i := 1) rfl rfl, ⟨sd_nm10, sd_nv10, rfl⟩, by decide⟩
theorem sV10_copyTerm : Cond.instanceMethod sY10_copyTerm.1 ∈ sd_tb ∧ Cond.selects sY10_copyTerm.1.cls sY10_copyTerm.1 sY10_copyTerm.1 ∈ sd_tb := ⟨sd_in4_ (i := 214) rfl rfl, sd_in4_ (i := 215) rfl rfl⟩
theorem sW10_unlike : Cond.code sY10_unlike.1 sY10_unlike.2.1 sY10_unlike.2.2.1 sY10_unlike.2.2.2 ∈ sd_tb := sd_in4_ (i := 224) rfl rfl
theorem sH10_unlike : Cond.initialized sY10_unlike.1.cls ∈ sd_tb ∧ (sY10_unlike.1.cls ≠ "java/lang/invoke/MethodHandle" ∧ sY10_unlike.1.cls ≠ "java/lang/invoke/VarHandle" ∧ (parseMethodDescriptor sY10_unlike.1.desc).map (fun d => d.parameters.length) = some 0) ∧ sY10_unlike.2.2.1 ≤ 40 := ⟨sd_in1_ (i := 1) rfl rfl, ⟨sd_nm10, sd_nv10, rfl⟩, by decide⟩
theorem sV10_unlike : Cond.instanceMethod sY10_unlike.1 ∈ sd_tb ∧ Cond.selects sY10_unlike.1.cls sY10_unlike.1 sY10_unlike.1 ∈ sd_tb := ⟨sd_in4_ (i := 222) rfl rfl, sd_in4_ (i := 223) rfl rfl⟩
theorem sW10_sign : Cond.code sY10_sign.1 sY10_sign.2.1 sY10_sign.2.2.1 sY10_sign.2.2.2 ∈ sd_tb := sd_in4_ (i := 233) rfl rfl
theorem sH10_sign : Cond.initialized sY10_sign.1.cls ∈ sd_tb ∧ (sY10_sign.1.cls ≠ "java/lang/invoke/MethodHandle" ∧ sY10_sign.1.cls ≠ "java/lang/invoke/VarHandle" ∧ (parseMethodDescriptor sY10_sign.1.desc).map (fun d => d.parameters.length) = some 3) ∧ sY10_sign.2.2.1 ≤ 40 := ⟨sd_in1_ (i := 1) rfl rfl, ⟨sd_nm10, sd_nv10, rfl⟩, by decide⟩
theorem sV10_sign : Cond.instanceMethod sY10_sign.1 ∈ sd_tb ∧ Cond.selects sY10_sign.1.cls sY10_sign.1 sY10_sign.1 ∈ sd_tb := ⟨sd_in4_ (i := 231) rfl rfl, sd_in4_ (i := 232) rfl rfl⟩
theorem sW10_list : Cond.code sY10_list.1 sY10_list.2.1 sY10_list.2.2.1 sY10_list.2.2.2 ∈ sd_tb := sd_in5_ (i := 20) rfl rfl
theorem sH10_list : Cond.initialized sY10_list.1.cls ∈ sd_tb ∧ (sY10_list.1.cls ≠ "java/lang/invoke/MethodHandle" ∧ sY10_list.1.cls ≠ "java/lang/invoke/VarHandle" ∧ (parseMethodDescriptor sY10_list.1.desc).map (fun d => d.parameters.length) = some 3) ∧ sY10_list.2.2.1 ≤ 40 := ⟨sd_in1_ (i := 1) rfl rfl, ⟨sd_nm10, sd_nv10, rfl⟩, by decide⟩
theorem sV10_list : Cond.instanceMethod sY10_list.1 ∈ sd_tb ∧ Cond.selects sY10_list.1.cls sY10_list.1 sY10_list.1 ∈ sd_tb := ⟨sd_in5_ (i := 18) rfl rfl, sd_in5_ (i := 19) rfl rfl⟩
theorem sW10_want : Cond.code sY10_want.1 sY10_want.2.1 sY10_want.2.2.1 sY10_want.2.2.2 ∈ sd_tb := sd_in5_ (i := 24) rfl rfl
theorem sH10_want : Cond.initialized sY10_want.1.cls ∈ sd_tb ∧ (sY10_want.1.cls ≠ "java/lang/invoke/MethodHandle" ∧ sY10_want.1.cls ≠ "java/lang/invoke/VarHandle" ∧ (parseMethodDescriptor sY10_want.1.desc).map (fun d => d.parameters.length) = some 1) ∧ sY10_want.2.2.1 ≤ 40 := ⟨sd_in1_ (i := 1) rfl rfl, ⟨sd_nm10, sd_nv10, rfl⟩, by decide⟩
theorem sV10_want : Cond.instanceMethod sY10_want.1 ∈ sd_tb ∧ Cond.selects sY10_want.1.cls sY10_want.1 sY10_want.1 ∈ sd_tb := ⟨sd_in5_ (i := 22) rfl rfl, sd_in5_ (i := 23) rfl rfl⟩
theorem sW10_move : Cond.code sY10_move.1 sY10_move.2.1 sY10_move.2.2.1 sY10_move.2.2.2 ∈ sd_tb := sd_in5_ (i := 41) rfl rfl
theorem sH10_move : Cond.initialized sY10_move.1.cls ∈ sd_tb ∧ (sY10_move.1.cls ≠ "java/lang/invoke/MethodHandle" ∧ sY10_move.1.cls ≠ "java/lang/invoke/VarHandle" ∧ (parseMethodDescriptor sY10_move.1.desc).map (fun d => d.parameters.length) = some 4) ∧ sY10_move.2.2.1 ≤ 40 := ⟨sd_in1_ (i := 1) rfl rfl, ⟨sd_nm10, sd_nv10, rfl⟩, by decide⟩
theorem sV10_move : Cond.instanceMethod sY10_move.1 ∈ sd_tb ∧ Cond.selects sY10_move.1.cls sY10_move.1 sY10_move.1 ∈ sd_tb := ⟨sd_in5_ (i := 39) rfl rfl, sd_in5_ (i := 40) rfl rfl⟩
theorem sW10_play : Cond.code sY10_play.1 sY10_play.2.1 sY10_play.2.2.1 sY10_play.2.2.2 ∈ sd_tb := sd_in5_ (i := 45) rfl rfl
theorem sH10_play : Cond.initialized sY10_play.1.cls ∈ sd_tb ∧ (sY10_play.1.cls ≠ "java/lang/invoke/MethodHandle" ∧ sY10_play.1.cls ≠ "java/lang/invoke/VarHandle" ∧ (parseMethodDescriptor sY10_play.1.desc).map (fun d => d.parameters.length) = some 3) ∧ sY10_play.2.2.1 ≤ 40 := ⟨sd_in1_ (i := 1) rfl rfl, ⟨sd_nm10, sd_nv10, rfl⟩, by decide⟩
theorem sV10_play : Cond.instanceMethod sY10_play.1 ∈ sd_tb ∧ Cond.selects sY10_play.1.cls sY10_play.1 sY10_play.1 ∈ sd_tb := ⟨sd_in5_ (i := 43) rfl rfl, sd_in5_ (i := 44) rfl rfl⟩
theorem sW10_best : Cond.code sY10_best.1 sY10_best.2.1 sY10_best.2.2.1 sY10_best.2.2.2 ∈ sd_tb := sd_in5_ (i := 71) rfl rfl
theorem sH10_best : Cond.initialized sY10_best.1.cls ∈ sd_tb ∧ (sY10_best.1.cls ≠ "java/lang/invoke/MethodHandle" ∧ sY10_best.1.cls ≠ "java/lang/invoke/VarHandle" ∧ (parseMethodDescriptor sY10_best.1.desc).map (fun d => d.parameters.length) = some 3) ∧ sY10_best.2.2.1 ≤ 40 := ⟨sd_in1_ (i := 1) rfl rfl, ⟨sd_nm10, sd_nv10, rfl⟩, by decide⟩
theorem sV10_best : Cond.instanceMethod sY10_best.1 ∈ sd_tb ∧ Cond.selects sY10_best.1.cls sY10_best.1 sY10_best.1 ∈ sd_tb := ⟨sd_in5_ (i := 69) rfl rfl, sd_in5_ (i := 70) rfl rfl⟩
theorem sW10_judge : Cond.code sY10_judge.1 sY10_judge.2.1 sY10_judge.2.2.1 sY10_judge.2.2.2 ∈ sd_tb := sd_in5_ (i := 80) rfl rfl
theorem sH10_judge : Cond.initialized sY10_judge.1.cls ∈ sd_tb ∧ (sY10_judge.1.cls ≠ "java/lang/invoke/MethodHandle" ∧ sY10_judge.1.cls ≠ "java/lang/invoke/VarHandle" ∧ (parseMethodDescriptor sY10_judge.1.desc).map (fun d => d.parameters.length) = some 3) ∧ sY10_judge.2.2.1 ≤ 40 := ⟨sd_in1_ (i := 1) rfl rfl, ⟨sd_nm10, sd_nv10, rfl⟩, by decide⟩
theorem sV10_judge : Cond.instanceMethod sY10_judge.1 ∈ sd_tb ∧ Cond.selects sY10_judge.1.cls sY10_judge.1 sY10_judge.1 ∈ sd_tb := ⟨sd_in5_ (i := 78) rfl rfl, sd_in5_ (i := 79) rfl rfl⟩
theorem sW10_tick : Cond.code sY10_tick.1 sY10_tick.2.1 sY10_tick.2.2.1 sY10_tick.2.2.2 ∈ sd_tb := sd_in5_ (i := 89) rfl rfl
theorem sH10_tick : Cond.initialized sY10_tick.1.cls ∈ sd_tb ∧ (sY10_tick.1.cls ≠ "java/lang/invoke/MethodHandle" ∧ sY10_tick.1.cls ≠ "java/lang/invoke/VarHandle" ∧ (parseMethodDescriptor sY10_tick.1.desc).map (fun d => d.parameters.length) = some 1) ∧ sY10_tick.2.2.1 ≤ 40 := ⟨sd_in1_ (i := 1) rfl rfl, ⟨sd_nm10, sd_nv10, rfl⟩, by decide⟩
theorem sV10_tick : Cond.instanceMethod sY10_tick.1 ∈ sd_tb ∧ Cond.selects sY10_tick.1.cls sY10_tick.1 sY10_tick.1 ∈ sd_tb := ⟨sd_in5_ (i := 87) rfl rfl, sd_in5_ (i := 88) rfl rfl⟩
theorem sW10_book : Cond.code sY10_book.1 sY10_book.2.1 sY10_book.2.2.1 sY10_book.2.2.2 ∈ sd_tb := sd_in5_ (i := 137) rfl rfl
theorem sH10_book : Cond.initialized sY10_book.1.cls ∈ sd_tb ∧ (sY10_book.1.cls ≠ "java/lang/invoke/MethodHandle" ∧ sY10_book.1.cls ≠ "java/lang/invoke/VarHandle" ∧ (parseMethodDescriptor sY10_book.1.desc).map (fun d => d.parameters.length) = some 2) ∧ sY10_book.2.2.1 ≤ 40 := ⟨sd_in1_ (i := 1) rfl rfl, ⟨sd_nm10, sd_nv10, rfl⟩, by decide⟩
theorem sV10_book : Cond.instanceMethod sY10_book.1 ∈ sd_tb ∧ Cond.selects sY10_book.1.cls sY10_book.1 sY10_book.1 ∈ sd_tb := ⟨sd_in5_ (i := 135) rfl rfl, sd_in5_ (i := 136) rfl rfl⟩
theorem sW10_check : Cond.code sY10_check.1 sY10_check.2.1 sY10_check.2.2.1 sY10_check.2.2.2 ∈ sd_tb := sd_in5_ (i := 145) rfl rfl
theorem sH10_check : Cond.initialized sY10_check.1.cls ∈ sd_tb ∧ (sY10_check.1.cls ≠ "java/lang/invoke/MethodHandle" ∧ sY10_check.1.cls ≠ "java/lang/invoke/VarHandle" ∧ (parseMethodDescriptor sY10_check.1.desc).map (fun d => d.parameters.length) = some 2) ∧ sY10_check.2.2.1 ≤ 40 := ⟨sd_in1_ (i := 1) rfl rfl, ⟨sd_nm10, sd_nv10, rfl⟩, by decide⟩
theorem sV10_check : Cond.instanceMethod sY10_check.1 ∈ sd_tb ∧ Cond.selects sY10_check.1.cls sY10_check.1 sY10_check.1 ∈ sd_tb := ⟨sd_in5_ (i := 143) rfl rfl, sd_in5_ (i := 144) rfl rfl⟩
theorem sW10_sheet : Cond.code sY10_sheet.1 sY10_sheet.2.1 sY10_sheet.2.2.1 sY10_sheet.2.2.2 ∈ sd_tb := sd_in5_ (i := 149) rfl rfl
theorem sH10_sheet : Cond.initialized sY10_sheet.1.cls ∈ sd_tb ∧ (sY10_sheet.1.cls ≠ "java/lang/invoke/MethodHandle" ∧ sY10_sheet.1.cls ≠ "java/lang/invoke/VarHandle" ∧ (parseMethodDescriptor sY10_sheet.1.desc).map (fun d => d.parameters.length) = some 3) ∧ sY10_sheet.2.2.1 ≤ 40 := ⟨sd_in1_ (i := 1) rfl rfl, ⟨sd_nm10, sd_nv10, rfl⟩, by decide⟩
theorem sV10_sheet : Cond.instanceMethod sY10_sheet.1 ∈ sd_tb ∧ Cond.selects sY10_sheet.1.cls sY10_sheet.1 sY10_sheet.1 ∈ sd_tb := ⟨sd_in5_ (i := 147) rfl rfl, sd_in5_ (i := 148) rfl rfl⟩
theorem sW10_write : Cond.code sY10_write.1 sY10_write.2.1 sY10_write.2.2.1 sY10_write.2.2.2 ∈ sd_tb := sd_in5_ (i := 158) rfl rfl
theorem sH10_write : Cond.initialized sY10_write.1.cls ∈ sd_tb ∧ (sY10_write.1.cls ≠ "java/lang/invoke/MethodHandle" ∧ sY10_write.1.cls ≠ "java/lang/invoke/VarHandle" ∧ (parseMethodDescriptor sY10_write.1.desc).map (fun d => d.parameters.length) = some 3) ∧ sY10_write.2.2.1 ≤ 40 := ⟨sd_in1_ (i := 1) rfl rfl, ⟨sd_nm10, sd_nv10, rfl⟩, by decide⟩
theorem sV10_write : Cond.instanceMethod sY10_write.1 ∈ sd_tb ∧ Cond.selects sY10_write.1.cls sY10_write.1 sY10_write.1 ∈ sd_tb := ⟨sd_in5_ (i := 156) rfl rfl, sd_in5_ (i := 157) rfl rfl⟩
theorem sW10_copy : Cond.code sY10_copy.1 sY10_copy.2.1 sY10_copy.2.2.1 sY10_copy.2.2.2 ∈ sd_tb := sd_in5_ (i := 166) rfl rfl
theorem sH10_copy : Cond.initialized sY10_copy.1.cls ∈ sd_tb ∧ (sY10_copy.1.cls ≠ "java/lang/invoke/MethodHandle" ∧ sY10_copy.1.cls ≠ "java/lang/invoke/VarHandle" ∧ (parseMethodDescriptor sY10_copy.1.desc).map (fun d => d.parameters.length) = some 5) ∧ sY10_copy.2.2.1 ≤ 40 := ⟨sd_in1_ (i := 1) rfl rfl, ⟨sd_nm10, sd_nv10, rfl⟩, by decide⟩
theorem sV10_copy : Cond.instanceMethod sY10_copy.1 ∈ sd_tb ∧ Cond.selects sY10_copy.1.cls sY10_copy.1 sY10_copy.1 ∈ sd_tb := ⟨sd_in5_ (i := 164) rfl rfl, sd_in5_ (i := 165) rfl rfl⟩
theorem sW10_image : Cond.code sY10_image.1 sY10_image.2.1 sY10_image.2.2.1 sY10_image.2.2.2 ∈ sd_tb := sd_in5_ (i := 175) rfl rfl
theorem sH10_image : Cond.initialized sY10_image.1.cls ∈ sd_tb ∧ (sY10_image.1.cls ≠ "java/lang/invoke/MethodHandle" ∧ sY10_image.1.cls ≠ "java/lang/invoke/VarHandle" ∧ (parseMethodDescriptor sY10_image.1.desc).map (fun d => d.parameters.length) = some 0) ∧ sY10_image.2.2.1 ≤ 40 := ⟨sd_in1_ (i := 1) rfl rfl, ⟨sd_nm10, sd_nv10, rfl⟩, by decide⟩
theorem sV10_image : Cond.instanceMethod sY10_image.1 ∈ sd_tb ∧ Cond.selects sY10_image.1.cls sY10_image.1 sY10_image.1 ∈ sd_tb := ⟨sd_in5_ (i := 173) rfl rfl, sd_in5_ (i := 174) rfl rfl⟩
theorem sW10_undo : Cond.code sY10_undo.1 sY10_undo.2.1 sY10_undo.2.2.1 sY10_undo.2.2.2 ∈ sd_tb := sd_in5_ (i := 217) rfl rfl
theorem sH10_undo : Cond.initialized sY10_undo.1.cls ∈ sd_tb ∧ (sY10_undo.1.cls ≠ "java/lang/invoke/MethodHandle" ∧ sY10_undo.1.cls ≠ "java/lang/invoke/VarHandle" ∧ (parseMethodDescriptor sY10_undo.1.desc).map (fun d => d.parameters.length) = some 0) ∧ sY10_undo.2.2.1 ≤ 40 := ⟨sd_in1_ (i := 1) rfl rfl, ⟨sd_nm10, sd_nv10, rfl⟩, by decide⟩
theorem sV10_undo : Cond.instanceMethod sY10_undo.1 ∈ sd_tb ∧ Cond.selects sY10_undo.1.cls sY10_undo.1 sY10_undo.1 ∈ sd_tb := ⟨sd_in5_ (i := 215) rfl rfl, sd_in5_ (i := 216) rfl rfl⟩
theorem sW10_tear : Cond.code sY10_tear.1 sY10_tear.2.1 sY10_tear.2.2.1 sY10_tear.2.2.2 ∈ sd_tb := sd_in5_ (i := 221) rfl rfl
theorem sH10_tear : Cond.initialized sY10_tear.1.cls ∈ sd_tb ∧ (sY10_tear.1.cls ≠ "java/lang/invoke/MethodHandle" ∧ sY10_tear.1.cls ≠ "java/lang/invoke/VarHandle" ∧ (parseMethodDescriptor sY10_tear.1.desc).map (fun d => d.parameters.length) = some 0) ∧ sY10_tear.2.2.1 ≤ 40 := ⟨sd_in1_ (i := 1) rfl rfl, ⟨sd_nm10, sd_nv10, rfl⟩, by decide⟩
theorem sV10_tear : Cond.instanceMethod sY10_tear.1 ∈ sd_tb ∧ Cond.selects sY10_tear.1.cls sY10_tear.1 sY10_tear.1 ∈ sd_tb := ⟨sd_in5_ (i := 219) rfl rfl, sd_in5_ (i := 220) rfl rfl⟩
theorem sW10_count : Cond.code sY10_count.1 sY10_count.2.1 sY10_count.2.2.1 sY10_count.2.2.2 ∈ sd_tb := sd_in5_ (i := 225) rfl rfl
theorem sH10_count : Cond.initialized sY10_count.1.cls ∈ sd_tb ∧ (sY10_count.1.cls ≠ "java/lang/invoke/MethodHandle" ∧ sY10_count.1.cls ≠ "java/lang/invoke/VarHandle" ∧ (parseMethodDescriptor sY10_count.1.desc).map (fun d => d.parameters.length) = some 1) ∧ sY10_count.2.2.1 ≤ 40 := ⟨sd_in1_ (i := 1) rfl rfl, ⟨sd_nm10, sd_nv10, rfl⟩, by decide⟩
theorem sV10_count : Cond.instanceMethod sY10_count.1 ∈ sd_tb ∧ Cond.selects sY10_count.1.cls sY10_count.1 sY10_count.1 ∈ sd_tb := ⟨sd_in5_ (i := 223) rfl rfl, sd_in5_ (i := 224) rfl rfl⟩
theorem sW10_status : Cond.code sY10_status.1 sY10_status.2.1 sY10_status.2.2.1 sY10_status.2.2.2 ∈ sd_tb := sd_in5_ (i := 231) rfl rfl
theorem sH10_status : Cond.initialized sY10_status.1.cls ∈ sd_tb ∧ (sY10_status.1.cls ≠ "java/lang/invoke/MethodHandle" ∧ sY10_status.1.cls ≠ "java/lang/invoke/VarHandle" ∧ (parseMethodDescriptor sY10_status.1.desc).map (fun d => d.parameters.length) = some 1) ∧ sY10_status.2.2.1 ≤ 40 := ⟨sd_in1_ (i := 1) rfl rfl, ⟨sd_nm10, sd_nv10, rfl⟩, by decide⟩
theorem sV10_status : Cond.instanceMethod sY10_status.1 ∈ sd_tb ∧ Cond.selects sY10_status.1.cls sY10_status.1 sY10_status.1 ∈ sd_tb := ⟨sd_in5_ (i := 229) rfl rfl, sd_in5_ (i := 230) rfl rfl⟩
theorem sW10_found : Cond.code sY10_found.1 sY10_found.2.1 sY10_found.2.2.1 sY10_found.2.2.2 ∈ sd_tb := sd_in2_ (i := 173) rfl rfl
theorem sH10_found : Cond.initialized sY10_found.1.cls ∈ sd_tb ∧ (sY10_found.1.cls ≠ "java/lang/invoke/MethodHandle" ∧ sY10_found.1.cls ≠ "java/lang/invoke/VarHandle" ∧ (parseMethodDescriptor sY10_found.1.desc).map (fun d => d.parameters.length) = some 1) ∧ sY10_found.2.2.1 ≤ 40 := ⟨sd_in1_ (i := 1) rfl rfl, ⟨sd_nm10, sd_nv10, rfl⟩, by decide⟩
theorem sV10_found : Cond.instanceMethod sY10_found.1 ∈ sd_tb ∧ Cond.selects sY10_found.1.cls sY10_found.1 sY10_found.1 ∈ sd_tb := ⟨sd_in2_ (i := 172) rfl rfl, sd_in2 (i := 0) rfl rfl⟩
theorem sW10_orNone : Cond.code sY10_orNone.1 sY10_orNone.2.1 sY10_orNone.2.2.1 sY10_orNone.2.2.2 ∈ sd_tb := sd_in3_ (i := 37) rfl rfl
theorem sH10_orNone : Cond.initialized sY10_orNone.1.cls ∈ sd_tb ∧ (sY10_orNone.1.cls ≠ "java/lang/invoke/MethodHandle" ∧ sY10_orNone.1.cls ≠ "java/lang/invoke/VarHandle" ∧ (parseMethodDescriptor sY10_orNone.1.desc).map (fun d => d.parameters.length) = some 1) ∧ sY10_orNone.2.2.1 ≤ 40 := ⟨sd_in1_ (i := 1) rfl rfl, ⟨sd_nm10, sd_nv10, rfl⟩, by decide⟩
theorem sV10_orNone : Cond.instanceMethod sY10_orNone.1 ∈ sd_tb ∧ Cond.selects sY10_orNone.1.cls sY10_orNone.1 sY10_orNone.1 ∈ sd_tb := ⟨sd_in3_ (i := 36) rfl rfl, sd_in2 (i := 2) rfl rfl⟩
theorem sW10_turn : Cond.code sY10_turn.1 sY10_turn.2.1 sY10_turn.2.2.1 sY10_turn.2.2.2 ∈ sd_tb := sd_in3_ (i := 6) rfl rfl
theorem sH10_turn : Cond.initialized sY10_turn.1.cls ∈ sd_tb ∧ (sY10_turn.1.cls ≠ "java/lang/invoke/MethodHandle" ∧ sY10_turn.1.cls ≠ "java/lang/invoke/VarHandle" ∧ (parseMethodDescriptor sY10_turn.1.desc).map (fun d => d.parameters.length) = some 3) ∧ sY10_turn.2.2.1 ≤ 40 := ⟨sd_in1_ (i := 1) rfl rfl, ⟨sd_nm10, sd_nv10, rfl⟩, by decide⟩
theorem sT10_turn : Cond.static sY10_turn.1 ∈ sd_tb := sd_in3_ (i := 5) rfl rfl
theorem sW10_areGame : Cond.code sY10_areGame.1 sY10_areGame.2.1 sY10_areGame.2.2.1 sY10_areGame.2.2.2 ∈ sd_tb := sd_in5_ (i := 48) rfl rfl
theorem sH10_areGame : Cond.initialized sY10_areGame.1.cls ∈ sd_tb ∧ (sY10_areGame.1.cls ≠ "java/lang/invoke/MethodHandle" ∧ sY10_areGame.1.cls ≠ "java/lang/invoke/VarHandle" ∧ (parseMethodDescriptor sY10_areGame.1.desc).map (fun d => d.parameters.length) = some 3) ∧ sY10_areGame.2.2.1 ≤ 40 := ⟨sd_in1_ (i := 1) rfl rfl, ⟨sd_nm10, sd_nv10, rfl⟩, by decide⟩
theorem sT10_areGame : Cond.static sY10_areGame.1 ∈ sd_tb := sd_in5_ (i := 47) rfl rfl
theorem sW10_isWithin : Cond.code sY10_isWithin.1 sY10_isWithin.2.1 sY10_isWithin.2.2.1 sY10_isWithin.2.2.2 ∈ sd_tb := sd_in2_ (i := 162) rfl rfl
theorem sH10_isWithin : Cond.initialized sY10_isWithin.1.cls ∈ sd_tb ∧ (sY10_isWithin.1.cls ≠ "java/lang/invoke/MethodHandle" ∧ sY10_isWithin.1.cls ≠ "java/lang/invoke/VarHandle" ∧ (parseMethodDescriptor sY10_isWithin.1.desc).map (fun d => d.parameters.length) = some 3) ∧ sY10_isWithin.2.2.1 ≤ 40 := ⟨sd_in1_ (i := 1) rfl rfl, ⟨sd_nm10, sd_nv10, rfl⟩, by decide⟩
theorem sT10_isWithin : Cond.static sY10_isWithin.1 ∈ sd_tb := sd_in2_ (i := 161) rfl rfl
theorem sW10_isIn : Cond.code sY10_isIn.1 sY10_isIn.2.1 sY10_isIn.2.2.1 sY10_isIn.2.2.2 ∈ sd_tb := sd_in2_ (i := 213) rfl rfl
theorem sH10_isIn : Cond.initialized sY10_isIn.1.cls ∈ sd_tb ∧ (sY10_isIn.1.cls ≠ "java/lang/invoke/MethodHandle" ∧ sY10_isIn.1.cls ≠ "java/lang/invoke/VarHandle" ∧ (parseMethodDescriptor sY10_isIn.1.desc).map (fun d => d.parameters.length) = some 2) ∧ sY10_isIn.2.2.1 ≤ 40 := ⟨sd_in1_ (i := 1) rfl rfl, ⟨sd_nm10, sd_nv10, rfl⟩, by decide⟩
theorem sT10_isIn : Cond.static sY10_isIn.1 ∈ sd_tb := sd_in2_ (i := 212) rfl rfl
theorem sW10_asNumber : Cond.code sY10_asNumber.1 sY10_asNumber.2.1 sY10_asNumber.2.2.1 sY10_asNumber.2.2.2 ∈ sd_tb := sd_in2_ (i := 186) rfl rfl
theorem sH10_asNumber : Cond.initialized sY10_asNumber.1.cls ∈ sd_tb ∧ (sY10_asNumber.1.cls ≠ "java/lang/invoke/MethodHandle" ∧ sY10_asNumber.1.cls ≠ "java/lang/invoke/VarHandle" ∧ (parseMethodDescriptor sY10_asNumber.1.desc).map (fun d => d.parameters.length) = some 1) ∧ sY10_asNumber.2.2.1 ≤ 40 := ⟨sd_in1_ (i := 1) rfl rfl, ⟨sd_nm10, sd_nv10, rfl⟩, by decide⟩
theorem sT10_asNumber : Cond.static sY10_asNumber.1 ∈ sd_tb := sd_in2_ (i := 185) rfl rfl
theorem sW10_sumOf : Cond.code sY10_sumOf.1 sY10_sumOf.2.1 sY10_sumOf.2.2.1 sY10_sumOf.2.2.2 ∈ sd_tb := sd_in5_ (i := 36) rfl rfl
theorem sH10_sumOf : Cond.initialized sY10_sumOf.1.cls ∈ sd_tb ∧ (sY10_sumOf.1.cls ≠ "java/lang/invoke/MethodHandle" ∧ sY10_sumOf.1.cls ≠ "java/lang/invoke/VarHandle" ∧ (parseMethodDescriptor sY10_sumOf.1.desc).map (fun d => d.parameters.length) = some 1) ∧ sY10_sumOf.2.2.1 ≤ 40 := ⟨sd_in1_ (i := 1) rfl rfl, ⟨sd_nm10, sd_nv10, rfl⟩, by decide⟩
theorem sT10_sumOf : Cond.static sY10_sumOf.1 ∈ sd_tb := sd_in5_ (i := 35) rfl rfl
theorem sW10_fill : Cond.code sY10_fill.1 sY10_fill.2.1 sY10_fill.2.2.1 sY10_fill.2.2.2 ∈ sd_tb := sd_in3_ (i := 188) rfl rfl
theorem sH10_fill : Cond.initialized sY10_fill.1.cls ∈ sd_tb ∧ (sY10_fill.1.cls ≠ "java/lang/invoke/MethodHandle" ∧ sY10_fill.1.cls ≠ "java/lang/invoke/VarHandle" ∧ (parseMethodDescriptor sY10_fill.1.desc).map (fun d => d.parameters.length) = some 2) ∧ sY10_fill.2.2.1 ≤ 40 := ⟨sd_in1_ (i := 1) rfl rfl, ⟨sd_nm10, sd_nv10, rfl⟩, by decide⟩
theorem sT10_fill : Cond.static sY10_fill.1 ∈ sd_tb := sd_in3_ (i := 187) rfl rfl
theorem sW10_copyRow : Cond.code sY10_copyRow.1 sY10_copyRow.2.1 sY10_copyRow.2.2.1 sY10_copyRow.2.2.2 ∈ sd_tb := sd_in3_ (i := 196) rfl rfl
theorem sH10_copyRow : Cond.initialized sY10_copyRow.1.cls ∈ sd_tb ∧ (sY10_copyRow.1.cls ≠ "java/lang/invoke/MethodHandle" ∧ sY10_copyRow.1.cls ≠ "java/lang/invoke/VarHandle" ∧ (parseMethodDescriptor sY10_copyRow.1.desc).map (fun d => d.parameters.length) = some 2) ∧ sY10_copyRow.2.2.1 ≤ 40 := ⟨sd_in1_ (i := 1) rfl rfl, ⟨sd_nm10, sd_nv10, rfl⟩, by decide⟩
theorem sT10_copyRow : Cond.static sY10_copyRow.1 ∈ sd_tb := sd_in3_ (i := 195) rfl rfl
theorem sW10_nextSubset : Cond.code sY10_nextSubset.1 sY10_nextSubset.2.1 sY10_nextSubset.2.2.1 sY10_nextSubset.2.2.2 ∈ sd_tb := sd_in3_ (i := 236) rfl rfl
theorem sH10_nextSubset : Cond.initialized sY10_nextSubset.1.cls ∈ sd_tb ∧ (sY10_nextSubset.1.cls ≠ "java/lang/invoke/MethodHandle" ∧ sY10_nextSubset.1.cls ≠ "java/lang/invoke/VarHandle" ∧ (parseMethodDescriptor sY10_nextSubset.1.desc).map (fun d => d.parameters.length) = some 2) ∧ sY10_nextSubset.2.2.1 ≤ 40 := ⟨sd_in1_ (i := 1) rfl rfl, ⟨sd_nm10, sd_nv10, rfl⟩, by decide⟩
theorem sT10_nextSubset : Cond.static sY10_nextSubset.1 ∈ sd_tb := sd_in3_ (i := 235) rfl rfl
theorem sW11_init : Cond.code sY11_init.1 sY11_init.2.1 sY11_init.2.2.1 sY11_init.2.2.2 ∈ sd_tb := sd_in5_ (i := 237) rfl rfl
theorem sH11_init : Cond.initialized sY11_init.1.cls ∈ sd_tb ∧ (sY11_init.1.cls ≠ "java/lang/invoke/MethodHandle" ∧ sY11_init.1.cls ≠ "java/lang/invoke/VarHandle" ∧ (parseMethodDescriptor sY11_init.1.desc).map (fun d => d.parameters.length) = some 0) ∧ sY11_init.2.2.1 ≤ 40 := ⟨sd_in1_ (i := 12) rfl rfl, ⟨sd_nm11, sd_nv11, rfl⟩, by decide⟩
theorem sW11_finding : Cond.code sY11_finding.1 sY11_finding.2.1 sY11_finding.2.2.1 sY11_finding.2.2.2 ∈ sd_tb := sd_in6_ (i := 98) rfl rfl
theorem sH11_finding : Cond.initialized sY11_finding.1.cls ∈ sd_tb ∧ (sY11_finding.1.cls ≠ "java/lang/invoke/MethodHandle" ∧ sY11_finding.1.cls ≠ "java/lang/invoke/VarHandle" ∧ (parseMethodDescriptor sY11_finding.1.desc).map (fun d => d.parameters.length) = some 1) ∧ sY11_finding.2.2.1 ≤ 40 := ⟨sd_in1_ (i := 12) rfl rfl, ⟨sd_nm11, sd_nv11, rfl⟩, by decide⟩
theorem sV11_finding : Cond.instanceMethod sY11_finding.1 ∈ sd_tb ∧ Cond.selects sY11_finding.1.cls sY11_finding.1 sY11_finding.1 ∈ sd_tb := ⟨sd_in6_ (i := 97) rfl rfl, sd_in2 (i := 30) rfl rfl⟩
theorem sW11_in : Cond.code sY11_in.1 sY11_in.2.1 sY11_in.2.2.1 sY11_in.2.2.2 ∈ sd_tb := sd_in6_ (i := 78) rfl rfl
theorem sH11_in : Cond.initialized sY11_in.1.cls ∈ sd_tb ∧ (sY11_in.1.cls ≠ "java/lang/invoke/MethodHandle" ∧ sY11_in.1.cls ≠ "java/lang/invoke/VarHandle" ∧ (parseMethodDescriptor sY11_in.1.desc).map (fun d => d.parameters.length) = some 3) ∧ sY11_in.2.2.1 ≤ 40 := ⟨sd_in1_ (i := 12) rfl rfl, ⟨sd_nm11, sd_nv11, rfl⟩, by decide⟩
theorem sT11_in : Cond.static sY11_in.1 ∈ sd_tb := sd_in6_ (i := 77) rfl rfl
theorem sW11_isHold : Cond.code sY11_isHold.1 sY11_isHold.2.1 sY11_isHold.2.2.1 sY11_isHold.2.2.2 ∈ sd_tb := sd_in6_ (i := 90) rfl rfl
theorem sH11_isHold : Cond.initialized sY11_isHold.1.cls ∈ sd_tb ∧ (sY11_isHold.1.cls ≠ "java/lang/invoke/MethodHandle" ∧ sY11_isHold.1.cls ≠ "java/lang/invoke/VarHandle" ∧ (parseMethodDescriptor sY11_isHold.1.desc).map (fun d => d.parameters.length) = some 1) ∧ sY11_isHold.2.2.1 ≤ 40 := ⟨sd_in1_ (i := 12) rfl rfl, ⟨sd_nm11, sd_nv11, rfl⟩, by decide⟩
theorem sV11_isHold : Cond.instanceMethod sY11_isHold.1 ∈ sd_tb ∧ Cond.selects sY11_isHold.1.cls sY11_isHold.1 sY11_isHold.1 ∈ sd_tb := ⟨sd_in6_ (i := 89) rfl rfl, sd_in2 (i := 28) rfl rfl⟩
theorem sW11_kindOf : Cond.code sY11_kindOf.1 sY11_kindOf.2.1 sY11_kindOf.2.2.1 sY11_kindOf.2.2.2 ∈ sd_tb := sd_in6_ (i := 94) rfl rfl
theorem sH11_kindOf : Cond.initialized sY11_kindOf.1.cls ∈ sd_tb ∧ (sY11_kindOf.1.cls ≠ "java/lang/invoke/MethodHandle" ∧ sY11_kindOf.1.cls ≠ "java/lang/invoke/VarHandle" ∧ (parseMethodDescriptor sY11_kindOf.1.desc).map (fun d => d.parameters.length) = some 1) ∧ sY11_kindOf.2.2.1 ≤ 40 := ⟨sd_in1_ (i := 12) rfl rfl, ⟨sd_nm11, sd_nv11, rfl⟩, by decide⟩
theorem sV11_kindOf : Cond.instanceMethod sY11_kindOf.1 ∈ sd_tb ∧ Cond.selects sY11_kindOf.1.cls sY11_kindOf.1 sY11_kindOf.1 ∈ sd_tb := ⟨sd_in6_ (i := 93) rfl rfl, sd_in2 (i := 29) rfl rfl⟩
theorem sW11_isShop : Cond.code sY11_isShop.1 sY11_isShop.2.1 sY11_isShop.2.2.1 sY11_isShop.2.2.2 ∈ sd_tb := sd_in6_ (i := 86) rfl rfl
theorem sH11_isShop : Cond.initialized sY11_isShop.1.cls ∈ sd_tb ∧ (sY11_isShop.1.cls ≠ "java/lang/invoke/MethodHandle" ∧ sY11_isShop.1.cls ≠ "java/lang/invoke/VarHandle" ∧ (parseMethodDescriptor sY11_isShop.1.desc).map (fun d => d.parameters.length) = some 1) ∧ sY11_isShop.2.2.1 ≤ 40 := ⟨sd_in1_ (i := 12) rfl rfl, ⟨sd_nm11, sd_nv11, rfl⟩, by decide⟩
theorem sV11_isShop : Cond.instanceMethod sY11_isShop.1 ∈ sd_tb ∧ Cond.selects sY11_isShop.1.cls sY11_isShop.1 sY11_isShop.1 ∈ sd_tb := ⟨sd_in6_ (i := 85) rfl rfl, sd_in2 (i := 27) rfl rfl⟩
theorem sW11_isOf : Cond.code sY11_isOf.1 sY11_isOf.2.1 sY11_isOf.2.2.1 sY11_isOf.2.2.2 ∈ sd_tb := sd_in6_ (i := 107) rfl rfl
theorem sH11_isOf : Cond.initialized sY11_isOf.1.cls ∈ sd_tb ∧ (sY11_isOf.1.cls ≠ "java/lang/invoke/MethodHandle" ∧ sY11_isOf.1.cls ≠ "java/lang/invoke/VarHandle" ∧ (parseMethodDescriptor sY11_isOf.1.desc).map (fun d => d.parameters.length) = some 2) ∧ sY11_isOf.2.2.1 ≤ 40 := ⟨sd_in1_ (i := 12) rfl rfl, ⟨sd_nm11, sd_nv11, rfl⟩, by decide⟩
theorem sV11_isOf : Cond.instanceMethod sY11_isOf.1 ∈ sd_tb ∧ Cond.selects sY11_isOf.1.cls sY11_isOf.1 sY11_isOf.1 ∈ sd_tb := ⟨sd_in6_ (i := 106) rfl rfl, sd_in2 (i := 32) rfl rfl⟩
theorem sW11_manyOf : Cond.code sY11_manyOf.1 sY11_manyOf.2.1 sY11_manyOf.2.2.1 sY11_manyOf.2.2.2 ∈ sd_tb := sd_in6_ (i := 103) rfl rfl
theorem sH11_manyOf : Cond.initialized sY11_manyOf.1.cls ∈ sd_tb ∧ (sY11_manyOf.1.cls ≠ "java/lang/invoke/MethodHandle" ∧ sY11_manyOf.1.cls ≠ "java/lang/invoke/VarHandle" ∧ (parseMethodDescriptor sY11_manyOf.1.desc).map (fun d => d.parameters.length) = some 1) ∧ sY11_manyOf.2.2.1 ≤ 40 := ⟨sd_in1_ (i := 12) rfl rfl, ⟨sd_nm11, sd_nv11, rfl⟩, by decide⟩
theorem sV11_manyOf : Cond.instanceMethod sY11_manyOf.1 ∈ sd_tb ∧ Cond.selects sY11_manyOf.1.cls sY11_manyOf.1 sY11_manyOf.1 ∈ sd_tb := ⟨sd_in6_ (i := 102) rfl rfl, sd_in2 (i := 31) rfl rfl⟩
theorem sW11_areNumbers : Cond.code sY11_areNumbers.1 sY11_areNumbers.2.1 sY11_areNumbers.2.2.1 sY11_areNumbers.2.2.2 ∈ sd_tb := sd_in6_ (i := 82) rfl rfl
theorem sH11_areNumbers : Cond.initialized sY11_areNumbers.1.cls ∈ sd_tb ∧ (sY11_areNumbers.1.cls ≠ "java/lang/invoke/MethodHandle" ∧ sY11_areNumbers.1.cls ≠ "java/lang/invoke/VarHandle" ∧ (parseMethodDescriptor sY11_areNumbers.1.desc).map (fun d => d.parameters.length) = some 3) ∧ sY11_areNumbers.2.2.1 ≤ 40 := ⟨sd_in1_ (i := 12) rfl rfl, ⟨sd_nm11, sd_nv11, rfl⟩, by decide⟩
theorem sV11_areNumbers : Cond.instanceMethod sY11_areNumbers.1 ∈ sd_tb ∧ Cond.selects sY11_areNumbers.1.cls sY11_areNumbers.1 sY11_areNumbers.1 ∈ sd_tb := ⟨sd_in6_ (i := 81) rfl rfl, sd_in2 (i := 26) rfl rfl⟩
theorem sW11_hold : Cond.code sY11_hold.1 sY11_hold.2.1 sY11_hold.2.2.1 sY11_hold.2.2.2 ∈ sd_tb := sd_in6_ (i := 75) rfl rfl
theorem sH11_hold : Cond.initialized sY11_hold.1.cls ∈ sd_tb ∧ (sY11_hold.1.cls ≠ "java/lang/invoke/MethodHandle" ∧ sY11_hold.1.cls ≠ "java/lang/invoke/VarHandle" ∧ (parseMethodDescriptor sY11_hold.1.desc).map (fun d => d.parameters.length) = some 2) ∧ sY11_hold.2.2.1 ≤ 40 := ⟨sd_in1_ (i := 12) rfl rfl, ⟨sd_nm11, sd_nv11, rfl⟩, by decide⟩
theorem sV11_hold : Cond.instanceMethod sY11_hold.1 ∈ sd_tb ∧ Cond.selects sY11_hold.1.cls sY11_hold.1 sY11_hold.1 ∈ sd_tb := ⟨sd_in6_ (i := 73) rfl rfl, sd_in6_ (i := 74) rfl rfl⟩
theorem sW11_as : Cond.code sY11_as.1 sY11_as.2.1 sY11_as.2.2.1 sY11_as.2.2.2 ∈ sd_tb := sd_in6_ (i := 111) rfl rfl
theorem sH11_as : Cond.initialized sY11_as.1.cls ∈ sd_tb ∧ (sY11_as.1.cls ≠ "java/lang/invoke/MethodHandle" ∧ sY11_as.1.cls ≠ "java/lang/invoke/VarHandle" ∧ (parseMethodDescriptor sY11_as.1.desc).map (fun d => d.parameters.length) = some 2) ∧ sY11_as.2.2.1 ≤ 40 := ⟨sd_in1_ (i := 12) rfl rfl, ⟨sd_nm11, sd_nv11, rfl⟩, by decide⟩
theorem sV11_as : Cond.instanceMethod sY11_as.1 ∈ sd_tb ∧ Cond.selects sY11_as.1.cls sY11_as.1 sY11_as.1 ∈ sd_tb := ⟨sd_in6_ (i := 109) rfl rfl, sd_in6_ (i := 110) rfl rfl⟩
theorem sW11_menIn : Cond.code sY11_menIn.1 sY11_menIn.2.1 sY11_menIn.2.2.1 sY11_menIn.2.2.2 ∈ sd_tb := sd_in6_ (i := 123) rfl rfl
theorem sH11_menIn : Cond.initialized sY11_menIn.1.cls ∈ sd_tb ∧ (sY11_menIn.1.cls ≠ "java/lang/invoke/MethodHandle" ∧ sY11_menIn.1.cls ≠ "java/lang/invoke/VarHandle" ∧ (parseMethodDescriptor sY11_menIn.1.desc).map (fun d => d.parameters.length) = some 1) ∧ sY11_menIn.2.2.1 ≤ 40 := ⟨sd_in1_ (i := 12) rfl rfl, ⟨sd_nm11, sd_nv11, rfl⟩, by decide⟩
theorem sV11_menIn : Cond.instanceMethod sY11_menIn.1 ∈ sd_tb ∧ Cond.selects sY11_menIn.1.cls sY11_menIn.1 sY11_menIn.1 ∈ sd_tb := ⟨sd_in6_ (i := 122) rfl rfl, sd_in2 (i := 34) rfl rfl⟩
theorem sW11_makes : Cond.code sY11_makes.1 sY11_makes.2.1 sY11_makes.2.2.1 sY11_makes.2.2.2 ∈ sd_tb := sd_in6_ (i := 119) rfl rfl
theorem sH11_makes : Cond.initialized sY11_makes.1.cls ∈ sd_tb ∧ (sY11_makes.1.cls ≠ "java/lang/invoke/MethodHandle" ∧ sY11_makes.1.cls ≠ "java/lang/invoke/VarHandle" ∧ (parseMethodDescriptor sY11_makes.1.desc).map (fun d => d.parameters.length) = some 1) ∧ sY11_makes.2.2.1 ≤ 40 := ⟨sd_in1_ (i := 12) rfl rfl, ⟨sd_nm11, sd_nv11, rfl⟩, by decide⟩
theorem sV11_makes : Cond.instanceMethod sY11_makes.1 ∈ sd_tb ∧ Cond.selects sY11_makes.1.cls sY11_makes.1 sY11_makes.1 ∈ sd_tb := ⟨sd_in6_ (i := 118) rfl rfl, sd_in2 (i := 33) rfl rfl⟩
theorem sW11_of : Cond.code sY11_of.1 sY11_of.2.1 sY11_of.2.2.1 sY11_of.2.2.2 ∈ sd_tb := sd_in6_ (i := 115) rfl rfl
theorem sH11_of : Cond.initialized sY11_of.1.cls ∈ sd_tb ∧ (sY11_of.1.cls ≠ "java/lang/invoke/MethodHandle" ∧ sY11_of.1.cls ≠ "java/lang/invoke/VarHandle" ∧ (parseMethodDescriptor sY11_of.1.desc).map (fun d => d.parameters.length) = some 2) ∧ sY11_of.2.2.1 ≤ 40 := ⟨sd_in1_ (i := 12) rfl rfl, ⟨sd_nm11, sd_nv11, rfl⟩, by decide⟩
theorem sV11_of : Cond.instanceMethod sY11_of.1 ∈ sd_tb ∧ Cond.selects sY11_of.1.cls sY11_of.1 sY11_of.1 ∈ sd_tb := ⟨sd_in6_ (i := 113) rfl rfl, sd_in6_ (i := 114) rfl rfl⟩
theorem sW11_become : Cond.code sY11_become.1 sY11_become.2.1 sY11_become.2.2.1 sY11_become.2.2.2 ∈ sd_tb := sd_in6_ (i := 167) rfl rfl
theorem sH11_become : Cond.initialized sY11_become.1.cls ∈ sd_tb ∧ (sY11_become.1.cls ≠ "java/lang/invoke/MethodHandle" ∧ sY11_become.1.cls ≠ "java/lang/invoke/VarHandle" ∧ (parseMethodDescriptor sY11_become.1.desc).map (fun d => d.parameters.length) = some 2) ∧ sY11_become.2.2.1 ≤ 40 := ⟨sd_in1_ (i := 12) rfl rfl, ⟨sd_nm11, sd_nv11, rfl⟩, by decide⟩
theorem sV11_become : Cond.instanceMethod sY11_become.1 ∈ sd_tb ∧ Cond.selects sY11_become.1.cls sY11_become.1 sY11_become.1 ∈ sd_tb := ⟨sd_in6_ (i := 166) rfl rfl, sd_in2 (i := 44) rfl rfl⟩
theorem sW11_run : Cond.code sY11_run.1 sY11_run.2.1 sY11_run.2.2.1 sY11_run.2.2.2 ∈ sd_tb := sd_in6_ (i := 163) rfl rfl
theorem sH11_run : Cond.initialized sY11_run.1.cls ∈ sd_tb ∧ (sY11_run.1.cls ≠ "java/lang/invoke/MethodHandle" ∧ sY11_run.1.cls ≠ "java/lang/invoke/VarHandle" ∧ (parseMethodDescriptor sY11_run.1.desc).map (fun d => d.parameters.length) = some 2) ∧ sY11_run.2.2.1 ≤ 40 := ⟨sd_in1_ (i := 12) rfl rfl, ⟨sd_nm11, sd_nv11, rfl⟩, by decide⟩
theorem sV11_run : Cond.instanceMethod sY11_run.1 ∈ sd_tb ∧ Cond.selects sY11_run.1.cls sY11_run.1 sY11_run.1 ∈ sd_tb := ⟨sd_in6_ (i := 161) rfl rfl, sd_in6_ (i := 162) rfl rfl⟩
theorem sW11_shut : Cond.code sY11_shut.1 sY11_shut.2.1 sY11_shut.2.2.1 sY11_shut.2.2.2 ∈ sd_tb := sd_in6_ (i := 171) rfl rfl
theorem sH11_shut : Cond.initialized sY11_shut.1.cls ∈ sd_tb ∧ (sY11_shut.1.cls ≠ "java/lang/invoke/MethodHandle" ∧ sY11_shut.1.cls ≠ "java/lang/invoke/VarHandle" ∧ (parseMethodDescriptor sY11_shut.1.desc).map (fun d => d.parameters.length) = some 2) ∧ sY11_shut.2.2.1 ≤ 40 := ⟨sd_in1_ (i := 12) rfl rfl, ⟨sd_nm11, sd_nv11, rfl⟩, by decide⟩
theorem sV11_shut : Cond.instanceMethod sY11_shut.1 ∈ sd_tb ∧ Cond.selects sY11_shut.1.cls sY11_shut.1 sY11_shut.1 ∈ sd_tb := ⟨sd_in6_ (i := 169) rfl rfl, sd_in6_ (i := 170) rfl rfl⟩
theorem sW11_outside : Cond.code sY11_outside.1 sY11_outside.2.1 sY11_outside.2.2.1 sY11_outside.2.2.2 ∈ sd_tb := sd_in6_ (i := 175) rfl rfl
theorem sH11_outside : Cond.initialized sY11_outside.1.cls ∈ sd_tb ∧ (sY11_outside.1.cls ≠ "java/lang/invoke/MethodHandle" ∧ sY11_outside.1.cls ≠ "java/lang/invoke/VarHandle" ∧ (parseMethodDescriptor sY11_outside.1.desc).map (fun d => d.parameters.length) = some 1) ∧ sY11_outside.2.2.1 ≤ 40 := ⟨sd_in1_ (i := 12) rfl rfl, ⟨sd_nm11, sd_nv11, rfl⟩, by decide⟩
theorem sV11_outside : Cond.instanceMethod sY11_outside.1 ∈ sd_tb ∧ Cond.selects sY11_outside.1.cls sY11_outside.1 sY11_outside.1 ∈ sd_tb := ⟨sd_in6_ (i := 173) rfl rfl, sd_in6_ (i := 174) rfl rfl⟩
theorem sW11_leads : Cond.code sY11_leads.1 sY11_leads.2.1 sY11_leads.2.2.1 sY11_leads.2.2.2 ∈ sd_tb := sd_in6_ (i := 187) rfl rfl
theorem sH11_leads : Cond.initialized sY11_leads.1.cls ∈ sd_tb ∧ (sY11_leads.1.cls ≠ "java/lang/invoke/MethodHandle" ∧ sY11_leads.1.cls ≠ "java/lang/invoke/VarHandle" ∧ (parseMethodDescriptor sY11_leads.1.desc).map (fun d => d.parameters.length) = some 2) ∧ sY11_leads.2.2.1 ≤ 40 := ⟨sd_in1_ (i := 12) rfl rfl, ⟨sd_nm11, sd_nv11, rfl⟩, by decide⟩
theorem sV11_leads : Cond.instanceMethod sY11_leads.1 ∈ sd_tb ∧ Cond.selects sY11_leads.1.cls sY11_leads.1 sY11_leads.1 ∈ sd_tb := ⟨sd_in6_ (i := 186) rfl rfl, sd_in2 (i := 46) rfl rfl⟩
theorem sW11_nextWarmth : Cond.code sY11_nextWarmth.1 sY11_nextWarmth.2.1 sY11_nextWarmth.2.2.1 sY11_nextWarmth.2.2.2 ∈ sd_tb := sd_in6_ (i := 183) rfl rfl
theorem sH11_nextWarmth : Cond.initialized sY11_nextWarmth.1.cls ∈ sd_tb ∧ (sY11_nextWarmth.1.cls ≠ "java/lang/invoke/MethodHandle" ∧ sY11_nextWarmth.1.cls ≠ "java/lang/invoke/VarHandle" ∧ (parseMethodDescriptor sY11_nextWarmth.1.desc).map (fun d => d.parameters.length) = some 2) ∧ sY11_nextWarmth.2.2.1 ≤ 40 := ⟨sd_in1_ (i := 12) rfl rfl, ⟨sd_nm11, sd_nv11, rfl⟩, by decide⟩
theorem sV11_nextWarmth : Cond.instanceMethod sY11_nextWarmth.1 ∈ sd_tb ∧ Cond.selects sY11_nextWarmth.1.cls sY11_nextWarmth.1 sY11_nextWarmth.1 ∈ sd_tb := ⟨sd_in6_ (i := 182) rfl rfl, sd_in2 (i := 45) rfl rfl⟩
theorem sW11_cold : Cond.code sY11_cold.1 sY11_cold.2.1 sY11_cold.2.2.1 sY11_cold.2.2.2 ∈ sd_tb := sd_in6_ (i := 179) rfl rfl
theorem sH11_cold : Cond.initialized sY11_cold.1.cls ∈ sd_tb ∧ (sY11_cold.1.cls ≠ "java/lang/invoke/MethodHandle" ∧ sY11_cold.1.cls ≠ "java/lang/invoke/VarHandle" ∧ (parseMethodDescriptor sY11_cold.1.desc).map (fun d => d.parameters.length) = some 2) ∧ sY11_cold.2.2.1 ≤ 40 := ⟨sd_in1_ (i := 12) rfl rfl, ⟨sd_nm11, sd_nv11, rfl⟩, by decide⟩
theorem sV11_cold : Cond.instanceMethod sY11_cold.1 ∈ sd_tb ∧ Cond.selects sY11_cold.1.cls sY11_cold.1 sY11_cold.1 ∈ sd_tb := ⟨sd_in6_ (i := 177) rfl rfl, sd_in6_ (i := 178) rfl rfl⟩
theorem sW11_man : Cond.code sY11_man.1 sY11_man.2.1 sY11_man.2.2.1 sY11_man.2.2.2 ∈ sd_tb := sd_in6_ (i := 191) rfl rfl
theorem sH11_man : Cond.initialized sY11_man.1.cls ∈ sd_tb ∧ (sY11_man.1.cls ≠ "java/lang/invoke/MethodHandle" ∧ sY11_man.1.cls ≠ "java/lang/invoke/VarHandle" ∧ (parseMethodDescriptor sY11_man.1.desc).map (fun d => d.parameters.length) = some 2) ∧ sY11_man.2.2.1 ≤ 40 := ⟨sd_in1_ (i := 12) rfl rfl, ⟨sd_nm11, sd_nv11, rfl⟩, by decide⟩
theorem sV11_man : Cond.instanceMethod sY11_man.1 ∈ sd_tb ∧ Cond.selects sY11_man.1.cls sY11_man.1 sY11_man.1 ∈ sd_tb := ⟨sd_in6_ (i := 189) rfl rfl, sd_in6_ (i := 190) rfl rfl⟩
theorem sW11_isMan : Cond.code sY11_isMan.1 sY11_isMan.2.1 sY11_isMan.2.2.1 sY11_isMan.2.2.2 ∈ sd_tb := sd_in6_ (i := 199) rfl rfl
theorem sH11_isMan : Cond.initialized sY11_isMan.1.cls ∈ sd_tb ∧ (sY11_isMan.1.cls ≠ "java/lang/invoke/MethodHandle" ∧ sY11_isMan.1.cls ≠ "java/lang/invoke/VarHandle" ∧ (parseMethodDescriptor sY11_isMan.1.desc).map (fun d => d.parameters.length) = some 1) ∧ sY11_isMan.2.2.1 ≤ 40 := ⟨sd_in1_ (i := 12) rfl rfl, ⟨sd_nm11, sd_nv11, rfl⟩, by decide⟩
theorem sV11_isMan : Cond.instanceMethod sY11_isMan.1 ∈ sd_tb ∧ Cond.selects sY11_isMan.1.cls sY11_isMan.1 sY11_isMan.1 ∈ sd_tb := ⟨sd_in6_ (i := 198) rfl rfl, sd_in2 (i := 47) rfl rfl⟩
theorem sW11_where : Cond.code sY11_where.1 sY11_where.2.1 sY11_where.2.2.1 sY11_where.2.2.2 ∈ sd_tb := sd_in6_ (i := 195) rfl rfl
theorem sH11_where : Cond.initialized sY11_where.1.cls ∈ sd_tb ∧ (sY11_where.1.cls ≠ "java/lang/invoke/MethodHandle" ∧ sY11_where.1.cls ≠ "java/lang/invoke/VarHandle" ∧ (parseMethodDescriptor sY11_where.1.desc).map (fun d => d.parameters.length) = some 2) ∧ sY11_where.2.2.1 ≤ 40 := ⟨sd_in1_ (i := 12) rfl rfl, ⟨sd_nm11, sd_nv11, rfl⟩, by decide⟩
theorem sV11_where : Cond.instanceMethod sY11_where.1 ∈ sd_tb ∧ Cond.selects sY11_where.1.cls sY11_where.1 sY11_where.1 ∈ sd_tb := ⟨sd_in6_ (i := 193) rfl rfl, sd_in6_ (i := 194) rfl rfl⟩
theorem sW11_reachBy : Cond.code sY11_reachBy.1 sY11_reachBy.2.1 sY11_reachBy.2.2.1 sY11_reachBy.2.2.2 ∈ sd_tb := sd_in6_ (i := 211) rfl rfl
theorem sH11_reachBy : Cond.initialized sY11_reachBy.1.cls ∈ sd_tb ∧ (sY11_reachBy.1.cls ≠ "java/lang/invoke/MethodHandle" ∧ sY11_reachBy.1.cls ≠ "java/lang/invoke/VarHandle" ∧ (parseMethodDescriptor sY11_reachBy.1.desc).map (fun d => d.parameters.length) = some 2) ∧ sY11_reachBy.2.2.1 ≤ 40 := ⟨sd_in1_ (i := 12) rfl rfl, ⟨sd_nm11, sd_nv11, rfl⟩, by decide⟩
theorem sV11_reachBy : Cond.instanceMethod sY11_reachBy.1 ∈ sd_tb ∧ Cond.selects sY11_reachBy.1.cls sY11_reachBy.1 sY11_reachBy.1 ∈ sd_tb := ⟨sd_in6_ (i := 210) rfl rfl, sd_in2 (i := 49) rfl rfl⟩
theorem sW11_reachOf : Cond.code sY11_reachOf.1 sY11_reachOf.2.1 sY11_reachOf.2.2.1 sY11_reachOf.2.2.2 ∈ sd_tb := sd_in6_ (i := 207) rfl rfl
theorem sH11_reachOf : Cond.initialized sY11_reachOf.1.cls ∈ sd_tb ∧ (sY11_reachOf.1.cls ≠ "java/lang/invoke/MethodHandle" ∧ sY11_reachOf.1.cls ≠ "java/lang/invoke/VarHandle" ∧ (parseMethodDescriptor sY11_reachOf.1.desc).map (fun d => d.parameters.length) = some 1) ∧ sY11_reachOf.2.2.1 ≤ 40 := ⟨sd_in1_ (i := 12) rfl rfl, ⟨sd_nm11, sd_nv11, rfl⟩, by decide⟩
theorem sV11_reachOf : Cond.instanceMethod sY11_reachOf.1 ∈ sd_tb ∧ Cond.selects sY11_reachOf.1.cls sY11_reachOf.1 sY11_reachOf.1 ∈ sd_tb := ⟨sd_in6_ (i := 206) rfl rfl, sd_in2 (i := 48) rfl rfl⟩
theorem sW11_menInAll : Cond.code sY11_menInAll.1 sY11_menInAll.2.1 sY11_menInAll.2.2.1 sY11_menInAll.2.2.2 ∈ sd_tb := sd_in6_ (i := 235) rfl rfl
theorem sH11_menInAll : Cond.initialized sY11_menInAll.1.cls ∈ sd_tb ∧ (sY11_menInAll.1.cls ≠ "java/lang/invoke/MethodHandle" ∧ sY11_menInAll.1.cls ≠ "java/lang/invoke/VarHandle" ∧ (parseMethodDescriptor sY11_menInAll.1.desc).map (fun d => d.parameters.length) = some 1) ∧ sY11_menInAll.2.2.1 ≤ 40 := ⟨sd_in1_ (i := 12) rfl rfl, ⟨sd_nm11, sd_nv11, rfl⟩, by decide⟩
theorem sV11_menInAll : Cond.instanceMethod sY11_menInAll.1 ∈ sd_tb ∧ Cond.selects sY11_menInAll.1.cls sY11_menInAll.1 sY11_menInAll.1 ∈ sd_tb := ⟨sd_in6_ (i := 234) rfl rfl, sd_in2 (i := 51) rfl rfl⟩
theorem sW11_go : Cond.code sY11_go.1 sY11_go.2.1 sY11_go.2.2.1 sY11_go.2.2.2 ∈ sd_tb := sd_in6_ (i := 203) rfl rfl
theorem sH11_go : Cond.initialized sY11_go.1.cls ∈ sd_tb ∧ (sY11_go.1.cls ≠ "java/lang/invoke/MethodHandle" ∧ sY11_go.1.cls ≠ "java/lang/invoke/VarHandle" ∧ (parseMethodDescriptor sY11_go.1.desc).map (fun d => d.parameters.length) = some 2) ∧ sY11_go.2.2.1 ≤ 40 := ⟨sd_in1_ (i := 12) rfl rfl, ⟨sd_nm11, sd_nv11, rfl⟩, by decide⟩
theorem sV11_go : Cond.instanceMethod sY11_go.1 ∈ sd_tb ∧ Cond.selects sY11_go.1.cls sY11_go.1 sY11_go.1 ∈ sd_tb := ⟨sd_in6_ (i := 201) rfl rfl, sd_in6_ (i := 202) rfl rfl⟩
theorem sW11_hear : Cond.code sY11_hear.1 sY11_hear.2.1 sY11_hear.2.2.1 sY11_hear.2.2.2 ∈ sd_tb := sd_in6_ (i := 215) rfl rfl
theorem sH11_hear : Cond.initialized sY11_hear.1.cls ∈ sd_tb ∧ (sY11_hear.1.cls ≠ "java/lang/invoke/MethodHandle" ∧ sY11_hear.1.cls ≠ "java/lang/invoke/VarHandle" ∧ (parseMethodDescriptor sY11_hear.1.desc).map (fun d => d.parameters.length) = some 2) ∧ sY11_hear.2.2.1 ≤ 40 := ⟨sd_in1_ (i := 12) rfl rfl, ⟨sd_nm11, sd_nv11, rfl⟩, by decide⟩
theorem sV11_hear : Cond.instanceMethod sY11_hear.1 ∈ sd_tb ∧ Cond.selects sY11_hear.1.cls sY11_hear.1 sY11_hear.1 ∈ sd_tb := ⟨sd_in6_ (i := 213) rfl rfl, sd_in6_ (i := 214) rfl rfl⟩
theorem sW11_willThen : Cond.code sY11_willThen.1 sY11_willThen.2.1 sY11_willThen.2.2.1 sY11_willThen.2.2.2 ∈ sd_tb := sd_in6_ (i := 223) rfl rfl
theorem sH11_willThen : Cond.initialized sY11_willThen.1.cls ∈ sd_tb ∧ (sY11_willThen.1.cls ≠ "java/lang/invoke/MethodHandle" ∧ sY11_willThen.1.cls ≠ "java/lang/invoke/VarHandle" ∧ (parseMethodDescriptor sY11_willThen.1.desc).map (fun d => d.parameters.length) = some 5) ∧ sY11_willThen.2.2.1 ≤ 40 := ⟨sd_in1_ (i := 12) rfl rfl, ⟨sd_nm11, sd_nv11, rfl⟩, by decide⟩
theorem sV11_willThen : Cond.instanceMethod sY11_willThen.1 ∈ sd_tb ∧ Cond.selects sY11_willThen.1.cls sY11_willThen.1 sY11_willThen.1 ∈ sd_tb := ⟨sd_in6_ (i := 222) rfl rfl, sd_in2 (i := 50) rfl rfl⟩
theorem sW11_stay : Cond.code sY11_stay.1 sY11_stay.2.1 sY11_stay.2.2.1 sY11_stay.2.2.2 ∈ sd_tb := sd_in6_ (i := 219) rfl rfl
theorem sH11_stay : Cond.initialized sY11_stay.1.cls ∈ sd_tb ∧ (sY11_stay.1.cls ≠ "java/lang/invoke/MethodHandle" ∧ sY11_stay.1.cls ≠ "java/lang/invoke/VarHandle" ∧ (parseMethodDescriptor sY11_stay.1.desc).map (fun d => d.parameters.length) = some 1) ∧ sY11_stay.2.2.1 ≤ 40 := ⟨sd_in1_ (i := 12) rfl rfl, ⟨sd_nm11, sd_nv11, rfl⟩, by decide⟩
theorem sV11_stay : Cond.instanceMethod sY11_stay.1 ∈ sd_tb ∧ Cond.selects sY11_stay.1.cls sY11_stay.1 sY11_stay.1 ∈ sd_tb := ⟨sd_in6_ (i := 217) rfl rfl, sd_in6_ (i := 218) rfl rfl⟩
theorem sW11_pass : Cond.code sY11_pass.1 sY11_pass.2.1 sY11_pass.2.2.1 sY11_pass.2.2.2 ∈ sd_tb := sd_in6_ (i := 227) rfl rfl
theorem sH11_pass : Cond.initialized sY11_pass.1.cls ∈ sd_tb ∧ (sY11_pass.1.cls ≠ "java/lang/invoke/MethodHandle" ∧ sY11_pass.1.cls ≠ "java/lang/invoke/VarHandle" ∧ (parseMethodDescriptor sY11_pass.1.desc).map (fun d => d.parameters.length) = some 2) ∧ sY11_pass.2.2.1 ≤ 40 := ⟨sd_in1_ (i := 12) rfl rfl, ⟨sd_nm11, sd_nv11, rfl⟩, by decide⟩
theorem sV11_pass : Cond.instanceMethod sY11_pass.1 ∈ sd_tb ∧ Cond.selects sY11_pass.1.cls sY11_pass.1 sY11_pass.1 ∈ sd_tb := ⟨sd_in6_ (i := 225) rfl rfl, sd_in6_ (i := 226) rfl rfl⟩
theorem sW11_mealsIn : Cond.code sY11_mealsIn.1 sY11_mealsIn.2.1 sY11_mealsIn.2.2.1 sY11_mealsIn.2.2.2 ∈ sd_tb := sd_in6_ (i := 239) rfl rfl
theorem sH11_mealsIn : Cond.initialized sY11_mealsIn.1.cls ∈ sd_tb ∧ (sY11_mealsIn.1.cls ≠ "java/lang/invoke/MethodHandle" ∧ sY11_mealsIn.1.cls ≠ "java/lang/invoke/VarHandle" ∧ (parseMethodDescriptor sY11_mealsIn.1.desc).map (fun d => d.parameters.length) = some 1) ∧ sY11_mealsIn.2.2.1 ≤ 40 := ⟨sd_in1_ (i := 12) rfl rfl, ⟨sd_nm11, sd_nv11, rfl⟩, by decide⟩
theorem sV11_mealsIn : Cond.instanceMethod sY11_mealsIn.1 ∈ sd_tb ∧ Cond.selects sY11_mealsIn.1.cls sY11_mealsIn.1 sY11_mealsIn.1 ∈ sd_tb := ⟨sd_in6_ (i := 238) rfl rfl, sd_in2 (i := 52) rfl rfl⟩
theorem sW11_food : Cond.code sY11_food.1 sY11_food.2.1 sY11_food.2.2.1 sY11_food.2.2.2 ∈ sd_tb := sd_in6_ (i := 231) rfl rfl
theorem sH11_food : Cond.initialized sY11_food.1.cls ∈ sd_tb ∧ (sY11_food.1.cls ≠ "java/lang/invoke/MethodHandle" ∧ sY11_food.1.cls ≠ "java/lang/invoke/VarHandle" ∧ (parseMethodDescriptor sY11_food.1.desc).map (fun d => d.parameters.length) = some 1) ∧ sY11_food.2.2.1 ≤ 40 := ⟨sd_in1_ (i := 12) rfl rfl, ⟨sd_nm11, sd_nv11, rfl⟩, by decide⟩
theorem sV11_food : Cond.instanceMethod sY11_food.1 ∈ sd_tb ∧ Cond.selects sY11_food.1.cls sY11_food.1 sY11_food.1 ∈ sd_tb := ⟨sd_in6_ (i := 229) rfl rfl, sd_in6_ (i := 230) rfl rfl⟩
theorem sW11_reach : Cond.code sY11_reach.1 sY11_reach.2.1 sY11_reach.2.2.1 sY11_reach.2.2.2 ∈ sd_tb := sd_in7_ (i := 3) rfl rfl
theorem sH11_reach : Cond.initialized sY11_reach.1.cls ∈ sd_tb ∧ (sY11_reach.1.cls ≠ "java/lang/invoke/MethodHandle" ∧ sY11_reach.1.cls ≠ "java/lang/invoke/VarHandle" ∧ (parseMethodDescriptor sY11_reach.1.desc).map (fun d => d.parameters.length) = some 1) ∧ sY11_reach.2.2.1 ≤ 40 := ⟨sd_in1_ (i := 12) rfl rfl, ⟨sd_nm11, sd_nv11, rfl⟩, by decide⟩
theorem sV11_reach : Cond.instanceMethod sY11_reach.1 ∈ sd_tb ∧ Cond.selects sY11_reach.1.cls sY11_reach.1 sY11_reach.1 ∈ sd_tb := ⟨sd_in7_ (i := 1) rfl rfl, sd_in7_ (i := 2) rfl rfl⟩
theorem sW11_whistle : Cond.code sY11_whistle.1 sY11_whistle.2.1 sY11_whistle.2.2.1 sY11_whistle.2.2.2 ∈ sd_tb := sd_in7_ (i := 7) rfl rfl
theorem sH11_whistle : Cond.initialized sY11_whistle.1.cls ∈ sd_tb ∧ (sY11_whistle.1.cls ≠ "java/lang/invoke/MethodHandle" ∧ sY11_whistle.1.cls ≠ "java/lang/invoke/VarHandle" ∧ (parseMethodDescriptor sY11_whistle.1.desc).map (fun d => d.parameters.length) = some 2) ∧ sY11_whistle.2.2.1 ≤ 40 := ⟨sd_in1_ (i := 12) rfl rfl, ⟨sd_nm11, sd_nv11, rfl⟩, by decide⟩
theorem sV11_whistle : Cond.instanceMethod sY11_whistle.1 ∈ sd_tb ∧ Cond.selects sY11_whistle.1.cls sY11_whistle.1 sY11_whistle.1 ∈ sd_tb := ⟨sd_in7_ (i := 5) rfl rfl, sd_in7_ (i := 6) rfl rfl⟩
theorem sW11_forceAt : Cond.code sY11_forceAt.1 sY11_forceAt.2.1 sY11_forceAt.2.2.1 sY11_forceAt.2.2.2 ∈ sd_tb := sd_in7_ (i := 15) rfl rfl
theorem sH11_forceAt : Cond.initialized sY11_forceAt.1.cls ∈ sd_tb ∧ (sY11_forceAt.1.cls ≠ "java/lang/invoke/MethodHandle" ∧ sY11_forceAt.1.cls ≠ "java/lang/invoke/VarHandle" ∧ (parseMethodDescriptor sY11_forceAt.1.desc).map (fun d => d.parameters.length) = some 1) ∧ sY11_forceAt.2.2.1 ≤ 40 := ⟨sd_in1_ (i := 12) rfl rfl, ⟨sd_nm11, sd_nv11, rfl⟩, by decide⟩
theorem sV11_forceAt : Cond.instanceMethod sY11_forceAt.1 ∈ sd_tb ∧ Cond.selects sY11_forceAt.1.cls sY11_forceAt.1 sY11_forceAt.1 ∈ sd_tb := ⟨sd_in7_ (i := 14) rfl rfl, sd_in2 (i := 53) rfl rfl⟩
theorem sW11_force : Cond.code sY11_force.1 sY11_force.2.1 sY11_force.2.2.1 sY11_force.2.2.2 ∈ sd_tb := sd_in7_ (i := 11) rfl rfl
theorem sH11_force : Cond.initialized sY11_force.1.cls ∈ sd_tb ∧ (sY11_force.1.cls ≠ "java/lang/invoke/MethodHandle" ∧ sY11_force.1.cls ≠ "java/lang/invoke/VarHandle" ∧ (parseMethodDescriptor sY11_force.1.desc).map (fun d => d.parameters.length) = some 1) ∧ sY11_force.2.2.1 ≤ 40 := ⟨sd_in1_ (i := 12) rfl rfl, ⟨sd_nm11, sd_nv11, rfl⟩, by decide⟩
theorem sV11_force : Cond.instanceMethod sY11_force.1 ∈ sd_tb ∧ Cond.selects sY11_force.1.cls sY11_force.1 sY11_force.1 ∈ sd_tb := ⟨sd_in7_ (i := 9) rfl rfl, sd_in7_ (i := 10) rfl rfl⟩
theorem sW11_take : Cond.code sY11_take.1 sY11_take.2.1 sY11_take.2.2.1 sY11_take.2.2.2 ∈ sd_tb := sd_in7_ (i := 19) rfl rfl
theorem sH11_take : Cond.initialized sY11_take.1.cls ∈ sd_tb ∧ (sY11_take.1.cls ≠ "java/lang/invoke/MethodHandle" ∧ sY11_take.1.cls ≠ "java/lang/invoke/VarHandle" ∧ (parseMethodDescriptor sY11_take.1.desc).map (fun d => d.parameters.length) = some 1) ∧ sY11_take.2.2.1 ≤ 40 := ⟨sd_in1_ (i := 12) rfl rfl, ⟨sd_nm11, sd_nv11, rfl⟩, by decide⟩
theorem sV11_take : Cond.instanceMethod sY11_take.1 ∈ sd_tb ∧ Cond.selects sY11_take.1.cls sY11_take.1 sY11_take.1 ∈ sd_tb := ⟨sd_in7_ (i := 17) rfl rfl, sd_in7_ (i := 18) rfl rfl⟩
theorem sW11_guard : Cond.code sY11_guard.1 sY11_guard.2.1 sY11_guard.2.2.1 sY11_guard.2.2.2 ∈ sd_tb := sd_in7_ (i := 23) rfl rfl
theorem sH11_guard : Cond.initialized sY11_guard.1.cls ∈ sd_tb ∧ (sY11_guard.1.cls ≠ "java/lang/invoke/MethodHandle" ∧ sY11_guard.1.cls ≠ "java/lang/invoke/VarHandle" ∧ (parseMethodDescriptor sY11_guard.1.desc).map (fun d => d.parameters.length) = some 2) ∧ sY11_guard.2.2.1 ≤ 40 := ⟨sd_in1_ (i := 12) rfl rfl, ⟨sd_nm11, sd_nv11, rfl⟩, by decide⟩
theorem sV11_guard : Cond.instanceMethod sY11_guard.1 ∈ sd_tb ∧ Cond.selects sY11_guard.1.cls sY11_guard.1 sY11_guard.1 ∈ sd_tb := ⟨sd_in7_ (i := 21) rfl rfl, sd_in7_ (i := 22) rfl rfl⟩
theorem sW11_work : Cond.code sY11_work.1 sY11_work.2.1 sY11_work.2.2.1 sY11_work.2.2.2 ∈ sd_tb := sd_in7_ (i := 27) rfl rfl
theorem sH11_work : Cond.initialized sY11_work.1.cls ∈ sd_tb ∧ (sY11_work.1.cls ≠ "java/lang/invoke/MethodHandle" ∧ sY11_work.1.cls ≠ "java/lang/invoke/VarHandle" ∧ (parseMethodDescriptor sY11_work.1.desc).map (fun d => d.parameters.length) = some 1) ∧ sY11_work.2.2.1 ≤ 40 := ⟨sd_in1_ (i := 12) rfl rfl, ⟨sd_nm11, sd_nv11, rfl⟩, by decide⟩
theorem sV11_work : Cond.instanceMethod sY11_work.1 ∈ sd_tb ∧ Cond.selects sY11_work.1.cls sY11_work.1 sY11_work.1 ∈ sd_tb := ⟨sd_in7_ (i := 25) rfl rfl, sd_in7_ (i := 26) rfl rfl⟩
theorem sW11_stock : Cond.code sY11_stock.1 sY11_stock.2.1 sY11_stock.2.2.1 sY11_stock.2.2.2 ∈ sd_tb := sd_in7_ (i := 32) rfl rfl
theorem sH11_stock : Cond.initialized sY11_stock.1.cls ∈ sd_tb ∧ (sY11_stock.1.cls ≠ "java/lang/invoke/MethodHandle" ∧ sY11_stock.1.cls ≠ "java/lang/invoke/VarHandle" ∧ (parseMethodDescriptor sY11_stock.1.desc).map (fun d => d.parameters.length) = some 1) ∧ sY11_stock.2.2.1 ≤ 40 := ⟨sd_in1_ (i := 12) rfl rfl, ⟨sd_nm11, sd_nv11, rfl⟩, by decide⟩
theorem sV11_stock : Cond.instanceMethod sY11_stock.1 ∈ sd_tb ∧ Cond.selects sY11_stock.1.cls sY11_stock.1 sY11_stock.1 ∈ sd_tb := ⟨sd_in7_ (i := 30) rfl rfl, sd_in7_ (i := 31) rfl rfl⟩
theorem sW11_part : Cond.code sY11_part.1 sY11_part.2.1 sY11_part.2.2.1 sY11_part.2.2.2 ∈ sd_tb := sd_in7_ (i := 39) rfl rfl
theorem sH11_part : Cond.initialized sY11_part.1.cls ∈ sd_tb ∧ (sY11_part.1.cls ≠ "java/lang/invoke/MethodHandle" ∧ sY11_part.1.cls ≠ "java/lang/invoke/VarHandle" ∧ (parseMethodDescriptor sY11_part.1.desc).map (fun d => d.parameters.length) = some 1) ∧ sY11_part.2.2.1 ≤ 40 := ⟨sd_in1_ (i := 12) rfl rfl, ⟨sd_nm11, sd_nv11, rfl⟩, by decide⟩
theorem sV11_part : Cond.instanceMethod sY11_part.1 ∈ sd_tb ∧ Cond.selects sY11_part.1.cls sY11_part.1 sY11_part.1 ∈ sd_tb := ⟨sd_in7_ (i := 37) rfl rfl, sd_in7_ (i := 38) rfl rfl⟩
theorem sW11_lacks : Cond.code sY11_lacks.1 sY11_lacks.2.1 sY11_lacks.2.2.1 sY11_lacks.2.2.2 ∈ sd_tb := sd_in7_ (i := 55) rfl rfl
theorem sH11_lacks : Cond.initialized sY11_lacks.1.cls ∈ sd_tb ∧ (sY11_lacks.1.cls ≠ "java/lang/invoke/MethodHandle" ∧ sY11_lacks.1.cls ≠ "java/lang/invoke/VarHandle" ∧ (parseMethodDescriptor sY11_lacks.1.desc).map (fun d => d.parameters.length) = some 3) ∧ sY11_lacks.2.2.1 ≤ 40 := ⟨sd_in1_ (i := 12) rfl rfl, ⟨sd_nm11, sd_nv11, rfl⟩, by decide⟩
theorem sV11_lacks : Cond.instanceMethod sY11_lacks.1 ∈ sd_tb ∧ Cond.selects sY11_lacks.1.cls sY11_lacks.1 sY11_lacks.1 ∈ sd_tb := ⟨sd_in7_ (i := 54) rfl rfl, sd_in2 (i := 56) rfl rfl⟩
theorem sW11_goesOn : Cond.code sY11_goesOn.1 sY11_goesOn.2.1 sY11_goesOn.2.2.1 sY11_goesOn.2.2.2 ∈ sd_tb := sd_in7_ (i := 51) rfl rfl
theorem sH11_goesOn : Cond.initialized sY11_goesOn.1.cls ∈ sd_tb ∧ (sY11_goesOn.1.cls ≠ "java/lang/invoke/MethodHandle" ∧ sY11_goesOn.1.cls ≠ "java/lang/invoke/VarHandle" ∧ (parseMethodDescriptor sY11_goesOn.1.desc).map (fun d => d.parameters.length) = some 1) ∧ sY11_goesOn.2.2.1 ≤ 40 := ⟨sd_in1_ (i := 12) rfl rfl, ⟨sd_nm11, sd_nv11, rfl⟩, by decide⟩
theorem sV11_goesOn : Cond.instanceMethod sY11_goesOn.1 ∈ sd_tb ∧ Cond.selects sY11_goesOn.1.cls sY11_goesOn.1 sY11_goesOn.1 ∈ sd_tb := ⟨sd_in7_ (i := 50) rfl rfl, sd_in2 (i := 55) rfl rfl⟩
theorem sW11_makers : Cond.code sY11_makers.1 sY11_makers.2.1 sY11_makers.2.2.1 sY11_makers.2.2.2 ∈ sd_tb := sd_in7_ (i := 47) rfl rfl
theorem sH11_makers : Cond.initialized sY11_makers.1.cls ∈ sd_tb ∧ (sY11_makers.1.cls ≠ "java/lang/invoke/MethodHandle" ∧ sY11_makers.1.cls ≠ "java/lang/invoke/VarHandle" ∧ (parseMethodDescriptor sY11_makers.1.desc).map (fun d => d.parameters.length) = some 0) ∧ sY11_makers.2.2.1 ≤ 40 := ⟨sd_in1_ (i := 12) rfl rfl, ⟨sd_nm11, sd_nv11, rfl⟩, by decide⟩
theorem sV11_makers : Cond.instanceMethod sY11_makers.1 ∈ sd_tb ∧ Cond.selects sY11_makers.1.cls sY11_makers.1 sY11_makers.1 ∈ sd_tb := ⟨sd_in7_ (i := 46) rfl rfl, sd_in2 (i := 54) rfl rfl⟩
theorem sW11_last : Cond.code sY11_last.1 sY11_last.2.1 sY11_last.2.2.1 sY11_last.2.2.2 ∈ sd_tb := sd_in7_ (i := 43) rfl rfl
theorem sH11_last : Cond.initialized sY11_last.1.cls ∈ sd_tb ∧ (sY11_last.1.cls ≠ "java/lang/invoke/MethodHandle" ∧ sY11_last.1.cls ≠ "java/lang/invoke/VarHandle" ∧ (parseMethodDescriptor sY11_last.1.desc).map (fun d => d.parameters.length) = some 2) ∧ sY11_last.2.2.1 ≤ 40 := ⟨sd_in1_ (i := 12) rfl rfl, ⟨sd_nm11, sd_nv11, rfl⟩, by decide⟩
theorem sV11_last : Cond.instanceMethod sY11_last.1 ∈ sd_tb ∧ Cond.selects sY11_last.1.cls sY11_last.1 sY11_last.1 ∈ sd_tb := ⟨sd_in7_ (i := 41) rfl rfl, sd_in7_ (i := 42) rfl rfl⟩
theorem sW11_ones : Cond.code sY11_ones.1 sY11_ones.2.1 sY11_ones.2.2.1 sY11_ones.2.2.2 ∈ sd_tb := sd_in7_ (i := 62) rfl rfl
theorem sH11_ones : Cond.initialized sY11_ones.1.cls ∈ sd_tb ∧ (sY11_ones.1.cls ≠ "java/lang/invoke/MethodHandle" ∧ sY11_ones.1.cls ≠ "java/lang/invoke/VarHandle" ∧ (parseMethodDescriptor sY11_ones.1.desc).map (fun d => d.parameters.length) = some 1) ∧ sY11_ones.2.2.1 ≤ 40 := ⟨sd_in1_ (i := 12) rfl rfl, ⟨sd_nm11, sd_nv11, rfl⟩, by decide⟩
theorem sT11_ones : Cond.static sY11_ones.1 ∈ sd_tb := sd_in7_ (i := 61) rfl rfl
theorem sW11_doStand : Cond.code sY11_doStand.1 sY11_doStand.2.1 sY11_doStand.2.2.1 sY11_doStand.2.2.2 ∈ sd_tb := sd_in7_ (i := 66) rfl rfl
theorem sH11_doStand : Cond.initialized sY11_doStand.1.cls ∈ sd_tb ∧ (sY11_doStand.1.cls ≠ "java/lang/invoke/MethodHandle" ∧ sY11_doStand.1.cls ≠ "java/lang/invoke/VarHandle" ∧ (parseMethodDescriptor sY11_doStand.1.desc).map (fun d => d.parameters.length) = some 1) ∧ sY11_doStand.2.2.1 ≤ 40 := ⟨sd_in1_ (i := 12) rfl rfl, ⟨sd_nm11, sd_nv11, rfl⟩, by decide⟩
theorem sV11_doStand : Cond.instanceMethod sY11_doStand.1 ∈ sd_tb ∧ Cond.selects sY11_doStand.1.cls sY11_doStand.1 sY11_doStand.1 ∈ sd_tb := ⟨sd_in7_ (i := 65) rfl rfl, sd_in2 (i := 57) rfl rfl⟩
theorem sW11_least : Cond.code sY11_least.1 sY11_least.2.1 sY11_least.2.2.1 sY11_least.2.2.2 ∈ sd_tb := sd_in7_ (i := 59) rfl rfl
theorem sH11_least : Cond.initialized sY11_least.1.cls ∈ sd_tb ∧ (sY11_least.1.cls ≠ "java/lang/invoke/MethodHandle" ∧ sY11_least.1.cls ≠ "java/lang/invoke/VarHandle" ∧ (parseMethodDescriptor sY11_least.1.desc).map (fun d => d.parameters.length) = some 1) ∧ sY11_least.2.2.1 ≤ 40 := ⟨sd_in1_ (i := 12) rfl rfl, ⟨sd_nm11, sd_nv11, rfl⟩, by decide⟩
theorem sV11_least : Cond.instanceMethod sY11_least.1 ∈ sd_tb ∧ Cond.selects sY11_least.1.cls sY11_least.1 sY11_least.1 ∈ sd_tb := ⟨sd_in7_ (i := 57) rfl rfl, sd_in7_ (i := 58) rfl rfl⟩
theorem sW11_byteAt : Cond.code sY11_byteAt.1 sY11_byteAt.2.1 sY11_byteAt.2.2.1 sY11_byteAt.2.2.2 ∈ sd_tb := sd_in6_ (i := 143) rfl rfl
theorem sH11_byteAt : Cond.initialized sY11_byteAt.1.cls ∈ sd_tb ∧ (sY11_byteAt.1.cls ≠ "java/lang/invoke/MethodHandle" ∧ sY11_byteAt.1.cls ≠ "java/lang/invoke/VarHandle" ∧ (parseMethodDescriptor sY11_byteAt.1.desc).map (fun d => d.parameters.length) = some 0) ∧ sY11_byteAt.2.2.1 ≤ 40 := ⟨sd_in1_ (i := 12) rfl rfl, ⟨sd_nm11, sd_nv11, rfl⟩, by decide⟩
theorem sV11_byteAt : Cond.instanceMethod sY11_byteAt.1 ∈ sd_tb ∧ Cond.selects sY11_byteAt.1.cls sY11_byteAt.1 sY11_byteAt.1 ∈ sd_tb := ⟨sd_in6_ (i := 142) rfl rfl, sd_in2 (i := 39) rfl rfl⟩
theorem sW11_isGood : Cond.code sY11_isGood.1 sY11_isGood.2.1 sY11_isGood.2.2.1 sY11_isGood.2.2.2 ∈ sd_tb := sd_in6_ (i := 147) rfl rfl
theorem sH11_isGood : Cond.initialized sY11_isGood.1.cls ∈ sd_tb ∧ (sY11_isGood.1.cls ≠ "java/lang/invoke/MethodHandle" ∧ sY11_isGood.1.cls ≠ "java/lang/invoke/VarHandle" ∧ (parseMethodDescriptor sY11_isGood.1.desc).map (fun d => d.parameters.length) = some 0) ∧ sY11_isGood.2.2.1 ≤ 40 := ⟨sd_in1_ (i := 12) rfl rfl, ⟨sd_nm11, sd_nv11, rfl⟩, by decide⟩
theorem sV11_isGood : Cond.instanceMethod sY11_isGood.1 ∈ sd_tb ∧ Cond.selects sY11_isGood.1.cls sY11_isGood.1 sY11_isGood.1 ∈ sd_tb := ⟨sd_in6_ (i := 146) rfl rfl, sd_in2 (i := 40) rfl rfl⟩
theorem sW11_wrong : Cond.code sY11_wrong.1 sY11_wrong.2.1 sY11_wrong.2.2.1 sY11_wrong.2.2.2 ∈ sd_tb := sd_in6_ (i := 151) rfl rfl
theorem sH11_wrong : Cond.initialized sY11_wrong.1.cls ∈ sd_tb ∧ (sY11_wrong.1.cls ≠ "java/lang/invoke/MethodHandle" ∧ sY11_wrong.1.cls ≠ "java/lang/invoke/VarHandle" ∧ (parseMethodDescriptor sY11_wrong.1.desc).map (fun d => d.parameters.length) = some 0) ∧ sY11_wrong.2.2.1 ≤ 40 := ⟨sd_in1_ (i := 12) rfl rfl, ⟨sd_nm11, sd_nv11, rfl⟩, by decide⟩
theorem sV11_wrong : Cond.instanceMethod sY11_wrong.1 ∈ sd_tb ∧ Cond.selects sY11_wrong.1.cls sY11_wrong.1 sY11_wrong.1 ∈ sd_tb := ⟨sd_in6_ (i := 150) rfl rfl, sd_in2 (i := 41) rfl rfl⟩
theorem sW11_byteIs : Cond.code sY11_byteIs.1 sY11_byteIs.2.1 sY11_byteIs.2.2.1 sY11_byteIs.2.2.2 ∈ sd_tb := sd_in6_ (i := 155) rfl rfl
theorem sH11_byteIs : Cond.initialized sY11_byteIs.1.cls ∈ sd_tb ∧ (sY11_byteIs.1.cls ≠ "java/lang/invoke/MethodHandle" ∧ sY11_byteIs.1.cls ≠ "java/lang/invoke/VarHandle" ∧ (parseMethodDescriptor sY11_byteIs.1.desc).map (fun d => d.parameters.length) = some 1) ∧ sY11_byteIs.2.2.1 ≤ 40 := ⟨sd_in1_ (i := 12) rfl rfl, ⟨sd_nm11, sd_nv11, rfl⟩, by decide⟩
theorem sV11_byteIs : Cond.instanceMethod sY11_byteIs.1 ∈ sd_tb ∧ Cond.selects sY11_byteIs.1.cls sY11_byteIs.1 sY11_byteIs.1 ∈ sd_tb := ⟨sd_in6_ (i := 154) rfl rfl, sd_in2 (i := 42) rfl rfl⟩
theorem sW11_word : Cond.code sY11_word.1 sY11_word.2.1 sY11_word.2.2.1 sY11_word.2.2.2 ∈ sd_tb := sd_in6_ (i := 139) rfl rfl
theorem sH11_word : Cond.initialized sY11_word.1.cls ∈ sd_tb ∧ (sY11_word.1.cls ≠ "java/lang/invoke/MethodHandle" ∧ sY11_word.1.cls ≠ "java/lang/invoke/VarHandle" ∧ (parseMethodDescriptor sY11_word.1.desc).map (fun d => d.parameters.length) = some 2) ∧ sY11_word.2.2.1 ≤ 40 := ⟨sd_in1_ (i := 12) rfl rfl, ⟨sd_nm11, sd_nv11, rfl⟩, by decide⟩
theorem sV11_word : Cond.instanceMethod sY11_word.1 ∈ sd_tb ∧ Cond.selects sY11_word.1.cls sY11_word.1 sY11_word.1 ∈ sd_tb := ⟨sd_in6_ (i := 138) rfl rfl, sd_in2 (i := 38) rfl rfl⟩
theorem sW11_test : Cond.code sY11_test.1 sY11_test.2.1 sY11_test.2.2.1 sY11_test.2.2.2 ∈ sd_tb := sd_in6_ (i := 159) rfl rfl
theorem sH11_test : Cond.initialized sY11_test.1.cls ∈ sd_tb ∧ (sY11_test.1.cls ≠ "java/lang/invoke/MethodHandle" ∧ sY11_test.1.cls ≠ "java/lang/invoke/VarHandle" ∧ (parseMethodDescriptor sY11_test.1.desc).map (fun d => d.parameters.length) = some 0) ∧ sY11_test.2.2.1 ≤ 40 := ⟨sd_in1_ (i := 12) rfl rfl, ⟨sd_nm11, sd_nv11, rfl⟩, by decide⟩
theorem sV11_test : Cond.instanceMethod sY11_test.1 ∈ sd_tb ∧ Cond.selects sY11_test.1.cls sY11_test.1 sY11_test.1 ∈ sd_tb := ⟨sd_in6_ (i := 158) rfl rfl, sd_in2 (i := 43) rfl rfl⟩
theorem sW11_reads : Cond.code sY11_reads.1 sY11_reads.2.1 sY11_reads.2.2.1 sY11_reads.2.2.2 ∈ sd_tb := sd_in6_ (i := 135) rfl rfl
theorem sH11_reads : Cond.initialized sY11_reads.1.cls ∈ sd_tb ∧ (sY11_reads.1.cls ≠ "java/lang/invoke/MethodHandle" ∧ sY11_reads.1.cls ≠ "java/lang/invoke/VarHandle" ∧ (parseMethodDescriptor sY11_reads.1.desc).map (fun d => d.parameters.length) = some 3) ∧ sY11_reads.2.2.1 ≤ 40 := ⟨sd_in1_ (i := 12) rfl rfl, ⟨sd_nm11, sd_nv11, rfl⟩, by decide⟩
theorem sV11_reads : Cond.instanceMethod sY11_reads.1 ∈ sd_tb ∧ Cond.selects sY11_reads.1.cls sY11_reads.1 sY11_reads.1 ∈ sd_tb := ⟨sd_in6_ (i := 134) rfl rfl, sd_in2 (i := 37) rfl rfl⟩
theorem sW11_feed : Cond.code sY11_feed.1 sY11_feed.2.1 sY11_feed.2.2.1 sY11_feed.2.2.2 ∈ sd_tb := sd_in7_ (i := 70) rfl rfl
theorem sH11_feed : Cond.initialized sY11_feed.1.cls ∈ sd_tb ∧ (sY11_feed.1.cls ≠ "java/lang/invoke/MethodHandle" ∧ sY11_feed.1.cls ≠ "java/lang/invoke/VarHandle" ∧ (parseMethodDescriptor sY11_feed.1.desc).map (fun d => d.parameters.length) = some 2) ∧ sY11_feed.2.2.1 ≤ 40 := ⟨sd_in1_ (i := 12) rfl rfl, ⟨sd_nm11, sd_nv11, rfl⟩, by decide⟩
theorem sV11_feed : Cond.instanceMethod sY11_feed.1 ∈ sd_tb ∧ Cond.selects sY11_feed.1.cls sY11_feed.1 sY11_feed.1 ∈ sd_tb := ⟨sd_in7_ (i := 68) rfl rfl, sd_in7_ (i := 69) rfl rfl⟩
theorem sW11_text : Cond.code sY11_text.1 sY11_text.2.1 sY11_text.2.2.1 sY11_text.2.2.2 ∈ sd_tb := sd_in7_ (i := 74) rfl rfl
theorem sH11_text : Cond.initialized sY11_text.1.cls ∈ sd_tb ∧ (sY11_text.1.cls ≠ "java/lang/invoke/MethodHandle" ∧ sY11_text.1.cls ≠ "java/lang/invoke/VarHandle" ∧ (parseMethodDescriptor sY11_text.1.desc).map (fun d => d.parameters.length) = some 3) ∧ sY11_text.2.2.1 ≤ 40 := ⟨sd_in1_ (i := 12) rfl rfl, ⟨sd_nm11, sd_nv11, rfl⟩, by decide⟩
theorem sV11_text : Cond.instanceMethod sY11_text.1 ∈ sd_tb ∧ Cond.selects sY11_text.1.cls sY11_text.1 sY11_text.1 ∈ sd_tb := ⟨sd_in7_ (i := 72) rfl rfl, sd_in7_ (i := 73) rfl rfl⟩
theorem sW11_wipe : Cond.code sY11_wipe.1 sY11_wipe.2.1 sY11_wipe.2.2.1 sY11_wipe.2.2.2 ∈ sd_tb := sd_in7_ (i := 78) rfl rfl
theorem sH11_wipe : Cond.initialized sY11_wipe.1.cls ∈ sd_tb ∧ (sY11_wipe.1.cls ≠ "java/lang/invoke/MethodHandle" ∧ sY11_wipe.1.cls ≠ "java/lang/invoke/VarHandle" ∧ (parseMethodDescriptor sY11_wipe.1.desc).map (fun d => d.parameters.length) = some 0) ∧ sY11_wipe.2.2.1 ≤ 40 := ⟨sd_in1_ (i := 12) rfl rfl, ⟨sd_nm11, sd_nv11, rfl⟩, by decide⟩
theorem sV11_wipe : Cond.instanceMethod sY11_wipe.1 ∈ sd_tb ∧ Cond.selects sY11_wipe.1.cls sY11_wipe.1 sY11_wipe.1 ∈ sd_tb := ⟨sd_in7_ (i := 76) rfl rfl, sd_in7_ (i := 77) rfl rfl⟩
theorem sW11_isInForce : Cond.code sY11_isInForce.1 sY11_isInForce.2.1 sY11_isInForce.2.2.1 sY11_isInForce.2.2.2 ∈ sd_tb := sd_in6_ (i := 131) rfl rfl
theorem sH11_isInForce : Cond.initialized sY11_isInForce.1.cls ∈ sd_tb ∧ (sY11_isInForce.1.cls ≠ "java/lang/invoke/MethodHandle" ∧ sY11_isInForce.1.cls ≠ "java/lang/invoke/VarHandle" ∧ (parseMethodDescriptor sY11_isInForce.1.desc).map (fun d => d.parameters.length) = some 2) ∧ sY11_isInForce.2.2.1 ≤ 40 := ⟨sd_in1_ (i := 12) rfl rfl, ⟨sd_nm11, sd_nv11, rfl⟩, by decide⟩
theorem sV11_isInForce : Cond.instanceMethod sY11_isInForce.1 ∈ sd_tb ∧ Cond.selects sY11_isInForce.1.cls sY11_isInForce.1 sY11_isInForce.1 ∈ sd_tb := ⟨sd_in6_ (i := 130) rfl rfl, sd_in2 (i := 36) rfl rfl⟩
theorem sW11_inForce : Cond.code sY11_inForce.1 sY11_inForce.2.1 sY11_inForce.2.2.1 sY11_inForce.2.2.2 ∈ sd_tb := sd_in7_ (i := 86) rfl rfl
theorem sH11_inForce : Cond.initialized sY11_inForce.1.cls ∈ sd_tb ∧ (sY11_inForce.1.cls ≠ "java/lang/invoke/MethodHandle" ∧ sY11_inForce.1.cls ≠ "java/lang/invoke/VarHandle" ∧ (parseMethodDescriptor sY11_inForce.1.desc).map (fun d => d.parameters.length) = some 0) ∧ sY11_inForce.2.2.1 ≤ 40 := ⟨sd_in1_ (i := 12) rfl rfl, ⟨sd_nm11, sd_nv11, rfl⟩, by decide⟩
theorem sV11_inForce : Cond.instanceMethod sY11_inForce.1 ∈ sd_tb ∧ Cond.selects sY11_inForce.1.cls sY11_inForce.1 sY11_inForce.1 ∈ sd_tb := ⟨sd_in7_ (i := 85) rfl rfl, sd_in2 (i := 58) rfl rfl⟩
theorem sW11_shares : Cond.code sY11_shares.1 sY11_shares.2.1 sY11_shares.2.2.1 sY11_shares.2.2.2 ∈ sd_tb := sd_in7_ (i := 82) rfl rfl
theorem sH11_shares : Cond.initialized sY11_shares.1.cls ∈ sd_tb ∧ (sY11_shares.1.cls ≠ "java/lang/invoke/MethodHandle" ∧ sY11_shares.1.cls ≠ "java/lang/invoke/VarHandle" ∧ (parseMethodDescriptor sY11_shares.1.desc).map (fun d => d.parameters.length) = some 1) ∧ sY11_shares.2.2.1 ≤ 40 := ⟨sd_in1_ (i := 12) rfl rfl, ⟨sd_nm11, sd_nv11, rfl⟩, by decide⟩
theorem sV11_shares : Cond.instanceMethod sY11_shares.1 ∈ sd_tb ∧ Cond.selects sY11_shares.1.cls sY11_shares.1 sY11_shares.1 ∈ sd_tb := ⟨sd_in7_ (i := 80) rfl rfl, sd_in7_ (i := 81) rfl rfl⟩
theorem sW11_between : Cond.code sY11_between.1 sY11_between.2.1 sY11_between.2.2.1 sY11_between.2.2.2 ∈ sd_tb := sd_in7_ (i := 90) rfl rfl
theorem sH11_between : Cond.initialized sY11_between.1.cls ∈ sd_tb ∧ (sY11_between.1.cls ≠ "java/lang/invoke/MethodHandle" ∧ sY11_between.1.cls ≠ "java/lang/invoke/VarHandle" ∧ (parseMethodDescriptor sY11_between.1.desc).map (fun d => d.parameters.length) = some 1) ∧ sY11_between.2.2.1 ≤ 40 := ⟨sd_in1_ (i := 12) rfl rfl, ⟨sd_nm11, sd_nv11, rfl⟩, by decide⟩
theorem sV11_between : Cond.instanceMethod sY11_between.1 ∈ sd_tb ∧ Cond.selects sY11_between.1.cls sY11_between.1 sY11_between.1 ∈ sd_tb := ⟨sd_in7_ (i := 88) rfl rfl, sd_in7_ (i := 89) rfl rfl⟩
theorem sW11_isBarred : Cond.code sY11_isBarred.1 sY11_isBarred.2.1 sY11_isBarred.2.2.1 sY11_isBarred.2.2.2 ∈ sd_tb := sd_in6_ (i := 127) rfl rfl
theorem sH11_isBarred : Cond.initialized sY11_isBarred.1.cls ∈ sd_tb ∧ (sY11_isBarred.1.cls ≠ "java/lang/invoke/MethodHandle" ∧ sY11_isBarred.1.cls ≠ "java/lang/invoke/VarHandle" ∧ (parseMethodDescriptor sY11_isBarred.1.desc).map (fun d => d.parameters.length) = some 2) ∧ sY11_isBarred.2.2.1 ≤ 40 := ⟨sd_in1_ (i := 12) rfl rfl, ⟨sd_nm11, sd_nv11, rfl⟩, by decide⟩
theorem sV11_isBarred : Cond.instanceMethod sY11_isBarred.1 ∈ sd_tb ∧ Cond.selects sY11_isBarred.1.cls sY11_isBarred.1 sY11_isBarred.1 ∈ sd_tb := ⟨sd_in6_ (i := 126) rfl rfl, sd_in2 (i := 35) rfl rfl⟩
theorem sW11_barred : Cond.code sY11_barred.1 sY11_barred.2.1 sY11_barred.2.2.1 sY11_barred.2.2.2 ∈ sd_tb := sd_in7_ (i := 94) rfl rfl
theorem sH11_barred : Cond.initialized sY11_barred.1.cls ∈ sd_tb ∧ (sY11_barred.1.cls ≠ "java/lang/invoke/MethodHandle" ∧ sY11_barred.1.cls ≠ "java/lang/invoke/VarHandle" ∧ (parseMethodDescriptor sY11_barred.1.desc).map (fun d => d.parameters.length) = some 2) ∧ sY11_barred.2.2.1 ≤ 40 := ⟨sd_in1_ (i := 12) rfl rfl, ⟨sd_nm11, sd_nv11, rfl⟩, by decide⟩
theorem sV11_barred : Cond.instanceMethod sY11_barred.1 ∈ sd_tb ∧ Cond.selects sY11_barred.1.cls sY11_barred.1 sY11_barred.1 ∈ sd_tb := ⟨sd_in7_ (i := 92) rfl rfl, sd_in7_ (i := 93) rfl rfl⟩
theorem sW11_why : Cond.code sY11_why.1 sY11_why.2.1 sY11_why.2.2.1 sY11_why.2.2.2 ∈ sd_tb := sd_in7_ (i := 98) rfl rfl
theorem sH11_why : Cond.initialized sY11_why.1.cls ∈ sd_tb ∧ (sY11_why.1.cls ≠ "java/lang/invoke/MethodHandle" ∧ sY11_why.1.cls ≠ "java/lang/invoke/VarHandle" ∧ (parseMethodDescriptor sY11_why.1.desc).map (fun d => d.parameters.length) = some 2) ∧ sY11_why.2.2.1 ≤ 40 := ⟨sd_in1_ (i := 12) rfl rfl, ⟨sd_nm11, sd_nv11, rfl⟩, by decide⟩
theorem sV11_why : Cond.instanceMethod sY11_why.1 ∈ sd_tb ∧ Cond.selects sY11_why.1.cls sY11_why.1 sY11_why.1 ∈ sd_tb := ⟨sd_in7_ (i := 96) rfl rfl, sd_in7_ (i := 97) rfl rfl⟩
theorem sW11_rumour : Cond.code sY11_rumour.1 sY11_rumour.2.1 sY11_rumour.2.2.1 sY11_rumour.2.2.2 ∈ sd_tb := sd_in7_ (i := 102) rfl rfl
theorem sH11_rumour : Cond.initialized sY11_rumour.1.cls ∈ sd_tb ∧ (sY11_rumour.1.cls ≠ "java/lang/invoke/MethodHandle" ∧ sY11_rumour.1.cls ≠ "java/lang/invoke/VarHandle" ∧ (parseMethodDescriptor sY11_rumour.1.desc).map (fun d => d.parameters.length) = some 2) ∧ sY11_rumour.2.2.1 ≤ 40 := ⟨sd_in1_ (i := 12) rfl rfl, ⟨sd_nm11, sd_nv11, rfl⟩, by decide⟩
theorem sV11_rumour : Cond.instanceMethod sY11_rumour.1 ∈ sd_tb ∧ Cond.selects sY11_rumour.1.cls sY11_rumour.1 sY11_rumour.1 ∈ sd_tb := ⟨sd_in7_ (i := 100) rfl rfl, sd_in7_ (i := 101) rfl rfl⟩
theorem sW11_out : Cond.code sY11_out.1 sY11_out.2.1 sY11_out.2.2.1 sY11_out.2.2.2 ∈ sd_tb := sd_in7_ (i := 106) rfl rfl
theorem sH11_out : Cond.initialized sY11_out.1.cls ∈ sd_tb ∧ (sY11_out.1.cls ≠ "java/lang/invoke/MethodHandle" ∧ sY11_out.1.cls ≠ "java/lang/invoke/VarHandle" ∧ (parseMethodDescriptor sY11_out.1.desc).map (fun d => d.parameters.length) = some 2) ∧ sY11_out.2.2.1 ≤ 40 := ⟨sd_in1_ (i := 12) rfl rfl, ⟨sd_nm11, sd_nv11, rfl⟩, by decide⟩
theorem sV11_out : Cond.instanceMethod sY11_out.1 ∈ sd_tb ∧ Cond.selects sY11_out.1.cls sY11_out.1 sY11_out.1 ∈ sd_tb := ⟨sd_in7_ (i := 104) rfl rfl, sd_in7_ (i := 105) rfl rfl⟩
theorem sW11_squads : Cond.code sY11_squads.1 sY11_squads.2.1 sY11_squads.2.2.1 sY11_squads.2.2.2 ∈ sd_tb := sd_in7_ (i := 110) rfl rfl
theorem sH11_squads : Cond.initialized sY11_squads.1.cls ∈ sd_tb ∧ (sY11_squads.1.cls ≠ "java/lang/invoke/MethodHandle" ∧ sY11_squads.1.cls ≠ "java/lang/invoke/VarHandle" ∧ (parseMethodDescriptor sY11_squads.1.desc).map (fun d => d.parameters.length) = some 1) ∧ sY11_squads.2.2.1 ≤ 40 := ⟨sd_in1_ (i := 12) rfl rfl, ⟨sd_nm11, sd_nv11, rfl⟩, by decide⟩
theorem sV11_squads : Cond.instanceMethod sY11_squads.1 ∈ sd_tb ∧ Cond.selects sY11_squads.1.cls sY11_squads.1 sY11_squads.1 ∈ sd_tb := ⟨sd_in7_ (i := 108) rfl rfl, sd_in7_ (i := 109) rfl rfl⟩
theorem sW11_sets : Cond.code sY11_sets.1 sY11_sets.2.1 sY11_sets.2.2.1 sY11_sets.2.2.2 ∈ sd_tb := sd_in7_ (i := 118) rfl rfl
theorem sH11_sets : Cond.initialized sY11_sets.1.cls ∈ sd_tb ∧ (sY11_sets.1.cls ≠ "java/lang/invoke/MethodHandle" ∧ sY11_sets.1.cls ≠ "java/lang/invoke/VarHandle" ∧ (parseMethodDescriptor sY11_sets.1.desc).map (fun d => d.parameters.length) = some 1) ∧ sY11_sets.2.2.1 ≤ 40 := ⟨sd_in1_ (i := 12) rfl rfl, ⟨sd_nm11, sd_nv11, rfl⟩, by decide⟩
theorem sV11_sets : Cond.instanceMethod sY11_sets.1 ∈ sd_tb ∧ Cond.selects sY11_sets.1.cls sY11_sets.1 sY11_sets.1 ∈ sd_tb := ⟨sd_in7_ (i := 117) rfl rfl, sd_in2 (i := 59) rfl rfl⟩
theorem sW11_believe : Cond.code sY11_believe.1 sY11_believe.2.1 sY11_believe.2.2.1 sY11_believe.2.2.2 ∈ sd_tb := sd_in7_ (i := 114) rfl rfl
theorem sH11_believe : Cond.initialized sY11_believe.1.cls ∈ sd_tb ∧ (sY11_believe.1.cls ≠ "java/lang/invoke/MethodHandle" ∧ sY11_believe.1.cls ≠ "java/lang/invoke/VarHandle" ∧ (parseMethodDescriptor sY11_believe.1.desc).map (fun d => d.parameters.length) = some 0) ∧ sY11_believe.2.2.1 ≤ 40 := ⟨sd_in1_ (i := 12) rfl rfl, ⟨sd_nm11, sd_nv11, rfl⟩, by decide⟩
theorem sV11_believe : Cond.instanceMethod sY11_believe.1 ∈ sd_tb ∧ Cond.selects sY11_believe.1.cls sY11_believe.1 sY11_believe.1 ∈ sd_tb := ⟨sd_in7_ (i := 112) rfl rfl, sd_in7_ (i := 113) rfl rfl⟩
theorem sW11_feint : Cond.code sY11_feint.1 sY11_feint.2.1 sY11_feint.2.2.1 sY11_feint.2.2.2 ∈ sd_tb := sd_in7_ (i := 122) rfl rfl
theorem sH11_feint : Cond.initialized sY11_feint.1.cls ∈ sd_tb ∧ (sY11_feint.1.cls ≠ "java/lang/invoke/MethodHandle" ∧ sY11_feint.1.cls ≠ "java/lang/invoke/VarHandle" ∧ (parseMethodDescriptor sY11_feint.1.desc).map (fun d => d.parameters.length) = some 1) ∧ sY11_feint.2.2.1 ≤ 40 := ⟨sd_in1_ (i := 12) rfl rfl, ⟨sd_nm11, sd_nv11, rfl⟩, by decide⟩
theorem sV11_feint : Cond.instanceMethod sY11_feint.1 ∈ sd_tb ∧ Cond.selects sY11_feint.1.cls sY11_feint.1 sY11_feint.1 ∈ sd_tb := ⟨sd_in7_ (i := 120) rfl rfl, sd_in7_ (i := 121) rfl rfl⟩
theorem sW11_copyTerm : Cond.code sY11_copyTerm.1 sY11_copyTerm.2.1 sY11_copyTerm.2.2.1 sY11_copyTerm.2.2.2 ∈ sd_tb := sd_in7_ (i := 126) rfl rfl
theorem sH11_copyTerm : Cond.initialized sY11_copyTerm.1.cls ∈ sd_tb ∧ (sY11_copyTerm.1.cls ≠ "java/lang/invoke/MethodHandle" ∧ sY11_copyTerm.1.cls ≠ "java/lang/invoke/VarHandle" ∧ (parseMethodDescriptor sY11_copyTerm.1.desc).map (fun d => d.parameters.length) = some 3) ∧ sY11_copyTerm.2.2.1 ≤ 40 := ⟨sd_in1_ (i := 12) rfl rfl, ⟨sd_nm11, sd_nv11, rfl⟩, by decide⟩
theorem sV11_copyTerm : Cond.instanceMethod sY11_copyTerm.1 ∈ sd_tb ∧ Cond.selects sY11_copyTerm.1.cls sY11_copyTerm.1 sY11_copyTerm.1 ∈ sd_tb := ⟨sd_in7_ (i := 124) rfl rfl, sd_in7_ (i := 125) rfl rfl⟩
theorem sW11_isUnlike : Cond.code sY11_isUnlike.1 sY11_isUnlike.2.1 sY11_isUnlike.2.2.1 sY11_isUnlike.2.2.2 ∈ sd_tb := sd_in7_ (i := 130) rfl rfl
theorem sH11_isUnlike : Cond.initialized sY11_isUnlike.1.cls ∈ sd_tb ∧ (sY11_isUnlike.1.cls ≠ "java/lang/invoke/MethodHandle" ∧ sY11_isUnlike.1.cls ≠ "java/lang/invoke/VarHandle" ∧ (parseMethodDescriptor sY11_isUnlike.1.desc).map (fun d => d.parameters.length) = some 1) ∧ sY11_isUnlike.2.2.1 ≤ 40 := ⟨sd_in1_ (i := 12) rfl rfl, ⟨sd_nm11, sd_nv11, rfl⟩, by decide⟩
theorem sV11_isUnlike : Cond.instanceMethod sY11_isUnlike.1 ∈ sd_tb ∧ Cond.selects sY11_isUnlike.1.cls sY11_isUnlike.1 sY11_isUnlike.1 ∈ sd_tb := ⟨sd_in7_ (i := 129) rfl rfl, sd_in2 (i := 60) rfl rfl⟩
theorem sW11_unlike : Cond.code sY11_unlike.1 sY11_unlike.2.1 sY11_unlike.2.2.1 sY11_unlike.2.2.2 ∈ sd_tb := sd_in7_ (i := 134) rfl rfl
theorem sH11_unlike : Cond.initialized sY11_unlike.1.cls ∈ sd_tb ∧ (sY11_unlike.1.cls ≠ "java/lang/invoke/MethodHandle" ∧ sY11_unlike.1.cls ≠ "java/lang/invoke/VarHandle" ∧ (parseMethodDescriptor sY11_unlike.1.desc).map (fun d => d.parameters.length) = some 0) ∧ sY11_unlike.2.2.1 ≤ 40 := ⟨sd_in1_ (i := 12) rfl rfl, ⟨sd_nm11, sd_nv11, rfl⟩, by decide⟩
theorem sV11_unlike : Cond.instanceMethod sY11_unlike.1 ∈ sd_tb ∧ Cond.selects sY11_unlike.1.cls sY11_unlike.1 sY11_unlike.1 ∈ sd_tb := ⟨sd_in7_ (i := 132) rfl rfl, sd_in7_ (i := 133) rfl rfl⟩
theorem sW11_sumOf : Cond.code sY11_sumOf.1 sY11_sumOf.2.1 sY11_sumOf.2.2.1 sY11_sumOf.2.2.2 ∈ sd_tb := sd_in7_ (i := 142) rfl rfl
theorem sH11_sumOf : Cond.initialized sY11_sumOf.1.cls ∈ sd_tb ∧ (sY11_sumOf.1.cls ≠ "java/lang/invoke/MethodHandle" ∧ sY11_sumOf.1.cls ≠ "java/lang/invoke/VarHandle" ∧ (parseMethodDescriptor sY11_sumOf.1.desc).map (fun d => d.parameters.length) = some 2) ∧ sY11_sumOf.2.2.1 ≤ 40 := ⟨sd_in1_ (i := 12) rfl rfl, ⟨sd_nm11, sd_nv11, rfl⟩, by decide⟩
theorem sV11_sumOf : Cond.instanceMethod sY11_sumOf.1 ∈ sd_tb ∧ Cond.selects sY11_sumOf.1.cls sY11_sumOf.1 sY11_sumOf.1 ∈ sd_tb := ⟨sd_in7_ (i := 141) rfl rfl, sd_in2 (i := 61) rfl rfl⟩
theorem sW11_sign : Cond.code sY11_sign.1 sY11_sign.2.1 sY11_sign.2.2.1 sY11_sign.2.2.2 ∈ sd_tb := sd_in7_ (i := 138) rfl rfl
theorem sH11_sign : Cond.initialized sY11_sign.1.cls ∈ sd_tb ∧ (sY11_sign.1.cls ≠ "java/lang/invoke/MethodHandle" ∧ sY11_sign.1.cls ≠ "java/lang/invoke/VarHandle" ∧ (parseMethodDescriptor sY11_sign.1.desc).map (fun d => d.parameters.length) = some 3) ∧ sY11_sign.2.2.1 ≤ 40 := ⟨sd_in1_ (i := 12) rfl rfl, ⟨sd_nm11, sd_nv11, rfl⟩, by decide⟩
theorem sV11_sign : Cond.instanceMethod sY11_sign.1 ∈ sd_tb ∧ Cond.selects sY11_sign.1.cls sY11_sign.1 sY11_sign.1 ∈ sd_tb := ⟨sd_in7_ (i := 136) rfl rfl, sd_in7_ (i := 137) rfl rfl⟩
theorem sW11_list : Cond.code sY11_list.1 sY11_list.2.1 sY11_list.2.2.1 sY11_list.2.2.2 ∈ sd_tb := sd_in7_ (i := 146) rfl rfl
theorem sH11_list : Cond.initialized sY11_list.1.cls ∈ sd_tb ∧ (sY11_list.1.cls ≠ "java/lang/invoke/MethodHandle" ∧ sY11_list.1.cls ≠ "java/lang/invoke/VarHandle" ∧ (parseMethodDescriptor sY11_list.1.desc).map (fun d => d.parameters.length) = some 3) ∧ sY11_list.2.2.1 ≤ 40 := ⟨sd_in1_ (i := 12) rfl rfl, ⟨sd_nm11, sd_nv11, rfl⟩, by decide⟩
theorem sV11_list : Cond.instanceMethod sY11_list.1 ∈ sd_tb ∧ Cond.selects sY11_list.1.cls sY11_list.1 sY11_list.1 ∈ sd_tb := ⟨sd_in7_ (i := 144) rfl rfl, sd_in7_ (i := 145) rfl rfl⟩
theorem sW11_want : Cond.code sY11_want.1 sY11_want.2.1 sY11_want.2.2.1 sY11_want.2.2.2 ∈ sd_tb := sd_in7_ (i := 150) rfl rfl
theorem sH11_want : Cond.initialized sY11_want.1.cls ∈ sd_tb ∧ (sY11_want.1.cls ≠ "java/lang/invoke/MethodHandle" ∧ sY11_want.1.cls ≠ "java/lang/invoke/VarHandle" ∧ (parseMethodDescriptor sY11_want.1.desc).map (fun d => d.parameters.length) = some 1) ∧ sY11_want.2.2.1 ≤ 40 := ⟨sd_in1_ (i := 12) rfl rfl, ⟨sd_nm11, sd_nv11, rfl⟩, by decide⟩
theorem sV11_want : Cond.instanceMethod sY11_want.1 ∈ sd_tb ∧ Cond.selects sY11_want.1.cls sY11_want.1 sY11_want.1 ∈ sd_tb := ⟨sd_in7_ (i := 148) rfl rfl, sd_in7_ (i := 149) rfl rfl⟩
theorem sW11_move : Cond.code sY11_move.1 sY11_move.2.1 sY11_move.2.2.1 sY11_move.2.2.2 ∈ sd_tb := sd_in7_ (i := 154) rfl rfl
theorem sH11_move : Cond.initialized sY11_move.1.cls ∈ sd_tb ∧ (sY11_move.1.cls ≠ "java/lang/invoke/MethodHandle" ∧ sY11_move.1.cls ≠ "java/lang/invoke/VarHandle" ∧ (parseMethodDescriptor sY11_move.1.desc).map (fun d => d.parameters.length) = some 4) ∧ sY11_move.2.2.1 ≤ 40 := ⟨sd_in1_ (i := 12) rfl rfl, ⟨sd_nm11, sd_nv11, rfl⟩, by decide⟩
theorem sV11_move : Cond.instanceMethod sY11_move.1 ∈ sd_tb ∧ Cond.selects sY11_move.1.cls sY11_move.1 sY11_move.1 ∈ sd_tb := ⟨sd_in7_ (i := 152) rfl rfl, sd_in7_ (i := 153) rfl rfl⟩
theorem sW11_stands : Cond.code sY11_stands.1 sY11_stands.2.1 sY11_stands.2.2.1 sY11_stands.2.2.2 ∈ sd_tb := sd_in7_ (i := 172) rfl rfl
theorem sH11_stands : Cond.initialized sY11_stands.1.cls ∈ sd_tb ∧ (sY11_stands.1.cls ≠ "java/lang/invoke/MethodHandle" ∧ sY11_stands.1.cls ≠ "java/lang/invoke/VarHandle" ∧ (parseMethodDescriptor sY11_stands.1.desc).map (fun d => d.parameters.length) = some 2) ∧ sY11_stands.2.2.1 ≤ 40 := ⟨sd_in1_ (i := 12) rfl rfl, ⟨sd_nm11, sd_nv11, rfl⟩, by decide⟩
theorem sT11_stands : Cond.static sY11_stands.1 ∈ sd_tb := sd_in7_ (i := 171) rfl rfl
theorem sW11_behind : Cond.code sY11_behind.1 sY11_behind.2.1 sY11_behind.2.2.1 sY11_behind.2.2.2 ∈ sd_tb := sd_in7_ (i := 169) rfl rfl
theorem sH11_behind : Cond.initialized sY11_behind.1.cls ∈ sd_tb ∧ (sY11_behind.1.cls ≠ "java/lang/invoke/MethodHandle" ∧ sY11_behind.1.cls ≠ "java/lang/invoke/VarHandle" ∧ (parseMethodDescriptor sY11_behind.1.desc).map (fun d => d.parameters.length) = some 5) ∧ sY11_behind.2.2.1 ≤ 40 := ⟨sd_in1_ (i := 12) rfl rfl, ⟨sd_nm11, sd_nv11, rfl⟩, by decide⟩
theorem sV11_behind : Cond.instanceMethod sY11_behind.1 ∈ sd_tb ∧ Cond.selects sY11_behind.1.cls sY11_behind.1 sY11_behind.1 ∈ sd_tb := ⟨sd_in7_ (i := 168) rfl rfl, sd_in2 (i := 63) rfl rfl⟩
theorem sW11_game : Cond.code sY11_game.1 sY11_game.2.1 sY11_game.2.2.1 sY11_game.2.2.2 ∈ sd_tb := sd_in7_ (i := 165) rfl rfl
theorem sH11_game : Cond.initialized sY11_game.1.cls ∈ sd_tb ∧ (sY11_game.1.cls ≠ "java/lang/invoke/MethodHandle" ∧ sY11_game.1.cls ≠ "java/lang/invoke/VarHandle" ∧ (parseMethodDescriptor sY11_game.1.desc).map (fun d => d.parameters.length) = some 4) ∧ sY11_game.2.2.1 ≤ 40 := ⟨sd_in1_ (i := 12) rfl rfl, ⟨sd_nm11, sd_nv11, rfl⟩, by decide⟩
theorem sV11_game : Cond.instanceMethod sY11_game.1 ∈ sd_tb ∧ Cond.selects sY11_game.1.cls sY11_game.1 sY11_game.1 ∈ sd_tb := ⟨sd_in7_ (i := 164) rfl rfl, sd_in2 (i := 62) rfl rfl⟩
theorem sW11_isGame : Cond.code sY11_isGame.1 sY11_isGame.2.1 sY11_isGame.2.2.1 sY11_isGame.2.2.2 ∈ sd_tb := sd_in7_ (i := 161) rfl rfl
theorem sH11_isGame : Cond.initialized sY11_isGame.1.cls ∈ sd_tb ∧ (sY11_isGame.1.cls ≠ "java/lang/invoke/MethodHandle" ∧ sY11_isGame.1.cls ≠ "java/lang/invoke/VarHandle" ∧ (parseMethodDescriptor sY11_isGame.1.desc).map (fun d => d.parameters.length) = some 2) ∧ sY11_isGame.2.2.1 ≤ 40 := ⟨sd_in1_ (i := 12) rfl rfl, ⟨sd_nm11, sd_nv11, rfl⟩, by decide⟩
theorem sT11_isGame : Cond.static sY11_isGame.1 ∈ sd_tb := sd_in7_ (i := 160) rfl rfl
theorem sW11_play : Cond.code sY11_play.1 sY11_play.2.1 sY11_play.2.2.1 sY11_play.2.2.2 ∈ sd_tb := sd_in7_ (i := 158) rfl rfl
theorem sH11_play : Cond.initialized sY11_play.1.cls ∈ sd_tb ∧ (sY11_play.1.cls ≠ "java/lang/invoke/MethodHandle" ∧ sY11_play.1.cls ≠ "java/lang/invoke/VarHandle" ∧ (parseMethodDescriptor sY11_play.1.desc).map (fun d => d.parameters.length) = some 3) ∧ sY11_play.2.2.1 ≤ 40 := ⟨sd_in1_ (i := 12) rfl rfl, ⟨sd_nm11, sd_nv11, rfl⟩, by decide⟩
theorem sV11_play : Cond.instanceMethod sY11_play.1 ∈ sd_tb ∧ Cond.selects sY11_play.1.cls sY11_play.1 sY11_play.1 ∈ sd_tb := ⟨sd_in7_ (i := 156) rfl rfl, sd_in7_ (i := 157) rfl rfl⟩
theorem sW11_best : Cond.code sY11_best.1 sY11_best.2.1 sY11_best.2.2.1 sY11_best.2.2.2 ∈ sd_tb := sd_in7_ (i := 176) rfl rfl
theorem sH11_best : Cond.initialized sY11_best.1.cls ∈ sd_tb ∧ (sY11_best.1.cls ≠ "java/lang/invoke/MethodHandle" ∧ sY11_best.1.cls ≠ "java/lang/invoke/VarHandle" ∧ (parseMethodDescriptor sY11_best.1.desc).map (fun d => d.parameters.length) = some 3) ∧ sY11_best.2.2.1 ≤ 40 := ⟨sd_in1_ (i := 12) rfl rfl, ⟨sd_nm11, sd_nv11, rfl⟩, by decide⟩
theorem sV11_best : Cond.instanceMethod sY11_best.1 ∈ sd_tb ∧ Cond.selects sY11_best.1.cls sY11_best.1 sY11_best.1 ∈ sd_tb := ⟨sd_in7_ (i := 174) rfl rfl, sd_in7_ (i := 175) rfl rfl⟩
theorem sW11_fixed : Cond.code sY11_fixed.1 sY11_fixed.2.1 sY11_fixed.2.2.1 sY11_fixed.2.2.2 ∈ sd_tb := sd_in7_ (i := 184) rfl rfl
theorem sH11_fixed : Cond.initialized sY11_fixed.1.cls ∈ sd_tb ∧ (sY11_fixed.1.cls ≠ "java/lang/invoke/MethodHandle" ∧ sY11_fixed.1.cls ≠ "java/lang/invoke/VarHandle" ∧ (parseMethodDescriptor sY11_fixed.1.desc).map (fun d => d.parameters.length) = some 4) ∧ sY11_fixed.2.2.1 ≤ 40 := ⟨sd_in1_ (i := 12) rfl rfl, ⟨sd_nm11, sd_nv11, rfl⟩, by decide⟩
theorem sV11_fixed : Cond.instanceMethod sY11_fixed.1 ∈ sd_tb ∧ Cond.selects sY11_fixed.1.cls sY11_fixed.1 sY11_fixed.1 ∈ sd_tb := ⟨sd_in7_ (i := 183) rfl rfl, sd_in2 (i := 64) rfl rfl⟩
theorem sW11_judge : Cond.code sY11_judge.1 sY11_judge.2.1 sY11_judge.2.2.1 sY11_judge.2.2.2 ∈ sd_tb := sd_in7_ (i := 180) rfl rfl
theorem sH11_judge : Cond.initialized sY11_judge.1.cls ∈ sd_tb ∧ (sY11_judge.1.cls ≠ "java/lang/invoke/MethodHandle" ∧ sY11_judge.1.cls ≠ "java/lang/invoke/VarHandle" ∧ (parseMethodDescriptor sY11_judge.1.desc).map (fun d => d.parameters.length) = some 3) ∧ sY11_judge.2.2.1 ≤ 40 := ⟨sd_in1_ (i := 12) rfl rfl, ⟨sd_nm11, sd_nv11, rfl⟩, by decide⟩
theorem sV11_judge : Cond.instanceMethod sY11_judge.1 ∈ sd_tb ∧ Cond.selects sY11_judge.1.cls sY11_judge.1 sY11_judge.1 ∈ sd_tb := ⟨sd_in7_ (i := 178) rfl rfl, sd_in7_ (i := 179) rfl rfl⟩
theorem sW11_warms : Cond.code sY11_warms.1 sY11_warms.2.1 sY11_warms.2.2.1 sY11_warms.2.2.2 ∈ sd_tb := sd_in7_ (i := 196) rfl rfl
theorem sH11_warms : Cond.initialized sY11_warms.1.cls ∈ sd_tb ∧ (sY11_warms.1.cls ≠ "java/lang/invoke/MethodHandle" ∧ sY11_warms.1.cls ≠ "java/lang/invoke/VarHandle" ∧ (parseMethodDescriptor sY11_warms.1.desc).map (fun d => d.parameters.length) = some 0) ∧ sY11_warms.2.2.1 ≤ 40 := ⟨sd_in1_ (i := 12) rfl rfl, ⟨sd_nm11, sd_nv11, rfl⟩, by decide⟩
theorem sV11_warms : Cond.instanceMethod sY11_warms.1 ∈ sd_tb ∧ Cond.selects sY11_warms.1.cls sY11_warms.1 sY11_warms.1 ∈ sd_tb := ⟨sd_in7_ (i := 195) rfl rfl, sd_in2 (i := 66) rfl rfl⟩
theorem sW11_kitchenFor : Cond.code sY11_kitchenFor.1 sY11_kitchenFor.2.1 sY11_kitchenFor.2.2.1 sY11_kitchenFor.2.2.2 ∈ sd_tb := sd_in7_ (i := 204) rfl rfl
theorem sH11_kitchenFor : Cond.initialized sY11_kitchenFor.1.cls ∈ sd_tb ∧ (sY11_kitchenFor.1.cls ≠ "java/lang/invoke/MethodHandle" ∧ sY11_kitchenFor.1.cls ≠ "java/lang/invoke/VarHandle" ∧ (parseMethodDescriptor sY11_kitchenFor.1.desc).map (fun d => d.parameters.length) = some 1) ∧ sY11_kitchenFor.2.2.1 ≤ 40 := ⟨sd_in1_ (i := 12) rfl rfl, ⟨sd_nm11, sd_nv11, rfl⟩, by decide⟩
theorem sV11_kitchenFor : Cond.instanceMethod sY11_kitchenFor.1 ∈ sd_tb ∧ Cond.selects sY11_kitchenFor.1.cls sY11_kitchenFor.1 sY11_kitchenFor.1 ∈ sd_tb := ⟨sd_in7_ (i := 203) rfl rfl, sd_in2 (i := 68) rfl rfl⟩
theorem sW11_eats : Cond.code sY11_eats.1 sY11_eats.2.1 sY11_eats.2.2.1 sY11_eats.2.2.2 ∈ sd_tb := sd_in7_ (i := 200) rfl rfl
theorem sH11_eats : Cond.initialized sY11_eats.1.cls ∈ sd_tb ∧ (sY11_eats.1.cls ≠ "java/lang/invoke/MethodHandle" ∧ sY11_eats.1.cls ≠ "java/lang/invoke/VarHandle" ∧ (parseMethodDescriptor sY11_eats.1.desc).map (fun d => d.parameters.length) = some 1) ∧ sY11_eats.2.2.1 ≤ 40 := ⟨sd_in1_ (i := 12) rfl rfl, ⟨sd_nm11, sd_nv11, rfl⟩, by decide⟩
theorem sV11_eats : Cond.instanceMethod sY11_eats.1 ∈ sd_tb ∧ Cond.selects sY11_eats.1.cls sY11_eats.1 sY11_eats.1 ∈ sd_tb := ⟨sd_in7_ (i := 199) rfl rfl, sd_in2 (i := 67) rfl rfl⟩
theorem sW11_tires : Cond.code sY11_tires.1 sY11_tires.2.1 sY11_tires.2.2.1 sY11_tires.2.2.2 ∈ sd_tb := sd_in7_ (i := 208) rfl rfl
theorem sH11_tires : Cond.initialized sY11_tires.1.cls ∈ sd_tb ∧ (sY11_tires.1.cls ≠ "java/lang/invoke/MethodHandle" ∧ sY11_tires.1.cls ≠ "java/lang/invoke/VarHandle" ∧ (parseMethodDescriptor sY11_tires.1.desc).map (fun d => d.parameters.length) = some 1) ∧ sY11_tires.2.2.1 ≤ 40 := ⟨sd_in1_ (i := 12) rfl rfl, ⟨sd_nm11, sd_nv11, rfl⟩, by decide⟩
theorem sV11_tires : Cond.instanceMethod sY11_tires.1 ∈ sd_tb ∧ Cond.selects sY11_tires.1.cls sY11_tires.1 sY11_tires.1 ∈ sd_tb := ⟨sd_in7_ (i := 207) rfl rfl, sd_in2 (i := 69) rfl rfl⟩
theorem sW11_works : Cond.code sY11_works.1 sY11_works.2.1 sY11_works.2.2.1 sY11_works.2.2.2 ∈ sd_tb := sd_in7_ (i := 212) rfl rfl
theorem sH11_works : Cond.initialized sY11_works.1.cls ∈ sd_tb ∧ (sY11_works.1.cls ≠ "java/lang/invoke/MethodHandle" ∧ sY11_works.1.cls ≠ "java/lang/invoke/VarHandle" ∧ (parseMethodDescriptor sY11_works.1.desc).map (fun d => d.parameters.length) = some 0) ∧ sY11_works.2.2.1 ≤ 40 := ⟨sd_in1_ (i := 12) rfl rfl, ⟨sd_nm11, sd_nv11, rfl⟩, by decide⟩
theorem sV11_works : Cond.instanceMethod sY11_works.1 ∈ sd_tb ∧ Cond.selects sY11_works.1.cls sY11_works.1 sY11_works.1 ∈ sd_tb := ⟨sd_in7_ (i := 211) rfl rfl, sd_in2 (i := 70) rfl rfl⟩
theorem sW11_closes : Cond.code sY11_closes.1 sY11_closes.2.1 sY11_closes.2.2.1 sY11_closes.2.2.2 ∈ sd_tb := sd_in7_ (i := 192) rfl rfl
theorem sH11_closes : Cond.initialized sY11_closes.1.cls ∈ sd_tb ∧ (sY11_closes.1.cls ≠ "java/lang/invoke/MethodHandle" ∧ sY11_closes.1.cls ≠ "java/lang/invoke/VarHandle" ∧ (parseMethodDescriptor sY11_closes.1.desc).map (fun d => d.parameters.length) = some 0) ∧ sY11_closes.2.2.1 ≤ 40 := ⟨sd_in1_ (i := 12) rfl rfl, ⟨sd_nm11, sd_nv11, rfl⟩, by decide⟩
theorem sV11_closes : Cond.instanceMethod sY11_closes.1 ∈ sd_tb ∧ Cond.selects sY11_closes.1.cls sY11_closes.1 sY11_closes.1 ∈ sd_tb := ⟨sd_in7_ (i := 191) rfl rfl, sd_in2 (i := 65) rfl rfl⟩
theorem sW11_writes : Cond.code sY11_writes.1 sY11_writes.2.1 sY11_writes.2.2.1 sY11_writes.2.2.2 ∈ sd_tb := sd_in7_ (i := 216) rfl rfl
theorem sH11_writes : Cond.initialized sY11_writes.1.cls ∈ sd_tb ∧ (sY11_writes.1.cls ≠ "java/lang/invoke/MethodHandle" ∧ sY11_writes.1.cls ≠ "java/lang/invoke/VarHandle" ∧ (parseMethodDescriptor sY11_writes.1.desc).map (fun d => d.parameters.length) = some 2) ∧ sY11_writes.2.2.1 ≤ 40 := ⟨sd_in1_ (i := 12) rfl rfl, ⟨sd_nm11, sd_nv11, rfl⟩, by decide⟩
theorem sV11_writes : Cond.instanceMethod sY11_writes.1 ∈ sd_tb ∧ Cond.selects sY11_writes.1.cls sY11_writes.1 sY11_writes.1 ∈ sd_tb := ⟨sd_in7_ (i := 215) rfl rfl, sd_in2 (i := 71) rfl rfl⟩
theorem sW11_heldGates : Cond.code sY11_heldGates.1 sY11_heldGates.2.1 sY11_heldGates.2.2.1 sY11_heldGates.2.2.2 ∈ sd_tb := sd_in7_ (i := 220) rfl rfl
theorem sH11_heldGates : Cond.initialized sY11_heldGates.1.cls ∈ sd_tb ∧ (sY11_heldGates.1.cls ≠ "java/lang/invoke/MethodHandle" ∧ sY11_heldGates.1.cls ≠ "java/lang/invoke/VarHandle" ∧ (parseMethodDescriptor sY11_heldGates.1.desc).map (fun d => d.parameters.length) = some 0) ∧ sY11_heldGates.2.2.1 ≤ 40 := ⟨sd_in1_ (i := 12) rfl rfl, ⟨sd_nm11, sd_nv11, rfl⟩, by decide⟩
theorem sV11_heldGates : Cond.instanceMethod sY11_heldGates.1 ∈ sd_tb ∧ Cond.selects sY11_heldGates.1.cls sY11_heldGates.1 sY11_heldGates.1 ∈ sd_tb := ⟨sd_in7_ (i := 219) rfl rfl, sd_in2 (i := 72) rfl rfl⟩
theorem sW11_tick : Cond.code sY11_tick.1 sY11_tick.2.1 sY11_tick.2.2.1 sY11_tick.2.2.2 ∈ sd_tb := sd_in7_ (i := 188) rfl rfl
theorem sH11_tick : Cond.initialized sY11_tick.1.cls ∈ sd_tb ∧ (sY11_tick.1.cls ≠ "java/lang/invoke/MethodHandle" ∧ sY11_tick.1.cls ≠ "java/lang/invoke/VarHandle" ∧ (parseMethodDescriptor sY11_tick.1.desc).map (fun d => d.parameters.length) = some 1) ∧ sY11_tick.2.2.1 ≤ 40 := ⟨sd_in1_ (i := 12) rfl rfl, ⟨sd_nm11, sd_nv11, rfl⟩, by decide⟩
theorem sV11_tick : Cond.instanceMethod sY11_tick.1 ∈ sd_tb ∧ Cond.selects sY11_tick.1.cls sY11_tick.1 sY11_tick.1 ∈ sd_tb := ⟨sd_in7_ (i := 186) rfl rfl, sd_in7_ (i := 187) rfl rfl⟩
theorem sW11_isClosed : Cond.code sY11_isClosed.1 sY11_isClosed.2.1 sY11_isClosed.2.2.1 sY11_isClosed.2.2.2 ∈ sd_tb := sd_in7_ (i := 228) rfl rfl
theorem sH11_isClosed : Cond.initialized sY11_isClosed.1.cls ∈ sd_tb ∧ (sY11_isClosed.1.cls ≠ "java/lang/invoke/MethodHandle" ∧ sY11_isClosed.1.cls ≠ "java/lang/invoke/VarHandle" ∧ (parseMethodDescriptor sY11_isClosed.1.desc).map (fun d => d.parameters.length) = some 1) ∧ sY11_isClosed.2.2.1 ≤ 40 := ⟨sd_in1_ (i := 12) rfl rfl, ⟨sd_nm11, sd_nv11, rfl⟩, by decide⟩
theorem sV11_isClosed : Cond.instanceMethod sY11_isClosed.1 ∈ sd_tb ∧ Cond.selects sY11_isClosed.1.cls sY11_isClosed.1 sY11_isClosed.1 ∈ sd_tb := ⟨sd_in7_ (i := 227) rfl rfl, sd_in2 (i := 73) rfl rfl⟩
theorem sW11_book : Cond.code sY11_book.1 sY11_book.2.1 sY11_book.2.2.1 sY11_book.2.2.2 ∈ sd_tb := sd_in7_ (i := 224) rfl rfl
theorem sH11_book : Cond.initialized sY11_book.1.cls ∈ sd_tb ∧ (sY11_book.1.cls ≠ "java/lang/invoke/MethodHandle" ∧ sY11_book.1.cls ≠ "java/lang/invoke/VarHandle" ∧ (parseMethodDescriptor sY11_book.1.desc).map (fun d => d.parameters.length) = some 2) ∧ sY11_book.2.2.1 ≤ 40 := ⟨sd_in1_ (i := 12) rfl rfl, ⟨sd_nm11, sd_nv11, rfl⟩, by decide⟩
theorem sV11_book : Cond.instanceMethod sY11_book.1 ∈ sd_tb ∧ Cond.selects sY11_book.1.cls sY11_book.1 sY11_book.1 ∈ sd_tb := ⟨sd_in7_ (i := 222) rfl rfl, sd_in7_ (i := 223) rfl rfl⟩
theorem sW11_check : Cond.code sY11_check.1 sY11_check.2.1 sY11_check.2.2.1 sY11_check.2.2.2 ∈ sd_tb := sd_in7_ (i := 232) rfl rfl
theorem sH11_check : Cond.initialized sY11_check.1.cls ∈ sd_tb ∧ (sY11_check.1.cls ≠ "java/lang/invoke/MethodHandle" ∧ sY11_check.1.cls ≠ "java/lang/invoke/VarHandle" ∧ (parseMethodDescriptor sY11_check.1.desc).map (fun d => d.parameters.length) = some 2) ∧ sY11_check.2.2.1 ≤ 40 := ⟨sd_in1_ (i := 12) rfl rfl, ⟨sd_nm11, sd_nv11, rfl⟩, by decide⟩
theorem sV11_check : Cond.instanceMethod sY11_check.1 ∈ sd_tb ∧ Cond.selects sY11_check.1.cls sY11_check.1 sY11_check.1 ∈ sd_tb := ⟨sd_in7_ (i := 230) rfl rfl, sd_in7_ (i := 231) rfl rfl⟩
theorem sW11_isSheet : Cond.code sY11_isSheet.1 sY11_isSheet.2.1 sY11_isSheet.2.2.1 sY11_isSheet.2.2.2 ∈ sd_tb := sd_in7_ (i := 35) rfl rfl
theorem sH11_isSheet : Cond.initialized sY11_isSheet.1.cls ∈ sd_tb ∧ (sY11_isSheet.1.cls ≠ "java/lang/invoke/MethodHandle" ∧ sY11_isSheet.1.cls ≠ "java/lang/invoke/VarHandle" ∧ (parseMethodDescriptor sY11_isSheet.1.desc).map (fun d => d.parameters.length) = some 1) ∧ sY11_isSheet.2.2.1 ≤ 40 := ⟨sd_in1_ (i := 12) rfl rfl, ⟨sd_nm11, sd_nv11, rfl⟩, by decide⟩
theorem sT11_isSheet : Cond.static sY11_isSheet.1 ∈ sd_tb := sd_in7_ (i := 34) rfl rfl
theorem sW11_sheet : Cond.code sY11_sheet.1 sY11_sheet.2.1 sY11_sheet.2.2.1 sY11_sheet.2.2.2 ∈ sd_tb := sd_in7_ (i := 236) rfl rfl
theorem sH11_sheet : Cond.initialized sY11_sheet.1.cls ∈ sd_tb ∧ (sY11_sheet.1.cls ≠ "java/lang/invoke/MethodHandle" ∧ sY11_sheet.1.cls ≠ "java/lang/invoke/VarHandle" ∧ (parseMethodDescriptor sY11_sheet.1.desc).map (fun d => d.parameters.length) = some 3) ∧ sY11_sheet.2.2.1 ≤ 40 := ⟨sd_in1_ (i := 12) rfl rfl, ⟨sd_nm11, sd_nv11, rfl⟩, by decide⟩
theorem sV11_sheet : Cond.instanceMethod sY11_sheet.1 ∈ sd_tb ∧ Cond.selects sY11_sheet.1.cls sY11_sheet.1 sY11_sheet.1 ∈ sd_tb := ⟨sd_in7_ (i := 234) rfl rfl, sd_in7_ (i := 235) rfl rfl⟩
theorem sW11_write : Cond.code sY11_write.1 sY11_write.2.1 sY11_write.2.2.1 sY11_write.2.2.2 ∈ sd_tb := sd_in8_ (i := 0) rfl rfl
theorem sH11_write : Cond.initialized sY11_write.1.cls ∈ sd_tb ∧ (sY11_write.1.cls ≠ "java/lang/invoke/MethodHandle" ∧ sY11_write.1.cls ≠ "java/lang/invoke/VarHandle" ∧ (parseMethodDescriptor sY11_write.1.desc).map (fun d => d.parameters.length) = some 3) ∧ sY11_write.2.2.1 ≤ 40 := ⟨sd_in1_ (i := 12) rfl rfl, ⟨sd_nm11, sd_nv11, rfl⟩, by decide⟩
theorem sV11_write : Cond.instanceMethod sY11_write.1 ∈ sd_tb ∧ Cond.selects sY11_write.1.cls sY11_write.1 sY11_write.1 ∈ sd_tb := ⟨sd_in7_ (i := 238) rfl rfl, sd_in7_ (i := 239) rfl rfl⟩
theorem sW11_has : Cond.code sY11_has.1 sY11_has.2.1 sY11_has.2.2.1 sY11_has.2.2.2 ∈ sd_tb := sd_in8_ (i := 8) rfl rfl
theorem sH11_has : Cond.initialized sY11_has.1.cls ∈ sd_tb ∧ (sY11_has.1.cls ≠ "java/lang/invoke/MethodHandle" ∧ sY11_has.1.cls ≠ "java/lang/invoke/VarHandle" ∧ (parseMethodDescriptor sY11_has.1.desc).map (fun d => d.parameters.length) = some 3) ∧ sY11_has.2.2.1 ≤ 40 := ⟨sd_in1_ (i := 12) rfl rfl, ⟨sd_nm11, sd_nv11, rfl⟩, by decide⟩
theorem sV11_has : Cond.instanceMethod sY11_has.1 ∈ sd_tb ∧ Cond.selects sY11_has.1.cls sY11_has.1 sY11_has.1 ∈ sd_tb := ⟨sd_in8_ (i := 7) rfl rfl, sd_in2 (i := 74) rfl rfl⟩
theorem sW11_copy : Cond.code sY11_copy.1 sY11_copy.2.1 sY11_copy.2.2.1 sY11_copy.2.2.2 ∈ sd_tb := sd_in8_ (i := 4) rfl rfl
theorem sH11_copy : Cond.initialized sY11_copy.1.cls ∈ sd_tb ∧ (sY11_copy.1.cls ≠ "java/lang/invoke/MethodHandle" ∧ sY11_copy.1.cls ≠ "java/lang/invoke/VarHandle" ∧ (parseMethodDescriptor sY11_copy.1.desc).map (fun d => d.parameters.length) = some 5) ∧ sY11_copy.2.2.1 ≤ 40 := ⟨sd_in1_ (i := 12) rfl rfl, ⟨sd_nm11, sd_nv11, rfl⟩, by decide⟩
theorem sV11_copy : Cond.instanceMethod sY11_copy.1 ∈ sd_tb ∧ Cond.selects sY11_copy.1.cls sY11_copy.1 sY11_copy.1 ∈ sd_tb := ⟨sd_in8_ (i := 2) rfl rfl, sd_in8_ (i := 3) rfl rfl⟩
theorem sW11_image : Cond.code sY11_image.1 sY11_image.2.1 sY11_image.2.2.1 sY11_image.2.2.2 ∈ sd_tb := sd_in8_ (i := 12) rfl rfl
theorem sH11_image : Cond.initialized sY11_image.1.cls ∈ sd_tb ∧ (sY11_image.1.cls ≠ "java/lang/invoke/MethodHandle" ∧ sY11_image.1.cls ≠ "java/lang/invoke/VarHandle" ∧ (parseMethodDescriptor sY11_image.1.desc).map (fun d => d.parameters.length) = some 0) ∧ sY11_image.2.2.1 ≤ 40 := ⟨sd_in1_ (i := 12) rfl rfl, ⟨sd_nm11, sd_nv11, rfl⟩, by decide⟩
theorem sV11_image : Cond.instanceMethod sY11_image.1 ∈ sd_tb ∧ Cond.selects sY11_image.1.cls sY11_image.1 sY11_image.1 ∈ sd_tb := ⟨sd_in8_ (i := 10) rfl rfl, sd_in8_ (i := 11) rfl rfl⟩
theorem sW11_undo : Cond.code sY11_undo.1 sY11_undo.2.1 sY11_undo.2.2.1 sY11_undo.2.2.2 ∈ sd_tb := sd_in8_ (i := 16) rfl rfl
theorem sH11_undo : Cond.initialized sY11_undo.1.cls ∈ sd_tb ∧ (sY11_undo.1.cls ≠ "java/lang/invoke/MethodHandle" ∧ sY11_undo.1.cls ≠ "java/lang/invoke/VarHandle" ∧ (parseMethodDescriptor sY11_undo.1.desc).map (fun d => d.parameters.length) = some 0) ∧ sY11_undo.2.2.1 ≤ 40 := ⟨sd_in1_ (i := 12) rfl rfl, ⟨sd_nm11, sd_nv11, rfl⟩, by decide⟩
theorem sV11_undo : Cond.instanceMethod sY11_undo.1 ∈ sd_tb ∧ Cond.selects sY11_undo.1.cls sY11_undo.1 sY11_undo.1 ∈ sd_tb := ⟨sd_in8_ (i := 14) rfl rfl, sd_in8_ (i := 15) rfl rfl⟩
theorem sW11_tear : Cond.code sY11_tear.1 sY11_tear.2.1 sY11_tear.2.2.1 sY11_tear.2.2.2 ∈ sd_tb := sd_in8_ (i := 20) rfl rfl
theorem sH11_tear : Cond.initialized sY11_tear.1.cls ∈ sd_tb ∧ (sY11_tear.1.cls ≠ "java/lang/invoke/MethodHandle" ∧ sY11_tear.1.cls ≠ "java/lang/invoke/VarHandle" ∧ (parseMethodDescriptor sY11_tear.1.desc).map (fun d => d.parameters.length) = some 0) ∧ sY11_tear.2.2.1 ≤ 40 := ⟨sd_in1_ (i := 12) rfl rfl, ⟨sd_nm11, sd_nv11, rfl⟩, by decide⟩
theorem sV11_tear : Cond.instanceMethod sY11_tear.1 ∈ sd_tb ∧ Cond.selects sY11_tear.1.cls sY11_tear.1 sY11_tear.1 ∈ sd_tb := ⟨sd_in8_ (i := 18) rfl rfl, sd_in8_ (i := 19) rfl rfl⟩
theorem sW11_menInShops : Cond.code sY11_menInShops.1 sY11_menInShops.2.1 sY11_menInShops.2.2.1 sY11_menInShops.2.2.2 ∈ sd_tb := sd_in8_ (i := 28) rfl rfl
theorem sH11_menInShops : Cond.initialized sY11_menInShops.1.cls ∈ sd_tb ∧ (sY11_menInShops.1.cls ≠ "java/lang/invoke/MethodHandle" ∧ sY11_menInShops.1.cls ≠ "java/lang/invoke/VarHandle" ∧ (parseMethodDescriptor sY11_menInShops.1.desc).map (fun d => d.parameters.length) = some 0) ∧ sY11_menInShops.2.2.1 ≤ 40 := ⟨sd_in1_ (i := 12) rfl rfl, ⟨sd_nm11, sd_nv11, rfl⟩, by decide⟩
theorem sV11_menInShops : Cond.instanceMethod sY11_menInShops.1 ∈ sd_tb ∧ Cond.selects sY11_menInShops.1.cls sY11_menInShops.1 sY11_menInShops.1 ∈ sd_tb := ⟨sd_in8_ (i := 27) rfl rfl, sd_in2 (i := 75) rfl rfl⟩
theorem sW11_count : Cond.code sY11_count.1 sY11_count.2.1 sY11_count.2.2.1 sY11_count.2.2.2 ∈ sd_tb := sd_in8_ (i := 24) rfl rfl
theorem sH11_count : Cond.initialized sY11_count.1.cls ∈ sd_tb ∧ (sY11_count.1.cls ≠ "java/lang/invoke/MethodHandle" ∧ sY11_count.1.cls ≠ "java/lang/invoke/VarHandle" ∧ (parseMethodDescriptor sY11_count.1.desc).map (fun d => d.parameters.length) = some 1) ∧ sY11_count.2.2.1 ≤ 40 := ⟨sd_in1_ (i := 12) rfl rfl, ⟨sd_nm11, sd_nv11, rfl⟩, by decide⟩
theorem sV11_count : Cond.instanceMethod sY11_count.1 ∈ sd_tb ∧ Cond.selects sY11_count.1.cls sY11_count.1 sY11_count.1 ∈ sd_tb := ⟨sd_in8_ (i := 22) rfl rfl, sd_in8_ (i := 23) rfl rfl⟩
theorem sW11_status : Cond.code sY11_status.1 sY11_status.2.1 sY11_status.2.2.1 sY11_status.2.2.2 ∈ sd_tb := sd_in8_ (i := 32) rfl rfl
theorem sH11_status : Cond.initialized sY11_status.1.cls ∈ sd_tb ∧ (sY11_status.1.cls ≠ "java/lang/invoke/MethodHandle" ∧ sY11_status.1.cls ≠ "java/lang/invoke/VarHandle" ∧ (parseMethodDescriptor sY11_status.1.desc).map (fun d => d.parameters.length) = some 1) ∧ sY11_status.2.2.1 ≤ 40 := ⟨sd_in1_ (i := 12) rfl rfl, ⟨sd_nm11, sd_nv11, rfl⟩, by decide⟩
theorem sV11_status : Cond.instanceMethod sY11_status.1 ∈ sd_tb ∧ Cond.selects sY11_status.1.cls sY11_status.1 sY11_status.1 ∈ sd_tb := ⟨sd_in8_ (i := 30) rfl rfl, sd_in8_ (i := 31) rfl rfl⟩
theorem sWJ6_bitCount_0f7a4 : Cond.code sYJ6_bitCount_0f7a4.1 sYJ6_bitCount_0f7a4.2.1 sYJ6_bitCount_0f7a4.2.2.1 sYJ6_bitCount_0f7a4.2.2.2 ∈ sd_tb := sd_in3_ (i := 225) rfl rfl
theorem sHJ6_bitCount_0f7a4 : Cond.initialized sYJ6_bitCount_0f7a4.1.cls ∈ sd_tb ∧ (sYJ6_bitCount_0f7a4.1.cls ≠ "java/lang/invoke/MethodHandle" ∧ sYJ6_bitCount_0f7a4.1.cls ≠ "java/lang/invoke/VarHandle" ∧ (parseMethodDescriptor sYJ6_bitCount_0f7a4.1.desc).map (fun d => d.parameters.length) = some 1) ∧ sYJ6_bitCount_0f7a4.2.2.1 ≤ 40 := ⟨sd_in1_ (i := 15) rfl rfl, ⟨sd_nmJ6, sd_nvJ6, rfl⟩, by decide⟩
theorem sTJ6_bitCount_0f7a4 : Cond.static sYJ6_bitCount_0f7a4.1 ∈ sd_tb := sd_in3_ (i := 224) rfl rfl
theorem sWJ9_max_7cf53 : Cond.code sYJ9_max_7cf53.1 sYJ9_max_7cf53.2.1 sYJ9_max_7cf53.2.2.1 sYJ9_max_7cf53.2.2.2 ∈ sd_tb := sd_in3_ (i := 81) rfl rfl
theorem sHJ9_max_7cf53 : Cond.initialized sYJ9_max_7cf53.1.cls ∈ sd_tb ∧ (sYJ9_max_7cf53.1.cls ≠ "java/lang/invoke/MethodHandle" ∧ sYJ9_max_7cf53.1.cls ≠ "java/lang/invoke/VarHandle" ∧ (parseMethodDescriptor sYJ9_max_7cf53.1.desc).map (fun d => d.parameters.length) = some 2) ∧ sYJ9_max_7cf53.2.2.1 ≤ 40 := ⟨sd_in1_ (i := 13) rfl rfl, ⟨sd_nmJ9, sd_nvJ9, rfl⟩, by decide⟩
theorem sTJ9_max_7cf53 : Cond.static sYJ9_max_7cf53.1 ∈ sd_tb := sd_in3_ (i := 80) rfl rfl
theorem sWJ9_min_7cf53 : Cond.code sYJ9_min_7cf53.1 sYJ9_min_7cf53.2.1 sYJ9_min_7cf53.2.2.1 sYJ9_min_7cf53.2.2.2 ∈ sd_tb := sd_in3_ (i := 33) rfl rfl
theorem sHJ9_min_7cf53 : Cond.initialized sYJ9_min_7cf53.1.cls ∈ sd_tb ∧ (sYJ9_min_7cf53.1.cls ≠ "java/lang/invoke/MethodHandle" ∧ sYJ9_min_7cf53.1.cls ≠ "java/lang/invoke/VarHandle" ∧ (parseMethodDescriptor sYJ9_min_7cf53.1.desc).map (fun d => d.parameters.length) = some 2) ∧ sYJ9_min_7cf53.2.2.1 ≤ 40 := ⟨sd_in1_ (i := 13) rfl rfl, ⟨sd_nmJ9, sd_nvJ9, rfl⟩, by decide⟩
theorem sTJ9_min_7cf53 : Cond.static sYJ9_min_7cf53.1 ∈ sd_tb := sd_in3_ (i := 32) rfl rfl
theorem sWJ0_length_8abf5 : Cond.code sYJ0_length_8abf5.1 sYJ0_length_8abf5.2.1 sYJ0_length_8abf5.2.2.1 sYJ0_length_8abf5.2.2.2 ∈ sd_tb := sd_in4_ (i := 83) rfl rfl
theorem sHJ0_length_8abf5 : Cond.initialized sYJ0_length_8abf5.1.cls ∈ sd_tb ∧ (sYJ0_length_8abf5.1.cls ≠ "java/lang/invoke/MethodHandle" ∧ sYJ0_length_8abf5.1.cls ≠ "java/lang/invoke/VarHandle" ∧ (parseMethodDescriptor sYJ0_length_8abf5.1.desc).map (fun d => d.parameters.length) = some 0) ∧ sYJ0_length_8abf5.2.2.1 ≤ 40 := ⟨sd_in1_ (i := 16) rfl rfl, ⟨sd_nmJ0, sd_nvJ0, rfl⟩, by decide⟩
theorem sVJ0_length_8abf5 : Cond.instanceMethod sYJ0_length_8abf5.1 ∈ sd_tb ∧ Cond.selects sYJ0_length_8abf5.1.cls sYJ0_length_8abf5.1 sYJ0_length_8abf5.1 ∈ sd_tb := ⟨sd_in4_ (i := 81) rfl rfl, sd_in4_ (i := 82) rfl rfl⟩
theorem sWJ0_isEmpty_aae02 : Cond.code sYJ0_isEmpty_aae02.1 sYJ0_isEmpty_aae02.2.1 sYJ0_isEmpty_aae02.2.2.1 sYJ0_isEmpty_aae02.2.2.2 ∈ sd_tb := sd_in4_ (i := 35) rfl rfl
theorem sHJ0_isEmpty_aae02 : Cond.initialized sYJ0_isEmpty_aae02.1.cls ∈ sd_tb ∧ (sYJ0_isEmpty_aae02.1.cls ≠ "java/lang/invoke/MethodHandle" ∧ sYJ0_isEmpty_aae02.1.cls ≠ "java/lang/invoke/VarHandle" ∧ (parseMethodDescriptor sYJ0_isEmpty_aae02.1.desc).map (fun d => d.parameters.length) = some 0) ∧ sYJ0_isEmpty_aae02.2.2.1 ≤ 40 := ⟨sd_in1_ (i := 16) rfl rfl, ⟨sd_nmJ0, sd_nvJ0, rfl⟩, by decide⟩
theorem sVJ0_isEmpty_aae02 : Cond.instanceMethod sYJ0_isEmpty_aae02.1 ∈ sd_tb ∧ Cond.selects sYJ0_isEmpty_aae02.1.cls sYJ0_isEmpty_aae02.1 sYJ0_isEmpty_aae02.1 ∈ sd_tb := ⟨sd_in4_ (i := 33) rfl rfl, sd_in4_ (i := 34) rfl rfl⟩
theorem sWJ0_charAt_5068e : Cond.code sYJ0_charAt_5068e.1 sYJ0_charAt_5068e.2.1 sYJ0_charAt_5068e.2.2.1 sYJ0_charAt_5068e.2.2.2 ∈ sd_tb := sd_in4_ (i := 39) rfl rfl
theorem sHJ0_charAt_5068e : Cond.initialized sYJ0_charAt_5068e.1.cls ∈ sd_tb ∧ (sYJ0_charAt_5068e.1.cls ≠ "java/lang/invoke/MethodHandle" ∧ sYJ0_charAt_5068e.1.cls ≠ "java/lang/invoke/VarHandle" ∧ (parseMethodDescriptor sYJ0_charAt_5068e.1.desc).map (fun d => d.parameters.length) = some 1) ∧ sYJ0_charAt_5068e.2.2.1 ≤ 40 := ⟨sd_in1_ (i := 16) rfl rfl, ⟨sd_nmJ0, sd_nvJ0, rfl⟩, by decide⟩
theorem sVJ0_charAt_5068e : Cond.instanceMethod sYJ0_charAt_5068e.1 ∈ sd_tb ∧ Cond.selects sYJ0_charAt_5068e.1.cls sYJ0_charAt_5068e.1 sYJ0_charAt_5068e.1 ∈ sd_tb := ⟨sd_in4_ (i := 37) rfl rfl, sd_in4_ (i := 38) rfl rfl⟩
theorem sWJ0_coder_7d493 : Cond.code sYJ0_coder_7d493.1 sYJ0_coder_7d493.2.1 sYJ0_coder_7d493.2.2.1 sYJ0_coder_7d493.2.2.2 ∈ sd_tb := sd_in4_ (i := 87) rfl rfl
theorem sHJ0_coder_7d493 : Cond.initialized sYJ0_coder_7d493.1.cls ∈ sd_tb ∧ (sYJ0_coder_7d493.1.cls ≠ "java/lang/invoke/MethodHandle" ∧ sYJ0_coder_7d493.1.cls ≠ "java/lang/invoke/VarHandle" ∧ (parseMethodDescriptor sYJ0_coder_7d493.1.desc).map (fun d => d.parameters.length) = some 0) ∧ sYJ0_coder_7d493.2.2.1 ≤ 40 := ⟨sd_in1_ (i := 16) rfl rfl, ⟨sd_nmJ0, sd_nvJ0, rfl⟩, by decide⟩
theorem sVJ0_coder_7d493 : Cond.instanceMethod sYJ0_coder_7d493.1 ∈ sd_tb ∧ Cond.selects sYJ0_coder_7d493.1.cls sYJ0_coder_7d493.1 sYJ0_coder_7d493.1 ∈ sd_tb := ⟨sd_in4_ (i := 85) rfl rfl, sd_in4_ (i := 86) rfl rfl⟩
theorem sWJ0_isLatin1_aae02 : Cond.code sYJ0_isLatin1_aae02.1 sYJ0_isLatin1_aae02.2.1 sYJ0_isLatin1_aae02.2.2.1 sYJ0_isLatin1_aae02.2.2.2 ∈ sd_tb := sd_in4_ (i := 43) rfl rfl
theorem sHJ0_isLatin1_aae02 : Cond.initialized sYJ0_isLatin1_aae02.1.cls ∈ sd_tb ∧ (sYJ0_isLatin1_aae02.1.cls ≠ "java/lang/invoke/MethodHandle" ∧ sYJ0_isLatin1_aae02.1.cls ≠ "java/lang/invoke/VarHandle" ∧ (parseMethodDescriptor sYJ0_isLatin1_aae02.1.desc).map (fun d => d.parameters.length) = some 0) ∧ sYJ0_isLatin1_aae02.2.2.1 ≤ 40 := ⟨sd_in1_ (i := 16) rfl rfl, ⟨sd_nmJ0, sd_nvJ0, rfl⟩, by decide⟩
theorem sVJ0_isLatin1_aae02 : Cond.instanceMethod sYJ0_isLatin1_aae02.1 ∈ sd_tb ∧ Cond.selects sYJ0_isLatin1_aae02.1.cls sYJ0_isLatin1_aae02.1 sYJ0_isLatin1_aae02.1 ∈ sd_tb := ⟨sd_in4_ (i := 41) rfl rfl, sd_in4_ (i := 42) rfl rfl⟩
theorem sWJ0_checkIndex_df160 : Cond.code sYJ0_checkIndex_df160.1 sYJ0_checkIndex_df160.2.1 sYJ0_checkIndex_df160.2.2.1 sYJ0_checkIndex_df160.2.2.2 ∈ sd_tb := sd_in4_ (i := 51) rfl rfl
theorem sHJ0_checkIndex_df160 : Cond.initialized sYJ0_checkIndex_df160.1.cls ∈ sd_tb ∧ (sYJ0_checkIndex_df160.1.cls ≠ "java/lang/invoke/MethodHandle" ∧ sYJ0_checkIndex_df160.1.cls ≠ "java/lang/invoke/VarHandle" ∧ (parseMethodDescriptor sYJ0_checkIndex_df160.1.desc).map (fun d => d.parameters.length) = some 2) ∧ sYJ0_checkIndex_df160.2.2.1 ≤ 40 := ⟨sd_in1_ (i := 16) rfl rfl, ⟨sd_nmJ0, sd_nvJ0, rfl⟩, by decide⟩
theorem sTJ0_checkIndex_df160 : Cond.static sYJ0_checkIndex_df160.1 ∈ sd_tb := sd_in4_ (i := 50) rfl rfl
theorem sWJ1_charAt_3b067 : Cond.code sYJ1_charAt_3b067.1 sYJ1_charAt_3b067.2.1 sYJ1_charAt_3b067.2.2.1 sYJ1_charAt_3b067.2.2.2 ∈ sd_tb := sd_in4_ (i := 48) rfl rfl
theorem sHJ1_charAt_3b067 : Cond.initialized sYJ1_charAt_3b067.1.cls ∈ sd_tb ∧ (sYJ1_charAt_3b067.1.cls ≠ "java/lang/invoke/MethodHandle" ∧ sYJ1_charAt_3b067.1.cls ≠ "java/lang/invoke/VarHandle" ∧ (parseMethodDescriptor sYJ1_charAt_3b067.1.desc).map (fun d => d.parameters.length) = some 2) ∧ sYJ1_charAt_3b067.2.2.1 ≤ 40 := ⟨sd_in1_ (i := 17) rfl rfl, ⟨sd_nmJ1, sd_nvJ1, rfl⟩, by decide⟩
theorem sTJ1_charAt_3b067 : Cond.static sYJ1_charAt_3b067.1 ∈ sd_tb := sd_in4_ (i := 47) rfl rfl
theorem sWJ2_getChar_3b067 : Cond.code sYJ2_getChar_3b067.1 sYJ2_getChar_3b067.2.1 sYJ2_getChar_3b067.2.2.1 sYJ2_getChar_3b067.2.2.2 ∈ sd_tb := sd_in4_ (i := 69) rfl rfl
theorem sHJ2_getChar_3b067 : Cond.initialized sYJ2_getChar_3b067.1.cls ∈ sd_tb ∧ (sYJ2_getChar_3b067.1.cls ≠ "java/lang/invoke/MethodHandle" ∧ sYJ2_getChar_3b067.1.cls ≠ "java/lang/invoke/VarHandle" ∧ (parseMethodDescriptor sYJ2_getChar_3b067.1.desc).map (fun d => d.parameters.length) = some 2) ∧ sYJ2_getChar_3b067.2.2.1 ≤ 40 := ⟨sd_in1_ (i := 19) rfl rfl, ⟨sd_nmJ2, sd_nvJ2, rfl⟩, by decide⟩
theorem sTJ2_getChar_3b067 : Cond.static sYJ2_getChar_3b067.1 ∈ sd_tb := sd_in4_ (i := 68) rfl rfl
theorem sWJ2_length_9d52b : Cond.code sYJ2_length_9d52b.1 sYJ2_length_9d52b.2.1 sYJ2_length_9d52b.2.2.1 sYJ2_length_9d52b.2.2.2 ∈ sd_tb := sd_in4_ (i := 65) rfl rfl
theorem sHJ2_length_9d52b : Cond.initialized sYJ2_length_9d52b.1.cls ∈ sd_tb ∧ (sYJ2_length_9d52b.1.cls ≠ "java/lang/invoke/MethodHandle" ∧ sYJ2_length_9d52b.1.cls ≠ "java/lang/invoke/VarHandle" ∧ (parseMethodDescriptor sYJ2_length_9d52b.1.desc).map (fun d => d.parameters.length) = some 1) ∧ sYJ2_length_9d52b.2.2.1 ≤ 40 := ⟨sd_in1_ (i := 19) rfl rfl, ⟨sd_nmJ2, sd_nvJ2, rfl⟩, by decide⟩
theorem sTJ2_length_9d52b : Cond.static sYJ2_length_9d52b.1 ∈ sd_tb := sd_in4_ (i := 64) rfl rfl
theorem sWJ2_charAt_3b067 : Cond.code sYJ2_charAt_3b067.1 sYJ2_charAt_3b067.2.1 sYJ2_charAt_3b067.2.2.1 sYJ2_charAt_3b067.2.2.2 ∈ sd_tb := sd_in4_ (i := 59) rfl rfl
theorem sHJ2_charAt_3b067 : Cond.initialized sYJ2_charAt_3b067.1.cls ∈ sd_tb ∧ (sYJ2_charAt_3b067.1.cls ≠ "java/lang/invoke/MethodHandle" ∧ sYJ2_charAt_3b067.1.cls ≠ "java/lang/invoke/VarHandle" ∧ (parseMethodDescriptor sYJ2_charAt_3b067.1.desc).map (fun d => d.parameters.length) = some 2) ∧ sYJ2_charAt_3b067.2.2.1 ≤ 40 := ⟨sd_in1_ (i := 19) rfl rfl, ⟨sd_nmJ2, sd_nvJ2, rfl⟩, by decide⟩
theorem sTJ2_charAt_3b067 : Cond.static sYJ2_charAt_3b067.1 ∈ sd_tb := sd_in4_ (i := 58) rfl rfl
theorem sWJ2_checkIndex_2214a : Cond.code sYJ2_checkIndex_2214a.1 sYJ2_checkIndex_2214a.2.1 sYJ2_checkIndex_2214a.2.2.1 sYJ2_checkIndex_2214a.2.2.2 ∈ sd_tb := sd_in4_ (i := 62) rfl rfl
theorem sHJ2_checkIndex_2214a : Cond.initialized sYJ2_checkIndex_2214a.1.cls ∈ sd_tb ∧ (sYJ2_checkIndex_2214a.1.cls ≠ "java/lang/invoke/MethodHandle" ∧ sYJ2_checkIndex_2214a.1.cls ≠ "java/lang/invoke/VarHandle" ∧ (parseMethodDescriptor sYJ2_checkIndex_2214a.1.desc).map (fun d => d.parameters.length) = some 2) ∧ sYJ2_checkIndex_2214a.2.2.1 ≤ 40 := ⟨sd_in1_ (i := 19) rfl rfl, ⟨sd_nmJ2, sd_nvJ2, rfl⟩, by decide⟩
theorem sTJ2_checkIndex_2214a : Cond.static sYJ2_checkIndex_2214a.1 ∈ sd_tb := sd_in4_ (i := 61) rfl rfl
theorem sWJ3_checkIndex_8e157 : Cond.code sYJ3_checkIndex_8e157.1 sYJ3_checkIndex_8e157.2.1 sYJ3_checkIndex_8e157.2.2.1 sYJ3_checkIndex_8e157.2.2.2 ∈ sd_tb := sd_in4_ (i := 56) rfl rfl
theorem sHJ3_checkIndex_8e157 : Cond.initialized sYJ3_checkIndex_8e157.1.cls ∈ sd_tb ∧ (sYJ3_checkIndex_8e157.1.cls ≠ "java/lang/invoke/MethodHandle" ∧ sYJ3_checkIndex_8e157.1.cls ≠ "java/lang/invoke/VarHandle" ∧ (parseMethodDescriptor sYJ3_checkIndex_8e157.1.desc).map (fun d => d.parameters.length) = some 3) ∧ sYJ3_checkIndex_8e157.2.2.1 ≤ 40 := ⟨sd_in1_ (i := 18) rfl rfl, ⟨sd_nmJ3, sd_nvJ3, rfl⟩, by decide⟩
theorem sTJ3_checkIndex_8e157 : Cond.static sYJ3_checkIndex_8e157.1 ∈ sd_tb := sd_in4_ (i := 55) rfl rfl
theorem sM10_45 : sd_mv "SitDown" 45 sY1_allows 2 := ⟨sd_in2_ (i := 156) rfl rfl, sV1_allows.1, sV1_allows.2, sH1_allows.1, sW1_allows, sH1_allows.2.1, sH1_allows.2.2⟩
theorem sM1_70 : sd_mv "SitDown$Holds" 70 sY1_isA 2 := ⟨sd_in2_ (i := 163) rfl rfl, sV1_isA.1, sV1_isA.2, sH1_isA.1, sW1_isA, sH1_isA.2.1, sH1_isA.2.2⟩
theorem sM10_52 : sd_mv "SitDown" 52 sY10_found 1 := ⟨sd_in2_ (i := 170) rfl rfl, sV10_found.1, sV10_found.2, sH10_found.1, sW10_found, sH10_found.2.1, sH10_found.2.2⟩
theorem sM10_65 : sd_ms "SitDown" 65 sY10_isWithin 3 := ⟨sd_in2_ (i := 174) rfl rfl, sT10_isWithin, sH10_isWithin.1, sW10_isWithin, sH10_isWithin.2.1, sH10_isWithin.2.2⟩
theorem sM10_56 : sd_mv "SitDown" 56 sY1_hasRoomFor 1 := ⟨sd_in2_ (i := 175) rfl rfl, sV1_hasRoomFor.1, sV1_hasRoomFor.2, sH1_hasRoomFor.1, sW1_hasRoomFor, sH1_hasRoomFor.2.1, sH1_hasRoomFor.2.2⟩
theorem sM10_61 : sd_mv "SitDown" 61 sY1_add 3 := ⟨sd_in2_ (i := 180) rfl rfl, sV1_add.1, sV1_add.2, sH1_add.1, sW1_add, sH1_add.2.1, sH1_add.2.2⟩
theorem sM10_69 : sd_mv "SitDown" 69 sY1_findingOf 2 := ⟨sd_in2_ (i := 191) rfl rfl, sV1_findingOf.1, sV1_findingOf.2, sH1_findingOf.1, sW1_findingOf, sH1_findingOf.2.1, sH1_findingOf.2.2⟩
theorem sM10_76 : sd_mv "SitDown" 76 sY6_makes 1 := ⟨sd_in2_ (i := 203) rfl rfl, sV6_makes.1, sV6_makes.2, sH6_makes.1, sW6_makes, sH6_makes.2.1, sH6_makes.2.2⟩
theorem sM6_117 : sd_mv "SitDown$Site" 117 sY3_inShops 1 := ⟨sd_in2_ (i := 207) rfl rfl, sV3_inShops.1, sV3_inShops.2, sH3_inShops.1, sW3_inShops, sH3_inShops.2.1, sH3_inShops.2.2⟩
theorem sM6_136 : sd_mv "SitDown$Site" 136 sY6_clauseAt 2 := ⟨sd_in2_ (i := 215) rfl rfl, sV6_clauseAt.1, sV6_clauseAt.2, sH6_clauseAt.1, sW6_clauseAt, sH6_clauseAt.2.1, sH6_clauseAt.2.2⟩
theorem sM6_123 : sd_mv "SitDown$Site" 123 sY8_clauseFor 3 := ⟨sd_in2_ (i := 219) rfl rfl, sV8_clauseFor.1, sV8_clauseFor.2, sH8_clauseFor.1, sW8_clauseFor, sH8_clauseFor.2.1, sH8_clauseFor.2.2⟩
theorem sM8_56 : sd_mv "SitDown$Texts" 56 sY8_isInForce 2 := ⟨sd_in2_ (i := 223) rfl rfl, sV8_isInForce.1, sV8_isInForce.2, sH8_isInForce.1, sW8_isInForce, sH8_isInForce.2.1, sH8_isInForce.2.2⟩
theorem sM8_77 : sd_mv "SitDown$Texts" 77 sY8_isSo 2 := ⟨sd_in2_ (i := 227) rfl rfl, sV8_isSo.1, sV8_isSo.2, sH8_isSo.1, sW8_isSo, sH8_isSo.2.1, sH8_isSo.2.2⟩
theorem sM6_139 : sd_mv "SitDown$Site" 139 sY8_bars 1 := ⟨sd_in2_ (i := 231) rfl rfl, sV8_bars.1, sV8_bars.2, sH8_bars.1, sW8_bars, sH8_bars.2.1, sH8_bars.2.2⟩
theorem sM10_79 : sd_ms "SitDown" 79 sY10_asNumber 1 := ⟨sd_in2_ (i := 235) rfl rfl, sT10_asNumber, sH10_asNumber.1, sW10_asNumber, sH10_asNumber.2.1, sH10_asNumber.2.2⟩
theorem sM10_83 : sd_mv "SitDown" 83 sY1_number 2 := ⟨sd_in2_ (i := 236) rfl rfl, sV1_number.1, sV1_number.2, sH1_number.1, sW1_number, sH1_number.2.1, sH1_number.2.2⟩
theorem sM10_89 : sd_ms "SitDown" 89 sY10_turn 3 := ⟨sd_in3_ (i := 4) rfl rfl, sT10_turn, sH10_turn.1, sW10_turn, sH10_turn.2.1, sH10_turn.2.2⟩
theorem sM10_100 : sd_mv "SitDown" 100 sY6_firstCold 2 := ⟨sd_in3_ (i := 19) rfl rfl, sV6_firstCold.1, sV6_firstCold.2, sH6_firstCold.1, sW6_firstCold, sH6_firstCold.2.1, sH6_firstCold.2.2⟩
theorem sM6_177 : sd_mv "SitDown$Site" 177 sY1_warmthBehind 3 := ⟨sd_in3_ (i := 23) rfl rfl, sV1_warmthBehind.1, sV1_warmthBehind.2, sH1_warmthBehind.1, sW1_warmthBehind, sH1_warmthBehind.2.1, sH1_warmthBehind.2.2⟩
theorem sM1_79 : sd_mv "SitDown$Holds" 79 sY1_hasOpenPipe 2 := ⟨sd_in3_ (i := 27) rfl rfl, sV1_hasOpenPipe.1, sV1_hasOpenPipe.2, sH1_hasOpenPipe.1, sW1_hasOpenPipe, sH1_hasOpenPipe.2.1, sH1_hasOpenPipe.2.2⟩
theorem sM1_82 : sd_ms "SitDown$Holds" 82 sYJ9_min_7cf53 2 := ⟨sd_in3_ (i := 31) rfl rfl, sTJ9_min_7cf53, sHJ9_min_7cf53.1, sWJ9_min_7cf53, sHJ9_min_7cf53.2.1, sHJ9_min_7cf53.2.2⟩
theorem sM10_103 : sd_mv "SitDown" 103 sY10_orNone 1 := ⟨sd_in3_ (i := 34) rfl rfl, sV10_orNone.1, sV10_orNone.2, sH10_orNone.1, sW10_orNone, sH10_orNone.2.1, sH10_orNone.2.2⟩
theorem sM10_115 : sd_mv "SitDown" 115 sY3_add 3 := ⟨sd_in3_ (i := 43) rfl rfl, sV3_add.1, sV3_add.2, sH3_add.1, sW3_add, sH3_add.2.1, sH3_add.2.2⟩
theorem sM10_116 : sd_mv "SitDown" 116 sY3_has 1 := ⟨sd_in3_ (i := 51) rfl rfl, sV3_has.1, sV3_has.2, sH3_has.1, sW3_has, sH3_has.2.1, sH3_has.2.2⟩
theorem sM10_119 : sd_mv "SitDown" 119 sY3_number 2 := ⟨sd_in3_ (i := 56) rfl rfl, sV3_number.1, sV3_number.2, sH3_number.1, sW3_number, sH3_number.2.1, sH3_number.2.2⟩
theorem sM10_124 : sd_mv "SitDown" 124 sY6_reachedFrom 2 := ⟨sd_in3_ (i := 65) rfl rfl, sV6_reachedFrom.1, sV6_reachedFrom.2, sH6_reachedFrom.1, sW6_reachedFrom, sH6_reachedFrom.2.1, sH6_reachedFrom.2.2⟩
theorem sM6_103 : sd_mv "SitDown$Site" 103 sY1_oneGateFurther 1 := ⟨sd_in3_ (i := 69) rfl rfl, sV1_oneGateFurther.1, sV1_oneGateFurther.2, sH1_oneGateFurther.1, sW1_oneGateFurther, sH1_oneGateFurther.2.1, sH1_oneGateFurther.2.2⟩
theorem sM10_127 : sd_ms "SitDown" 127 sY10_isIn 2 := ⟨sd_in3_ (i := 73) rfl rfl, sT10_isIn, sH10_isIn.1, sW10_isIn, sH10_isIn.2.1, sH10_isIn.2.2⟩
theorem sM10_134 : sd_ms "SitDown" 134 sYJ9_min_7cf53 2 := ⟨sd_in3_ (i := 78) rfl rfl, sTJ9_min_7cf53, sHJ9_min_7cf53.1, sWJ9_min_7cf53, sHJ9_min_7cf53.2.1, sHJ9_min_7cf53.2.2⟩
theorem sM10_139 : sd_ms "SitDown" 139 sYJ9_max_7cf53 2 := ⟨sd_in3_ (i := 79) rfl rfl, sTJ9_max_7cf53, sHJ9_max_7cf53.1, sWJ9_max_7cf53, sHJ9_max_7cf53.2.1, sHJ9_max_7cf53.2.2⟩
theorem sM10_142 : sd_mv "SitDown" 142 sY6_firstLeave 1 := ⟨sd_in3_ (i := 86) rfl rfl, sV6_firstLeave.1, sV6_firstLeave.2, sH6_firstLeave.1, sW6_firstLeave, sH6_firstLeave.2.1, sH6_firstLeave.2.2⟩
theorem sM6_187 : sd_ms "SitDown$Site" 187 sYJ9_min_7cf53 2 := ⟨sd_in3_ (i := 90) rfl rfl, sTJ9_min_7cf53, sHJ9_min_7cf53.1, sWJ9_min_7cf53, sHJ9_min_7cf53.2.1, sHJ9_min_7cf53.2.2⟩
theorem sM6_192 : sd_mv "SitDown$Site" 192 sY6_lossOfWill 3 := ⟨sd_in3_ (i := 91) rfl rfl, sV6_lossOfWill.1, sV6_lossOfWill.2, sH6_lossOfWill.1, sW6_lossOfWill, sH6_lossOfWill.2.1, sH6_lossOfWill.2.2⟩
theorem sM6_195 : sd_ms "SitDown$Site" 195 sYJ9_max_7cf53 2 := ⟨sd_in3_ (i := 96) rfl rfl, sTJ9_max_7cf53, sHJ9_max_7cf53.1, sWJ9_max_7cf53, sHJ9_max_7cf53.2.1, sHJ9_max_7cf53.2.2⟩
theorem sM10_149 : sd_mv "SitDown" 149 sY6_clauseAt 2 := ⟨sd_in3_ (i := 101) rfl rfl, sV6_clauseAt.1, sV6_clauseAt.2, sH6_clauseAt.1, sW6_clauseAt, sH6_clauseAt.2.1, sH6_clauseAt.2.2⟩
theorem sM10_152 : sd_mv "SitDown" 152 sY8_bars 1 := ⟨sd_in3_ (i := 102) rfl rfl, sV8_bars.1, sV8_bars.2, sH8_bars.1, sW8_bars, sH8_bars.2.1, sH8_bars.2.2⟩
theorem sM10_157 : sd_mv "SitDown" 157 sY1_letsIn 2 := ⟨sd_in3_ (i := 103) rfl rfl, sV1_letsIn.1, sV1_letsIn.2, sH1_letsIn.1, sW1_letsIn, sH1_letsIn.2.1, sH1_letsIn.2.2⟩
theorem sM10_160 : sd_mv "SitDown" 160 sY1_addMeals 2 := ⟨sd_in3_ (i := 107) rfl rfl, sV1_addMeals.1, sV1_addMeals.2, sH1_addMeals.1, sW1_addMeals, sH1_addMeals.2.1, sH1_addMeals.2.2⟩
theorem sM10_164 : sd_mv "SitDown" 164 sY3_inShops 1 := ⟨sd_in3_ (i := 116) rfl rfl, sV3_inShops.1, sV3_inShops.2, sH3_inShops.1, sW3_inShops, sH3_inShops.2.1, sH3_inShops.2.2⟩
theorem sM10_167 : sd_mv "SitDown" 167 sY1_mealsIn 1 := ⟨sd_in3_ (i := 117) rfl rfl, sV1_mealsIn.1, sV1_mealsIn.2, sH1_mealsIn.1, sW1_mealsIn, sH1_mealsIn.2.1, sH1_mealsIn.2.2⟩
theorem sM10_170 : sd_mv "SitDown" 170 sY6_forceAt 1 := ⟨sd_in3_ (i := 134) rfl rfl, sV6_forceAt.1, sV6_forceAt.2, sH6_forceAt.1, sW6_forceAt, sH6_forceAt.2.1, sH6_forceAt.2.2⟩
theorem sM6_110 : sd_mv "SitDown$Site" 110 sY6_reachedFrom 2 := ⟨sd_in3_ (i := 138) rfl rfl, sV6_reachedFrom.1, sV6_reachedFrom.2, sH6_reachedFrom.1, sW6_reachedFrom, sH6_reachedFrom.2.1, sH6_reachedFrom.2.2⟩
theorem sM10_190 : sd_mv "SitDown" 190 sY9_add 1 := ⟨sd_in3_ (i := 152) rfl rfl, sV9_add.1, sV9_add.2, sH9_add.1, sW9_add, sH9_add.2.1, sH9_add.2.2⟩
theorem sM10_192 : sd_mv "SitDown" 192 sY5_isMissing 0 := ⟨sd_in3_ (i := 160) rfl rfl, sV5_isMissing.1, sV5_isMissing.2, sH5_isMissing.1, sW5_isMissing, sH5_isMissing.2.1, sH5_isMissing.2.2⟩
theorem sM10_201 : sd_mv "SitDown" 201 sY9_restock 1 := ⟨sd_in3_ (i := 165) rfl rfl, sV9_restock.1, sV9_restock.2, sH9_restock.1, sW9_restock, sH9_restock.2.1, sH9_restock.2.2⟩
theorem sM10_208 : sd_mv "SitDown" 208 sY6_makers 0 := ⟨sd_in3_ (i := 177) rfl rfl, sV6_makers.1, sV6_makers.2, sH6_makers.1, sW6_makers, sH6_makers.2.1, sH6_makers.2.2⟩
theorem sM6_146 : sd_mv "SitDown$Site" 146 sY6_makes 1 := ⟨sd_in3_ (i := 181) rfl rfl, sV6_makes.1, sV6_makes.2, sH6_makes.1, sW6_makes, sH6_makes.2.1, sH6_makes.2.2⟩
theorem sM10_212 : sd_mv "SitDown" 212 sY6_madeBy 1 := ⟨sd_in3_ (i := 182) rfl rfl, sV6_madeBy.1, sV6_madeBy.2, sH6_madeBy.1, sW6_madeBy, sH6_madeBy.2.1, sH6_madeBy.2.2⟩
theorem sM10_216 : sd_mv "SitDown" 216 sY9_hoursTillItStands 2 := ⟨sd_in3_ (i := 190) rfl rfl, sV9_hoursTillItStands.1, sV9_hoursTillItStands.2, sH9_hoursTillItStands.1, sW9_hoursTillItStands, sH9_hoursTillItStands.2.1, sH9_hoursTillItStands.2.2⟩
theorem sM9_35 : sd_mv "SitDown$Works" 35 sY9_goThroughHour 2 := ⟨sd_in3_ (i := 200) rfl rfl, sV9_goThroughHour.1, sV9_goThroughHour.2, sH9_goThroughHour.1, sW9_goThroughHour, sH9_goThroughHour.2.1, sH9_goThroughHour.2.2⟩
theorem sM9_45 : sd_ms "SitDown$Works" 45 sYJ9_min_7cf53 2 := ⟨sd_in3_ (i := 204) rfl rfl, sTJ9_min_7cf53, sHJ9_min_7cf53.1, sWJ9_min_7cf53, sHJ9_min_7cf53.2.1, sHJ9_min_7cf53.2.2⟩
theorem sM9_51 : sd_mv "SitDown$Works" 51 sY9_lackOf 2 := ⟨sd_in3_ (i := 205) rfl rfl, sV9_lackOf.1, sV9_lackOf.2, sH9_lackOf.1, sW9_lackOf, sH9_lackOf.2.1, sH9_lackOf.2.2⟩
theorem sM9_55 : sd_mv "SitDown$Works" 55 sY9_takeNeed 2 := ⟨sd_in3_ (i := 209) rfl rfl, sV9_takeNeed.1, sV9_takeNeed.2, sH9_takeNeed.1, sW9_takeNeed, sH9_takeNeed.2.1, sH9_takeNeed.2.2⟩
theorem sM10_226 : sd_mv "SitDown" 226 sY6_leastShops 1 := ⟨sd_in3_ (i := 218) rfl rfl, sV6_leastShops.1, sV6_leastShops.2, sH6_leastShops.1, sW6_leastShops, sH6_leastShops.2.1, sH6_leastShops.2.2⟩
theorem sM6_157 : sd_mv "SitDown$Site" 157 sY6_makers 0 := ⟨sd_in3_ (i := 222) rfl rfl, sV6_makers.1, sV6_makers.2, sH6_makers.1, sW6_makers, sH6_makers.2.1, sH6_makers.2.2⟩
theorem sM6_161 : sd_ms "SitDown$Site" 161 sYJ6_bitCount_0f7a4 1 := ⟨sd_in3_ (i := 223) rfl rfl, sTJ6_bitCount_0f7a4, sHJ6_bitCount_0f7a4.1, sWJ6_bitCount_0f7a4, sHJ6_bitCount_0f7a4.2.1, sHJ6_bitCount_0f7a4.2.2⟩
theorem sM6_166 : sd_mv "SitDown$Site" 166 sY6_madeBy 1 := ⟨sd_in3_ (i := 229) rfl rfl, sV6_madeBy.1, sV6_madeBy.2, sH6_madeBy.1, sW6_madeBy, sH6_madeBy.2.1, sH6_madeBy.2.2⟩
theorem sM6_170 : sd_mv "SitDown$Site" 170 sY9_wouldAllStand 2 := ⟨sd_in3_ (i := 230) rfl rfl, sV9_wouldAllStand.1, sV9_wouldAllStand.2, sH9_wouldAllStand.1, sW9_wouldAllStand, sH9_wouldAllStand.2.1, sH9_wouldAllStand.2.2⟩
theorem sM10_230 : sd_mv "SitDown" 230 sY7_add 2 := ⟨sd_in4_ (i := 1) rfl rfl, sV7_add.1, sV7_add.2, sH7_add.1, sW7_add, sH7_add.2.1, sH7_add.2.2⟩
theorem sM10_233 : sd_mv "SitDown" 233 sY7_readText 1 := ⟨sd_in4_ (i := 9) rfl rfl, sV7_readText.1, sV7_readText.2, sH7_readText.1, sW7_readText, sH7_readText.2.1, sH7_readText.2.2⟩
theorem sM7_25 : sd_mv "SitDown$Tape" 25 sY7_sees 1 := ⟨sd_in4_ (i := 13) rfl rfl, sV7_sees.1, sV7_sees.2, sH7_sees.1, sW7_sees, sH7_sees.2.1, sH7_sees.2.2⟩
theorem sM7_29 : sd_mv "SitDown$Tape" 29 sY7_readWords 2 := ⟨sd_in4_ (i := 17) rfl rfl, sV7_readWords.1, sV7_readWords.2, sH7_readWords.1, sW7_readWords, sH7_readWords.2.1, sH7_readWords.2.2⟩
theorem sM7_51 : sd_mv "SitDown$Tape" 51 sY7_readOneOf 4 := ⟨sd_in4_ (i := 24) rfl rfl, sV7_readOneOf.1, sV7_readOneOf.2, sH7_readOneOf.1, sW7_readOneOf, sH7_readOneOf.2.1, sH7_readOneOf.2.2⟩
theorem sM7_112 : sd_mv "SitDown$Tape" 112 sY7_begins 1 := ⟨sd_in4_ (i := 28) rfl rfl, sV7_begins.1, sV7_begins.2, sH7_begins.1, sW7_begins, sH7_begins.2.1, sH7_begins.2.2⟩
theorem sM7_115 : sd_mv "SitDown$Tape" 115 sYJ0_isEmpty_aae02 0 := ⟨sd_in4_ (i := 32) rfl rfl, sVJ0_isEmpty_aae02.1, sVJ0_isEmpty_aae02.2, sHJ0_isEmpty_aae02.1, sWJ0_isEmpty_aae02, sHJ0_isEmpty_aae02.2.1, sHJ0_isEmpty_aae02.2.2⟩
theorem sM7_121 : sd_mv "SitDown$Tape" 121 sYJ0_charAt_5068e 1 := ⟨sd_in4_ (i := 36) rfl rfl, sVJ0_charAt_5068e.1, sVJ0_charAt_5068e.2, sHJ0_charAt_5068e.1, sWJ0_charAt_5068e, sHJ0_charAt_5068e.2.1, sHJ0_charAt_5068e.2.2⟩
theorem sMJ0_492 : sd_mv "java/lang/String" 492 sYJ0_isLatin1_aae02 0 := ⟨sd_in4_ (i := 40) rfl rfl, sVJ0_isLatin1_aae02.1, sVJ0_isLatin1_aae02.2, sHJ0_isLatin1_aae02.1, sWJ0_isLatin1_aae02, sHJ0_isLatin1_aae02.2.1, sHJ0_isLatin1_aae02.2.2⟩
theorem sMJ0_495 : sd_ms "java/lang/String" 495 sYJ1_charAt_3b067 2 := ⟨sd_in4_ (i := 46) rfl rfl, sTJ1_charAt_3b067, sHJ1_charAt_3b067.1, sWJ1_charAt_3b067, sHJ1_charAt_3b067.2.1, sHJ1_charAt_3b067.2.2⟩
theorem sMJ1_9 : sd_ms "java/lang/StringLatin1" 9 sYJ0_checkIndex_df160 2 := ⟨sd_in4_ (i := 49) rfl rfl, sTJ0_checkIndex_df160, sHJ0_checkIndex_df160.1, sWJ0_checkIndex_df160, sHJ0_checkIndex_df160.2.1, sHJ0_checkIndex_df160.2.2⟩
theorem sMJ0_1059 : sd_ms "java/lang/String" 1059 sYJ3_checkIndex_8e157 3 := ⟨sd_in4_ (i := 54) rfl rfl, sTJ3_checkIndex_8e157, sHJ3_checkIndex_8e157.1, sWJ3_checkIndex_8e157, sHJ3_checkIndex_8e157.2.1, sHJ3_checkIndex_8e157.2.2⟩
theorem sMJ0_498 : sd_ms "java/lang/String" 498 sYJ2_charAt_3b067 2 := ⟨sd_in4_ (i := 57) rfl rfl, sTJ2_charAt_3b067, sHJ2_charAt_3b067.1, sWJ2_charAt_3b067, sHJ2_charAt_3b067.2.1, sHJ2_charAt_3b067.2.2⟩
theorem sMJ2_67 : sd_ms "java/lang/StringUTF16" 67 sYJ2_checkIndex_2214a 2 := ⟨sd_in4_ (i := 60) rfl rfl, sTJ2_checkIndex_2214a, sHJ2_checkIndex_2214a.1, sWJ2_checkIndex_2214a, sHJ2_checkIndex_2214a.2.1, sHJ2_checkIndex_2214a.2.2⟩
theorem sMJ2_48 : sd_ms "java/lang/StringUTF16" 48 sYJ2_length_9d52b 1 := ⟨sd_in4_ (i := 63) rfl rfl, sTJ2_length_9d52b, sHJ2_length_9d52b.1, sWJ2_length_9d52b, sHJ2_length_9d52b.2.1, sHJ2_length_9d52b.2.2⟩
theorem sMJ2_414 : sd_ms "java/lang/StringUTF16" 414 sYJ0_checkIndex_df160 2 := ⟨sd_in4_ (i := 66) rfl rfl, sTJ0_checkIndex_df160, sHJ0_checkIndex_df160.1, sWJ0_checkIndex_df160, sHJ0_checkIndex_df160.2.1, sHJ0_checkIndex_df160.2.2⟩
theorem sMJ2_71 : sd_ms "java/lang/StringUTF16" 71 sYJ2_getChar_3b067 2 := ⟨sd_in4_ (i := 67) rfl rfl, sTJ2_getChar_3b067, sHJ2_getChar_3b067.1, sWJ2_getChar_3b067, sHJ2_getChar_3b067.2.1, sHJ2_getChar_3b067.2.2⟩
theorem sM7_35 : sd_mv "SitDown$Tape" 35 sY7_spells 1 := ⟨sd_in4_ (i := 76) rfl rfl, sV7_spells.1, sV7_spells.2, sH7_spells.1, sW7_spells, sH7_spells.2.1, sH7_spells.2.2⟩
theorem sM7_125 : sd_mv "SitDown$Tape" 125 sYJ0_length_8abf5 0 := ⟨sd_in4_ (i := 80) rfl rfl, sVJ0_length_8abf5.1, sVJ0_length_8abf5.2, sHJ0_length_8abf5.1, sWJ0_length_8abf5, sHJ0_length_8abf5.2.1, sHJ0_length_8abf5.2.2⟩
theorem sMJ0_335 : sd_mv "java/lang/String" 335 sYJ0_coder_7d493 0 := ⟨sd_in4_ (i := 84) rfl rfl, sVJ0_coder_7d493.1, sVJ0_coder_7d493.2, sHJ0_coder_7d493.1, sWJ0_coder_7d493, sHJ0_coder_7d493.2.1, sHJ0_coder_7d493.2.2⟩
theorem sM7_39 : sd_mv "SitDown$Tape" 39 sY7_readTests 2 := ⟨sd_in4_ (i := 93) rfl rfl, sV7_readTests.1, sV7_readTests.2, sH7_readTests.1, sW7_readTests, sH7_readTests.2.1, sH7_readTests.2.2⟩
theorem sM7_72 : sd_mv "SitDown$Tape" 72 sY7_readTest 2 := ⟨sd_in4_ (i := 97) rfl rfl, sV7_readTest.1, sV7_readTest.2, sH7_readTest.1, sW7_readTest, sH7_readTest.2.1, sH7_readTest.2.2⟩
theorem sM7_89 : sd_mv "SitDown$Tape" 89 sY7_readNumber 0 := ⟨sd_in4_ (i := 108) rfl rfl, sV7_readNumber.1, sV7_readNumber.2, sH7_readNumber.1, sW7_readNumber, sH7_readNumber.2.1, sH7_readNumber.2.2⟩
theorem sM7_106 : sd_ms "SitDown$Tape" 106 sYJ9_max_7cf53 2 := ⟨sd_in4_ (i := 113) rfl rfl, sTJ9_max_7cf53, sHJ9_max_7cf53.1, sWJ9_max_7cf53, sHJ9_max_7cf53.2.1, sHJ9_max_7cf53.2.2⟩
theorem sM10_240 : sd_mv "SitDown" 240 sY8_add 4 := ⟨sd_in4_ (i := 114) rfl rfl, sV8_add.1, sV8_add.2, sH8_add.1, sW8_add, sH8_add.2.1, sH8_add.2.2⟩
theorem sM10_246 : sd_mv "SitDown" 246 sY8_unseat 2 := ⟨sd_in4_ (i := 127) rfl rfl, sV8_unseat.1, sV8_unseat.2, sH8_unseat.1, sW8_unseat, sH8_unseat.2.1, sH8_unseat.2.2⟩
theorem sM8_64 : sd_mv "SitDown$Texts" 64 sY8_countInForce 1 := ⟨sd_in4_ (i := 131) rfl rfl, sV8_countInForce.1, sV8_countInForce.2, sH8_countInForce.1, sW8_countInForce, sH8_countInForce.2.1, sH8_countInForce.2.2⟩
theorem sM10_249 : sd_mv "SitDown" 249 sY8_hoursInForce 2 := ⟨sd_in4_ (i := 140) rfl rfl, sV8_hoursInForce.1, sV8_hoursInForce.2, sH8_hoursInForce.1, sW8_hoursInForce, sH8_hoursInForce.2.1, sH8_hoursInForce.2.2⟩
theorem sM8_68 : sd_ms "SitDown$Texts" 68 sYJ9_max_7cf53 2 := ⟨sd_in4_ (i := 144) rfl rfl, sTJ9_max_7cf53, sHJ9_max_7cf53.1, sWJ9_max_7cf53, sHJ9_max_7cf53.2.1, sHJ9_max_7cf53.2.2⟩
theorem sM8_74 : sd_ms "SitDown$Texts" 74 sYJ9_min_7cf53 2 := ⟨sd_in4_ (i := 145) rfl rfl, sTJ9_min_7cf53, sHJ9_min_7cf53.1, sWJ9_min_7cf53, sHJ9_min_7cf53.2.1, sHJ9_min_7cf53.2.2⟩
theorem sM10_259 : sd_mv "SitDown" 259 sY4_add 2 := ⟨sd_in4_ (i := 158) rfl rfl, sV4_add.1, sV4_add.2, sH4_add.1, sW4_add, sH4_add.2.1, sH4_add.2.2⟩
theorem sM10_266 : sd_mv "SitDown" 266 sY4_thoseOut 0 := ⟨sd_in4_ (i := 174) rfl rfl, sV4_thoseOut.1, sV4_thoseOut.2, sH4_thoseOut.1, sW4_thoseOut, sH4_thoseOut.2.1, sH4_thoseOut.2.2⟩
theorem sM10_269 : sd_mv "SitDown" 269 sY4_setSquads 2 := ⟨sd_in4_ (i := 178) rfl rfl, sV4_setSquads.1, sV4_setSquads.2, sH4_setSquads.1, sW4_setSquads, sH4_setSquads.2.1, sH4_setSquads.2.2⟩
theorem sM4_46 : sd_mv "SitDown$Rumours" 46 sY1_isFreeGate 1 := ⟨sd_in4_ (i := 184) rfl rfl, sV1_isFreeGate.1, sV1_isFreeGate.2, sH1_isFreeGate.1, sW1_isFreeGate, sH1_isFreeGate.2.1, sH1_isFreeGate.2.2⟩
theorem sM4_52 : sd_mv "SitDown$Rumours" 52 sY4_mostBelieved 0 := ⟨sd_in4_ (i := 188) rfl rfl, sV4_mostBelieved.1, sV4_mostBelieved.2, sH4_mostBelieved.1, sW4_mostBelieved, sH4_mostBelieved.2.1, sH4_mostBelieved.2.2⟩
theorem sM4_56 : sd_mv "SitDown$Rumours" 56 sY4_isMoreBelieved 2 := ⟨sd_in4_ (i := 192) rfl rfl, sV4_isMoreBelieved.1, sV4_isMoreBelieved.2, sH4_isMoreBelieved.1, sW4_isMoreBelieved, sH4_isMoreBelieved.2.1, sH4_isMoreBelieved.2.2⟩
theorem sM10_276 : sd_mv "SitDown" 276 sY1_guardBySquads 1 := ⟨sd_in4_ (i := 196) rfl rfl, sV1_guardBySquads.1, sV1_guardBySquads.2, sH1_guardBySquads.1, sW1_guardBySquads, sH1_guardBySquads.2.1, sH1_guardBySquads.2.2⟩
theorem sM1_99 : sd_mv "SitDown$Holds" 99 sY1_isFreeGate 1 := ⟨sd_in4_ (i := 200) rfl rfl, sV1_isFreeGate.1, sV1_isFreeGate.2, sH1_isFreeGate.1, sW1_isFreeGate, sH1_isFreeGate.2.1, sH1_isFreeGate.2.2⟩
theorem sM10_279 : sd_mv "SitDown" 279 sY4_leastFor 3 := ⟨sd_in4_ (i := 205) rfl rfl, sV4_leastFor.1, sV4_leastFor.2, sH4_leastFor.1, sW4_leastFor, sH4_leastFor.2.1, sH4_leastFor.2.2⟩
theorem sM4_59 : sd_mv "SitDown$Rumours" 59 sY4_thoseOut 0 := ⟨sd_in4_ (i := 209) rfl rfl, sV4_thoseOut.1, sV4_thoseOut.2, sH4_thoseOut.1, sW4_thoseOut, sH4_thoseOut.2.1, sH4_thoseOut.2.2⟩
theorem sM4_62 : sd_ms "SitDown$Rumours" 62 sYJ6_bitCount_0f7a4 1 := ⟨sd_in4_ (i := 210) rfl rfl, sTJ6_bitCount_0f7a4, sHJ6_bitCount_0f7a4.1, sWJ6_bitCount_0f7a4, sHJ6_bitCount_0f7a4.2.1, sHJ6_bitCount_0f7a4.2.2⟩
theorem sM4_68 : sd_mv "SitDown$Rumours" 68 sY4_setSquads 2 := ⟨sd_in4_ (i := 211) rfl rfl, sV4_setSquads.1, sV4_setSquads.2, sH4_setSquads.1, sW4_setSquads, sH4_setSquads.2.1, sH4_setSquads.2.2⟩
theorem sM10_289 : sd_mv "SitDown" 289 sY1_isUnlike 1 := ⟨sd_in4_ (i := 217) rfl rfl, sV1_isUnlike.1, sV1_isUnlike.2, sH1_isUnlike.1, sW1_isUnlike, sH1_isUnlike.2.1, sH1_isUnlike.2.2⟩
theorem sM10_292 : sd_mv "SitDown" 292 sY1_unlikeTerms 0 := ⟨sd_in4_ (i := 225) rfl rfl, sV1_unlikeTerms.1, sV1_unlikeTerms.2, sH1_unlikeTerms.1, sW1_unlikeTerms, sH1_unlikeTerms.2.1, sH1_unlikeTerms.2.2⟩
theorem sM1_103 : sd_mv "SitDown$Holds" 103 sY1_isUnlike 1 := ⟨sd_in4_ (i := 229) rfl rfl, sV1_isUnlike.1, sV1_isUnlike.2, sH1_isUnlike.1, sW1_isUnlike, sH1_isUnlike.2.1, sH1_isUnlike.2.2⟩
theorem sM10_295 : sd_mv "SitDown" 295 sY1_areTerms 1 := ⟨sd_in4_ (i := 234) rfl rfl, sV1_areTerms.1, sV1_areTerms.2, sH1_areTerms.1, sW1_areTerms, sH1_areTerms.2.1, sH1_areTerms.2.2⟩
theorem sM10_298 : sd_ms "SitDown" 298 sYJ6_bitCount_0f7a4 1 := ⟨sd_in4_ (i := 238) rfl rfl, sTJ6_bitCount_0f7a4, sHJ6_bitCount_0f7a4.1, sWJ6_bitCount_0f7a4, sHJ6_bitCount_0f7a4.2.1, sHJ6_bitCount_0f7a4.2.2⟩
theorem sM10_303 : sd_mv "SitDown" 303 sY1_termsToSign 3 := ⟨sd_in4_ (i := 239) rfl rfl, sV1_termsToSign.1, sV1_termsToSign.2, sH1_termsToSign.1, sW1_termsToSign, sH1_termsToSign.2.1, sH1_termsToSign.2.2⟩
theorem sM1_106 : sd_ms "SitDown$Holds" 106 sYJ6_bitCount_0f7a4 1 := ⟨sd_in5_ (i := 3) rfl rfl, sTJ6_bitCount_0f7a4, sHJ6_bitCount_0f7a4.1, sWJ6_bitCount_0f7a4, sHJ6_bitCount_0f7a4.2.1, sHJ6_bitCount_0f7a4.2.2⟩
theorem sM1_112 : sd_mv "SitDown$Holds" 112 sY1_isSigned 3 := ⟨sd_in5_ (i := 4) rfl rfl, sV1_isSigned.1, sV1_isSigned.2, sH1_isSigned.1, sW1_isSigned, sH1_isSigned.2.1, sH1_isSigned.2.2⟩
theorem sM1_121 : sd_mv "SitDown$Holds" 121 sY1_sumIn 2 := ⟨sd_in5_ (i := 8) rfl rfl, sV1_sumIn.1, sV1_sumIn.2, sH1_sumIn.1, sW1_sumIn, sH1_sumIn.2.1, sH1_sumIn.2.2⟩
theorem sM1_115 : sd_mv "SitDown$Holds" 115 sY1_isDearer 2 := ⟨sd_in5_ (i := 12) rfl rfl, sV1_isDearer.1, sV1_isDearer.2, sH1_isDearer.1, sW1_isDearer, sH1_isDearer.2.1, sH1_isDearer.2.2⟩
theorem sM10_318 : sd_mv "SitDown" 318 sY2_leastWho 0 := ⟨sd_in5_ (i := 25) rfl rfl, sV2_leastWho.1, sV2_leastWho.2, sH2_leastWho.1, sW2_leastWho, sH2_leastWho.2.1, sH2_leastWho.2.2⟩
theorem sM2_22 : sd_ms "SitDown$Lists" 22 sYJ9_max_7cf53 2 := ⟨sd_in5_ (i := 29) rfl rfl, sTJ9_max_7cf53, sHJ9_max_7cf53.1, sWJ9_max_7cf53, sHJ9_max_7cf53.2.1, sHJ9_max_7cf53.2.2⟩
theorem sM10_321 : sd_mv "SitDown" 321 sY2_mostWho 0 := ⟨sd_in5_ (i := 30) rfl rfl, sV2_mostWho.1, sV2_mostWho.2, sH2_mostWho.1, sW2_mostWho, sH2_mostWho.2.1, sH2_mostWho.2.2⟩
theorem sM2_32 : sd_ms "SitDown$Lists" 32 sYJ9_min_7cf53 2 := ⟨sd_in5_ (i := 37) rfl rfl, sTJ9_min_7cf53, sHJ9_min_7cf53.1, sWJ9_min_7cf53, sHJ9_min_7cf53.2.1, sHJ9_min_7cf53.2.2⟩
theorem sM10_334 : sd_ms "SitDown" 334 sY10_areGame 3 := ⟨sd_in5_ (i := 46) rfl rfl, sT10_areGame, sH10_areGame.1, sW10_areGame, sH10_areGame.2.1, sH10_areGame.2.2⟩
theorem sM10_337 : sd_mv "SitDown" 337 sY0_playFreely 3 := ⟨sd_in5_ (i := 49) rfl rfl, sV0_playFreely.1, sV0_playFreely.2, sH0_playFreely.1, sW0_playFreely, sH0_playFreely.2.1, sH0_playFreely.2.2⟩
theorem sM0_33 : sd_mv "SitDown$Game" 33 sY0_behindSteps 5 := ⟨sd_in5_ (i := 54) rfl rfl, sV0_behindSteps.1, sV0_behindSteps.2, sH0_behindSteps.1, sW0_behindSteps, sH0_behindSteps.2.1, sH0_behindSteps.2.2⟩
theorem sM0_41 : sd_ms "SitDown$Game" 41 sYJ9_max_7cf53 2 := ⟨sd_in5_ (i := 58) rfl rfl, sTJ9_max_7cf53, sHJ9_max_7cf53.1, sWJ9_max_7cf53, sHJ9_max_7cf53.2.1, sHJ9_max_7cf53.2.2⟩
theorem sM0_47 : sd_mv "SitDown$Game" 47 sY0_behindMen 5 := ⟨sd_in5_ (i := 59) rfl rfl, sV0_behindMen.1, sV0_behindMen.2, sH0_behindMen.1, sW0_behindMen, sH0_behindMen.2.1, sH0_behindMen.2.2⟩
theorem sM0_50 : sd_ms "SitDown$Game" 50 sYJ9_min_7cf53 2 := ⟨sd_in5_ (i := 63) rfl rfl, sTJ9_min_7cf53, sHJ9_min_7cf53.1, sWJ9_min_7cf53, sHJ9_min_7cf53.2.1, sHJ9_min_7cf53.2.2⟩
theorem sM0_53 : sd_mv "SitDown$Game" 53 sY0_behindCompany 5 := ⟨sd_in5_ (i := 64) rfl rfl, sV0_behindCompany.1, sV0_behindCompany.2, sH0_behindCompany.1, sW0_behindCompany, sH0_behindCompany.2.1, sH0_behindCompany.2.2⟩
theorem sM10_340 : sd_mv "SitDown" 340 sY0_bestFirstMove 3 := ⟨sd_in5_ (i := 72) rfl rfl, sV0_bestFirstMove.1, sV0_bestFirstMove.2, sH0_bestFirstMove.1, sW0_bestFirstMove, sH0_bestFirstMove.2.1, sH0_bestFirstMove.2.2⟩
theorem sM0_37 : sd_mv "SitDown$Game" 37 sY0_playFreely 3 := ⟨sd_in5_ (i := 76) rfl rfl, sV0_playFreely.1, sV0_playFreely.2, sH0_playFreely.1, sW0_playFreely, sH0_playFreely.2.1, sH0_playFreely.2.2⟩
theorem sM10_343 : sd_mv "SitDown" 343 sY0_playAsPlanned 4 := ⟨sd_in5_ (i := 81) rfl rfl, sV0_playAsPlanned.1, sV0_playAsPlanned.2, sH0_playAsPlanned.1, sW0_playAsPlanned, sH0_playAsPlanned.2.1, sH0_playAsPlanned.2.2⟩
theorem sM10_347 : sd_mv "SitDown" 347 sY6_closeHour 0 := ⟨sd_in5_ (i := 90) rfl rfl, sV6_closeHour.1, sV6_closeHour.2, sH6_closeHour.1, sW6_closeHour, sH6_closeHour.2.1, sH6_closeHour.2.2⟩
theorem sM6_208 : sd_mv "SitDown$Site" 208 sY1_weather 1 := ⟨sd_in5_ (i := 94) rfl rfl, sV1_weather.1, sV1_weather.2, sH1_weather.1, sW1_weather, sH1_weather.2.1, sH1_weather.2.2⟩
theorem sM1_88 : sd_mv "SitDown$Holds" 88 sY1_warmthBehind 3 := ⟨sd_in5_ (i := 98) rfl rfl, sV1_warmthBehind.1, sV1_warmthBehind.2, sH1_warmthBehind.1, sW1_warmthBehind, sH1_warmthBehind.2.1, sH1_warmthBehind.2.2⟩
theorem sM6_213 : sd_mv "SitDown$Site" 213 sY6_eatOrHunger 2 := ⟨sd_in5_ (i := 99) rfl rfl, sV6_eatOrHunger.1, sV6_eatOrHunger.2, sH6_eatOrHunger.1, sW6_eatOrHunger, sH6_eatOrHunger.2.1, sH6_eatOrHunger.2.2⟩
theorem sM6_231 : sd_mv "SitDown$Site" 231 sY1_firstWithMeals 1 := ⟨sd_in5_ (i := 103) rfl rfl, sV1_firstWithMeals.1, sV1_firstWithMeals.2, sH1_firstWithMeals.1, sW1_firstWithMeals, sH1_firstWithMeals.2.1, sH1_firstWithMeals.2.2⟩
theorem sM6_217 : sd_mv "SitDown$Site" 217 sY6_loseWill 2 := ⟨sd_in5_ (i := 107) rfl rfl, sV6_loseWill.1, sV6_loseWill.2, sH6_loseWill.1, sW6_loseWill, sH6_loseWill.2.1, sH6_loseWill.2.2⟩
theorem sM6_221 : sd_mv "SitDown$Site" 221 sY9_closeHour 1 := ⟨sd_in5_ (i := 111) rfl rfl, sV9_closeHour.1, sV9_closeHour.2, sH9_closeHour.1, sW9_closeHour, sH9_closeHour.2.1, sH9_closeHour.2.2⟩
theorem sM9_39 : sd_ms "SitDown$Works" 39 sYJ6_bitCount_0f7a4 1 := ⟨sd_in5_ (i := 115) rfl rfl, sTJ6_bitCount_0f7a4, sHJ6_bitCount_0f7a4.1, sWJ6_bitCount_0f7a4, sHJ6_bitCount_0f7a4.2.1, sHJ6_bitCount_0f7a4.2.2⟩
theorem sM6_225 : sd_mv "SitDown$Site" 225 sY6_writePage 2 := ⟨sd_in5_ (i := 116) rfl rfl, sV6_writePage.1, sV6_writePage.2, sH6_writePage.1, sW6_writePage, sH6_writePage.2.1, sH6_writePage.2.2⟩
theorem sM6_237 : sd_mv "SitDown$Site" 237 sY3_willInShops 0 := ⟨sd_in5_ (i := 120) rfl rfl, sV3_willInShops.1, sV3_willInShops.2, sH3_willInShops.1, sW3_willInShops, sH3_willInShops.2.1, sH3_willInShops.2.2⟩
theorem sM6_240 : sd_mv "SitDown$Site" 240 sY1_mealsIn 1 := ⟨sd_in5_ (i := 124) rfl rfl, sV1_mealsIn.1, sV1_mealsIn.2, sH1_mealsIn.1, sW1_mealsIn, sH1_mealsIn.2.1, sH1_mealsIn.2.2⟩
theorem sM6_246 : sd_mv "SitDown$Site" 246 sY1_heldGates 0 := ⟨sd_in5_ (i := 125) rfl rfl, sV1_heldGates.1, sV1_heldGates.2, sH1_heldGates.1, sW1_heldGates, sH1_heldGates.2.1, sH1_heldGates.2.2⟩
theorem sM6_228 : sd_mv "SitDown$Site" 228 sY1_openWindows 0 := ⟨sd_in5_ (i := 129) rfl rfl, sV1_openWindows.1, sV1_openWindows.2, sH1_openWindows.1, sW1_openWindows, sH1_openWindows.2.1, sH1_openWindows.2.2⟩
theorem sM10_350 : sd_mv "SitDown" 350 sY6_isClosed 1 := ⟨sd_in5_ (i := 138) rfl rfl, sV6_isClosed.1, sV6_isClosed.2, sH6_isClosed.1, sW6_isClosed, sH6_isClosed.2.1, sH6_isClosed.2.2⟩
theorem sM10_356 : sd_mv "SitDown" 356 sY5_begin 2 := ⟨sd_in5_ (i := 150) rfl rfl, sV5_begin.1, sV5_begin.2, sH5_begin.1, sW5_begin, sH5_begin.2.1, sH5_begin.2.2⟩
theorem sM10_359 : sd_mv "SitDown" 359 sY5_put 2 := ⟨sd_in5_ (i := 159) rfl rfl, sV5_put.1, sV5_put.2, sH5_put.1, sW5_put, sH5_put.2.1, sH5_put.2.2⟩
theorem sM10_366 : sd_mv "SitDown" 366 sY5_hasNumbers 2 := ⟨sd_in5_ (i := 168) rfl rfl, sV5_hasNumbers.1, sV5_hasNumbers.2, sH5_hasNumbers.1, sW5_hasNumbers, sH5_hasNumbers.2.1, sH5_hasNumbers.2.2⟩
theorem sM10_375 : sd_mv "SitDown" 375 sY6_become 1 := ⟨sd_in5_ (i := 176) rfl rfl, sV6_become.1, sV6_become.2, sH6_become.1, sW6_become, sH6_become.2.1, sH6_become.2.2⟩
theorem sM6_77 : sd_mv "SitDown$Site" 77 sY1_become 1 := ⟨sd_in5_ (i := 180) rfl rfl, sV1_become.1, sV1_become.2, sH1_become.1, sW1_become, sH1_become.2.1, sH1_become.2.2⟩
theorem sM6_81 : sd_mv "SitDown$Site" 81 sY3_become 1 := ⟨sd_in5_ (i := 185) rfl rfl, sV3_become.1, sV3_become.2, sH3_become.1, sW3_become, sH3_become.2.1, sH3_become.2.2⟩
theorem sM6_84 : sd_mv "SitDown$Site" 84 sY9_become 1 := ⟨sd_in5_ (i := 190) rfl rfl, sV9_become.1, sV9_become.2, sH9_become.1, sW9_become, sH9_become.2.1, sH9_become.2.2⟩
theorem sM6_87 : sd_mv "SitDown$Site" 87 sY8_become 1 := ⟨sd_in5_ (i := 194) rfl rfl, sV8_become.1, sV8_become.2, sH8_become.1, sW8_become, sH8_become.2.1, sH8_become.2.2⟩
theorem sM6_90 : sd_mv "SitDown$Site" 90 sY4_become 1 := ⟨sd_in5_ (i := 199) rfl rfl, sV4_become.1, sV4_become.2, sH4_become.1, sW4_become, sH4_become.2.1, sH4_become.2.2⟩
theorem sM6_93 : sd_mv "SitDown$Site" 93 sY2_become 1 := ⟨sd_in5_ (i := 204) rfl rfl, sV2_become.1, sV2_become.2, sH2_become.1, sW2_become, sH2_become.2.1, sH2_become.2.2⟩
theorem sM6_96 : sd_mv "SitDown$Site" 96 sY0_become 1 := ⟨sd_in5_ (i := 209) rfl rfl, sV0_become.1, sV0_become.2, sH0_become.1, sW0_become, sH0_become.2.1, sH0_become.2.2⟩
theorem sM10_385 : sd_mv "SitDown" 385 sY8_countInForce 1 := ⟨sd_in5_ (i := 226) rfl rfl, sV8_countInForce.1, sV8_countInForce.2, sH8_countInForce.1, sW8_countInForce, sH8_countInForce.2.1, sH8_countInForce.2.2⟩
theorem sM10_388 : sd_mv "SitDown" 388 sY1_heldGates 0 := ⟨sd_in5_ (i := 227) rfl rfl, sV1_heldGates.1, sV1_heldGates.2, sH1_heldGates.1, sW1_heldGates, sH1_heldGates.2.1, sH1_heldGates.2.2⟩
theorem sM10_391 : sd_ms "SitDown" 391 sY10_sumOf 1 := ⟨sd_in5_ (i := 232) rfl rfl, sT10_sumOf, sH10_sumOf.1, sW10_sumOf, sH10_sumOf.2.1, sH10_sumOf.2.2⟩
theorem sM11_56 : sd_ms "SitDownModel" 56 sY11_in 3 := ⟨sd_in6_ (i := 76) rfl rfl, sT11_in, sH11_in.1, sW11_in, sH11_in.2.1, sH11_in.2.2⟩
theorem sM11_75 : sd_mv "SitDownModel" 75 sY11_areNumbers 3 := ⟨sd_in6_ (i := 79) rfl rfl, sV11_areNumbers.1, sV11_areNumbers.2, sH11_areNumbers.1, sW11_areNumbers, sH11_areNumbers.2.1, sH11_areNumbers.2.2⟩
theorem sM11_72 : sd_mv "SitDownModel" 72 sY11_isShop 1 := ⟨sd_in6_ (i := 83) rfl rfl, sV11_isShop.1, sV11_isShop.2, sH11_isShop.1, sW11_isShop, sH11_isShop.2.1, sH11_isShop.2.2⟩
theorem sM11_60 : sd_mv "SitDownModel" 60 sY11_isHold 1 := ⟨sd_in6_ (i := 87) rfl rfl, sV11_isHold.1, sV11_isHold.2, sH11_isHold.1, sW11_isHold, sH11_isHold.2.1, sH11_isHold.2.2⟩
theorem sM11_64 : sd_mv "SitDownModel" 64 sY11_kindOf 1 := ⟨sd_in6_ (i := 91) rfl rfl, sV11_kindOf.1, sV11_kindOf.2, sH11_kindOf.1, sW11_kindOf, sH11_kindOf.2.1, sH11_kindOf.2.2⟩
theorem sM11_78 : sd_mv "SitDownModel" 78 sY11_finding 1 := ⟨sd_in6_ (i := 95) rfl rfl, sV11_finding.1, sV11_finding.2, sH11_finding.1, sW11_finding, sH11_finding.2.1, sH11_finding.2.2⟩
theorem sM11_81 : sd_mv "SitDownModel" 81 sY11_manyOf 1 := ⟨sd_in6_ (i := 100) rfl rfl, sV11_manyOf.1, sV11_manyOf.2, sH11_manyOf.1, sW11_manyOf, sH11_manyOf.2.1, sH11_manyOf.2.2⟩
theorem sM11_68 : sd_mv "SitDownModel" 68 sY11_isOf 2 := ⟨sd_in6_ (i := 104) rfl rfl, sV11_isOf.1, sV11_isOf.2, sH11_isOf.1, sW11_isOf, sH11_isOf.2.1, sH11_isOf.2.2⟩
theorem sM11_90 : sd_mv "SitDownModel" 90 sY11_makes 1 := ⟨sd_in6_ (i := 116) rfl rfl, sV11_makes.1, sV11_makes.2, sH11_makes.1, sW11_makes, sH11_makes.2.1, sH11_makes.2.2⟩
theorem sM11_84 : sd_mv "SitDownModel" 84 sY11_menIn 1 := ⟨sd_in6_ (i := 120) rfl rfl, sV11_menIn.1, sV11_menIn.2, sH11_menIn.1, sW11_menIn, sH11_menIn.2.1, sH11_menIn.2.2⟩
theorem sM11_87 : sd_mv "SitDownModel" 87 sY11_isBarred 2 := ⟨sd_in6_ (i := 124) rfl rfl, sV11_isBarred.1, sV11_isBarred.2, sH11_isBarred.1, sW11_isBarred, sH11_isBarred.2.1, sH11_isBarred.2.2⟩
theorem sM11_193 : sd_mv "SitDownModel" 193 sY11_isInForce 2 := ⟨sd_in6_ (i := 128) rfl rfl, sV11_isInForce.1, sV11_isInForce.2, sH11_isInForce.1, sW11_isInForce, sH11_isInForce.2.1, sH11_isInForce.2.2⟩
theorem sM11_189 : sd_mv "SitDownModel" 189 sY11_reads 3 := ⟨sd_in6_ (i := 132) rfl rfl, sV11_reads.1, sV11_reads.2, sH11_reads.1, sW11_reads, sH11_reads.2.1, sH11_reads.2.2⟩
theorem sM11_173 : sd_mv "SitDownModel" 173 sY11_word 2 := ⟨sd_in6_ (i := 136) rfl rfl, sV11_word.1, sV11_word.2, sH11_word.1, sW11_word, sH11_word.2.1, sH11_word.2.2⟩
theorem sM11_164 : sd_mv "SitDownModel" 164 sY11_byteAt 0 := ⟨sd_in6_ (i := 140) rfl rfl, sV11_byteAt.1, sV11_byteAt.2, sH11_byteAt.1, sW11_byteAt, sH11_byteAt.2.1, sH11_byteAt.2.2⟩
theorem sM11_160 : sd_mv "SitDownModel" 160 sY11_isGood 0 := ⟨sd_in6_ (i := 144) rfl rfl, sV11_isGood.1, sV11_isGood.2, sH11_isGood.1, sW11_isGood, sH11_isGood.2.1, sH11_isGood.2.2⟩
theorem sM11_167 : sd_mv "SitDownModel" 167 sY11_wrong 0 := ⟨sd_in6_ (i := 148) rfl rfl, sV11_wrong.1, sV11_wrong.2, sH11_wrong.1, sW11_wrong, sH11_wrong.2.1, sH11_wrong.2.2⟩
theorem sM11_170 : sd_mv "SitDownModel" 170 sY11_byteIs 1 := ⟨sd_in6_ (i := 152) rfl rfl, sV11_byteIs.1, sV11_byteIs.2, sH11_byteIs.1, sW11_byteIs, sH11_byteIs.2.1, sH11_byteIs.2.2⟩
theorem sM11_179 : sd_mv "SitDownModel" 179 sY11_test 0 := ⟨sd_in6_ (i := 156) rfl rfl, sV11_test.1, sV11_test.2, sH11_test.1, sW11_test, sH11_test.2.1, sH11_test.2.2⟩
theorem sM11_93 : sd_mv "SitDownModel" 93 sY11_become 2 := ⟨sd_in6_ (i := 164) rfl rfl, sV11_become.1, sV11_become.2, sH11_become.1, sW11_become, sH11_become.2.1, sH11_become.2.2⟩
theorem sM11_100 : sd_mv "SitDownModel" 100 sY11_nextWarmth 2 := ⟨sd_in6_ (i := 180) rfl rfl, sV11_nextWarmth.1, sV11_nextWarmth.2, sH11_nextWarmth.1, sW11_nextWarmth, sH11_nextWarmth.2.1, sH11_nextWarmth.2.2⟩
theorem sM11_97 : sd_mv "SitDownModel" 97 sY11_leads 2 := ⟨sd_in6_ (i := 184) rfl rfl, sV11_leads.1, sV11_leads.2, sH11_leads.1, sW11_leads, sH11_leads.2.1, sH11_leads.2.2⟩
theorem sM11_103 : sd_mv "SitDownModel" 103 sY11_isMan 1 := ⟨sd_in6_ (i := 196) rfl rfl, sV11_isMan.1, sV11_isMan.2, sH11_isMan.1, sW11_isMan, sH11_isMan.2.1, sH11_isMan.2.2⟩
theorem sM11_109 : sd_mv "SitDownModel" 109 sY11_reachOf 1 := ⟨sd_in6_ (i := 204) rfl rfl, sV11_reachOf.1, sV11_reachOf.2, sH11_reachOf.1, sW11_reachOf, sH11_reachOf.2.1, sH11_reachOf.2.2⟩
theorem sM11_106 : sd_mv "SitDownModel" 106 sY11_reachBy 2 := ⟨sd_in6_ (i := 208) rfl rfl, sV11_reachBy.1, sV11_reachBy.2, sH11_reachBy.1, sW11_reachBy, sH11_reachBy.2.1, sH11_reachBy.2.2⟩
theorem sM11_112 : sd_mv "SitDownModel" 112 sY11_willThen 5 := ⟨sd_in6_ (i := 220) rfl rfl, sV11_willThen.1, sV11_willThen.2, sH11_willThen.1, sW11_willThen, sH11_willThen.2.1, sH11_willThen.2.2⟩
theorem sM11_116 : sd_mv "SitDownModel" 116 sY11_menInAll 1 := ⟨sd_in6_ (i := 232) rfl rfl, sV11_menInAll.1, sV11_menInAll.2, sH11_menInAll.1, sW11_menInAll, sH11_menInAll.2.1, sH11_menInAll.2.2⟩
theorem sM11_119 : sd_mv "SitDownModel" 119 sY11_mealsIn 1 := ⟨sd_in6_ (i := 236) rfl rfl, sV11_mealsIn.1, sV11_mealsIn.2, sH11_mealsIn.1, sW11_mealsIn, sH11_mealsIn.2.1, sH11_mealsIn.2.2⟩
theorem sM11_122 : sd_mv "SitDownModel" 122 sY11_forceAt 1 := ⟨sd_in7_ (i := 12) rfl rfl, sV11_forceAt.1, sV11_forceAt.2, sH11_forceAt.1, sW11_forceAt, sH11_forceAt.2.1, sH11_forceAt.2.2⟩
theorem sM11_126 : sd_ms "SitDownModel" 126 sY11_isSheet 1 := ⟨sd_in7_ (i := 33) rfl rfl, sT11_isSheet, sH11_isSheet.1, sW11_isSheet, sH11_isSheet.2.1, sH11_isSheet.2.2⟩
theorem sM11_133 : sd_mv "SitDownModel" 133 sY11_makers 0 := ⟨sd_in7_ (i := 44) rfl rfl, sV11_makers.1, sV11_makers.2, sH11_makers.1, sW11_makers, sH11_makers.2.1, sH11_makers.2.2⟩
theorem sM11_137 : sd_mv "SitDownModel" 137 sY11_goesOn 1 := ⟨sd_in7_ (i := 48) rfl rfl, sV11_goesOn.1, sV11_goesOn.2, sH11_goesOn.1, sW11_goesOn, sH11_goesOn.2.1, sH11_goesOn.2.2⟩
theorem sM11_129 : sd_mv "SitDownModel" 129 sY11_lacks 3 := ⟨sd_in7_ (i := 52) rfl rfl, sV11_lacks.1, sV11_lacks.2, sH11_lacks.1, sW11_lacks, sH11_lacks.2.1, sH11_lacks.2.2⟩
theorem sM11_141 : sd_ms "SitDownModel" 141 sY11_ones 1 := ⟨sd_in7_ (i := 60) rfl rfl, sT11_ones, sH11_ones.1, sW11_ones, sH11_ones.2.1, sH11_ones.2.2⟩
theorem sM11_144 : sd_mv "SitDownModel" 144 sY11_doStand 1 := ⟨sd_in7_ (i := 63) rfl rfl, sV11_doStand.1, sV11_doStand.2, sH11_doStand.1, sW11_doStand, sH11_doStand.2.1, sH11_doStand.2.2⟩
theorem sM11_196 : sd_mv "SitDownModel" 196 sY11_inForce 0 := ⟨sd_in7_ (i := 83) rfl rfl, sV11_inForce.1, sV11_inForce.2, sH11_inForce.1, sW11_inForce, sH11_inForce.2.1, sH11_inForce.2.2⟩
theorem sM11_202 : sd_mv "SitDownModel" 202 sY11_sets 1 := ⟨sd_in7_ (i := 115) rfl rfl, sV11_sets.1, sV11_sets.2, sH11_sets.1, sW11_sets, sH11_sets.2.1, sH11_sets.2.2⟩
theorem sM11_205 : sd_mv "SitDownModel" 205 sY11_isUnlike 1 := ⟨sd_in7_ (i := 127) rfl rfl, sV11_isUnlike.1, sV11_isUnlike.2, sH11_isUnlike.1, sW11_isUnlike, sH11_isUnlike.2.1, sH11_isUnlike.2.2⟩
theorem sM11_208 : sd_mv "SitDownModel" 208 sY11_sumOf 2 := ⟨sd_in7_ (i := 139) rfl rfl, sV11_sumOf.1, sV11_sumOf.2, sH11_sumOf.1, sW11_sumOf, sH11_sumOf.2.1, sH11_sumOf.2.2⟩
theorem sM11_221 : sd_ms "SitDownModel" 221 sY11_isGame 2 := ⟨sd_in7_ (i := 159) rfl rfl, sT11_isGame, sH11_isGame.1, sW11_isGame, sH11_isGame.2.1, sH11_isGame.2.2⟩
theorem sM11_214 : sd_mv "SitDownModel" 214 sY11_game 4 := ⟨sd_in7_ (i := 162) rfl rfl, sV11_game.1, sV11_game.2, sH11_game.1, sW11_game, sH11_game.2.1, sH11_game.2.2⟩
theorem sM11_218 : sd_mv "SitDownModel" 218 sY11_behind 5 := ⟨sd_in7_ (i := 166) rfl rfl, sV11_behind.1, sV11_behind.2, sH11_behind.1, sW11_behind, sH11_behind.2.1, sH11_behind.2.2⟩
theorem sM11_211 : sd_ms "SitDownModel" 211 sY11_stands 2 := ⟨sd_in7_ (i := 170) rfl rfl, sT11_stands, sH11_stands.1, sW11_stands, sH11_stands.2.1, sH11_stands.2.2⟩
theorem sM11_224 : sd_mv "SitDownModel" 224 sY11_fixed 4 := ⟨sd_in7_ (i := 181) rfl rfl, sV11_fixed.1, sV11_fixed.2, sH11_fixed.1, sW11_fixed, sH11_fixed.2.1, sH11_fixed.2.2⟩
theorem sM11_249 : sd_mv "SitDownModel" 249 sY11_closes 0 := ⟨sd_in7_ (i := 189) rfl rfl, sV11_closes.1, sV11_closes.2, sH11_closes.1, sW11_closes, sH11_closes.2.1, sH11_closes.2.2⟩
theorem sM11_230 : sd_mv "SitDownModel" 230 sY11_warms 0 := ⟨sd_in7_ (i := 193) rfl rfl, sV11_warms.1, sV11_warms.2, sH11_warms.1, sW11_warms, sH11_warms.2.1, sH11_warms.2.2⟩
theorem sM11_233 : sd_mv "SitDownModel" 233 sY11_eats 1 := ⟨sd_in7_ (i := 197) rfl rfl, sV11_eats.1, sV11_eats.2, sH11_eats.1, sW11_eats, sH11_eats.2.1, sH11_eats.2.2⟩
theorem sM11_227 : sd_mv "SitDownModel" 227 sY11_kitchenFor 1 := ⟨sd_in7_ (i := 201) rfl rfl, sV11_kitchenFor.1, sV11_kitchenFor.2, sH11_kitchenFor.1, sW11_kitchenFor, sH11_kitchenFor.2.1, sH11_kitchenFor.2.2⟩
theorem sM11_236 : sd_mv "SitDownModel" 236 sY11_tires 1 := ⟨sd_in7_ (i := 205) rfl rfl, sV11_tires.1, sV11_tires.2, sH11_tires.1, sW11_tires, sH11_tires.2.1, sH11_tires.2.2⟩
theorem sM11_239 : sd_mv "SitDownModel" 239 sY11_works 0 := ⟨sd_in7_ (i := 209) rfl rfl, sV11_works.1, sV11_works.2, sH11_works.1, sW11_works, sH11_works.2.1, sH11_works.2.2⟩
theorem sM11_242 : sd_mv "SitDownModel" 242 sY11_writes 2 := ⟨sd_in7_ (i := 213) rfl rfl, sV11_writes.1, sV11_writes.2, sH11_writes.1, sW11_writes, sH11_writes.2.1, sH11_writes.2.2⟩
theorem sM11_246 : sd_mv "SitDownModel" 246 sY11_heldGates 0 := ⟨sd_in7_ (i := 217) rfl rfl, sV11_heldGates.1, sV11_heldGates.2, sH11_heldGates.1, sW11_heldGates, sH11_heldGates.2.1, sH11_heldGates.2.2⟩
theorem sM11_252 : sd_mv "SitDownModel" 252 sY11_isClosed 1 := ⟨sd_in7_ (i := 225) rfl rfl, sV11_isClosed.1, sV11_isClosed.2, sH11_isClosed.1, sW11_isClosed, sH11_isClosed.2.1, sH11_isClosed.2.2⟩
theorem sM11_255 : sd_mv "SitDownModel" 255 sY11_has 3 := ⟨sd_in8_ (i := 5) rfl rfl, sV11_has.1, sV11_has.2, sH11_has.1, sW11_has, sH11_has.2.1, sH11_has.2.2⟩
theorem sM11_261 : sd_mv "SitDownModel" 261 sY11_menInShops 0 := ⟨sd_in8_ (i := 25) rfl rfl, sV11_menInShops.1, sV11_menInShops.2, sH11_menInShops.1, sW11_menInShops, sH11_menInShops.2.1, sH11_menInShops.2.2⟩
theorem sM1_62 : sd_mn "SitDown$Holds" 62 "SitDown" sY10_isWithin 3 := ⟨List.mem_filter.mpr ⟨sd_it2_ (i := 160) rfl, rfl⟩, sT10_isWithin, sH10_isWithin.1, sW10_isWithin, sH10_isWithin.2.1, sH10_isWithin.2.2⟩
theorem sM1_75 : sd_mn "SitDown$Holds" 75 "SitDown" sY10_asNumber 1 := ⟨List.mem_filter.mpr ⟨sd_it2_ (i := 184) rfl, rfl⟩, sT10_asNumber, sH10_asNumber.1, sW10_asNumber, sH10_asNumber.2.1, sH10_asNumber.2.2⟩
theorem sM3_36 : sd_mn "SitDown$Men" 36 "SitDown" sY10_isIn 2 := ⟨List.mem_filter.mpr ⟨sd_it2_ (i := 211) rfl, rfl⟩, sT10_isIn, sH10_isIn.1, sW10_isIn, sH10_isIn.2.1, sH10_isIn.2.2⟩
theorem sM3_40 : sd_mn "SitDown$Men" 40 "SitDown" sY10_asNumber 1 := ⟨List.mem_filter.mpr ⟨sd_it2_ (i := 214) rfl, rfl⟩, sT10_asNumber, sH10_asNumber.1, sW10_asNumber, sH10_asNumber.2.1, sH10_asNumber.2.2⟩
theorem sM3_32 : sd_mn "SitDown$Men" 32 "SitDown" sY10_isWithin 3 := ⟨List.mem_filter.mpr ⟨sd_it3_ (i := 55) rfl, rfl⟩, sT10_isWithin, sH10_isWithin.1, sW10_isWithin, sH10_isWithin.2.1, sH10_isWithin.2.2⟩
theorem sM6_204 : sd_mn "SitDown$Site" 204 "SitDown" sY10_asNumber 1 := ⟨List.mem_filter.mpr ⟨sd_it3_ (i := 95) rfl, rfl⟩, sT10_asNumber, sH10_asNumber.1, sW10_asNumber, sH10_asNumber.2.1, sH10_asNumber.2.2⟩
theorem sM1_96 : sd_mn "SitDown$Holds" 96 "SitDown" sY10_isIn 2 := ⟨List.mem_filter.mpr ⟨sd_it3_ (i := 121) rfl, rfl⟩, sT10_isIn, sH10_isIn.1, sW10_isIn, sH10_isIn.2.1, sH10_isIn.2.2⟩
theorem sM6_149 : sd_mn "SitDown$Site" 149 "SitDown" sY10_fill 2 := ⟨List.mem_filter.mpr ⟨sd_it3_ (i := 186) rfl, rfl⟩, sT10_fill, sH10_fill.1, sW10_fill, sH10_fill.2.1, sH10_fill.2.2⟩
theorem sM6_153 : sd_mn "SitDown$Site" 153 "SitDown" sY10_isIn 2 := ⟨List.mem_filter.mpr ⟨sd_it3_ (i := 189) rfl, rfl⟩, sT10_isIn, sH10_isIn.1, sW10_isIn, sH10_isIn.2.1, sH10_isIn.2.2⟩
theorem sM9_31 : sd_mn "SitDown$Works" 31 "SitDown" sY10_copyRow 2 := ⟨List.mem_filter.mpr ⟨sd_it3_ (i := 194) rfl, rfl⟩, sT10_copyRow, sH10_copyRow.1, sW10_copyRow, sH10_copyRow.2.1, sH10_copyRow.2.2⟩
theorem sM9_59 : sd_mn "SitDown$Works" 59 "SitDown" sY10_isIn 2 := ⟨List.mem_filter.mpr ⟨sd_it3_ (i := 213) rfl, rfl⟩, sT10_isIn, sH10_isIn.1, sW10_isIn, sH10_isIn.2.1, sH10_isIn.2.2⟩
theorem sM6_174 : sd_mn "SitDown$Site" 174 "SitDown" sY10_nextSubset 2 := ⟨List.mem_filter.mpr ⟨sd_it3_ (i := 234) rfl, rfl⟩, sT10_nextSubset, sH10_nextSubset.1, sW10_nextSubset, sH10_nextSubset.2.1, sH10_nextSubset.2.2⟩
theorem sM7_102 : sd_mn "SitDown$Tape" 102 "SitDown" sY10_isWithin 3 := ⟨List.mem_filter.mpr ⟨sd_it4_ (i := 112) rfl, rfl⟩, sT10_isWithin, sH10_isWithin.1, sW10_isWithin, sH10_isWithin.2.1, sH10_isWithin.2.2⟩
theorem sM8_60 : sd_mn "SitDown$Texts" 60 "SitDown" sY10_asNumber 1 := ⟨List.mem_filter.mpr ⟨sd_it4_ (i := 135) rfl, rfl⟩, sT10_asNumber, sH10_asNumber.1, sW10_asNumber, sH10_asNumber.2.1, sH10_asNumber.2.2⟩
theorem sM4_38 : sd_mn "SitDown$Rumours" 38 "SitDown" sY10_fill 2 := ⟨List.mem_filter.mpr ⟨sd_it4_ (i := 182) rfl, rfl⟩, sT10_fill, sH10_fill.1, sW10_fill, sH10_fill.2.1, sH10_fill.2.2⟩
theorem sM4_42 : sd_mn "SitDown$Rumours" 42 "SitDown" sY10_isIn 2 := ⟨List.mem_filter.mpr ⟨sd_it4_ (i := 183) rfl, rfl⟩, sT10_isIn, sH10_isIn.1, sW10_isIn, sH10_isIn.2.1, sH10_isIn.2.2⟩
theorem sM4_72 : sd_mn "SitDown$Rumours" 72 "SitDown" sY10_nextSubset 2 := ⟨List.mem_filter.mpr ⟨sd_it4_ (i := 212) rfl, rfl⟩, sT10_nextSubset, sH10_nextSubset.1, sW10_nextSubset, sH10_nextSubset.2.1, sH10_nextSubset.2.2⟩
theorem sM1_118 : sd_mn "SitDown$Holds" 118 "SitDown" sY10_nextSubset 2 := ⟨List.mem_filter.mpr ⟨sd_it5_ (i := 16) rfl, rfl⟩, sT10_nextSubset, sH10_nextSubset.1, sW10_nextSubset, sH10_nextSubset.2.1, sH10_nextSubset.2.2⟩
theorem sM2_28 : sd_mn "SitDown$Lists" 28 "SitDown" sY10_sumOf 1 := ⟨List.mem_filter.mpr ⟨sd_it5_ (i := 34) rfl, rfl⟩, sT10_sumOf, sH10_sumOf.1, sW10_sumOf, sH10_sumOf.2.1, sH10_sumOf.2.2⟩
theorem sM0_29 : sd_mn "SitDown$Game" 29 "SitDown" sY10_fill 2 := ⟨List.mem_filter.mpr ⟨sd_it5_ (i := 53) rfl, rfl⟩, sT10_fill, sH10_fill.1, sW10_fill, sH10_fill.2.1, sH10_fill.2.2⟩
theorem sM0_25 : sd_mn "SitDown$Game" 25 "SitDown" sY10_copyRow 2 := ⟨List.mem_filter.mpr ⟨sd_it5_ (i := 85) rfl, rfl⟩, sT10_copyRow, sH10_copyRow.1, sW10_copyRow, sH10_copyRow.2.1, sH10_copyRow.2.2⟩
theorem sM1_92 : sd_mn "SitDown$Holds" 92 "SitDown" sY10_fill 2 := ⟨List.mem_filter.mpr ⟨sd_it5_ (i := 133) rfl, rfl⟩, sT10_fill, sH10_fill.1, sW10_fill, sH10_fill.2.1, sH10_fill.2.2⟩
theorem sM5_22 : sd_mn "SitDown$Sheet" 22 "SitDown" sY10_fill 2 := ⟨List.mem_filter.mpr ⟨sd_it5_ (i := 154) rfl, rfl⟩, sT10_fill, sH10_fill.1, sW10_fill, sH10_fill.2.1, sH10_fill.2.2⟩
theorem sM1_58 : sd_mn "SitDown$Holds" 58 "SitDown" sY10_copyRow 2 := ⟨List.mem_filter.mpr ⟨sd_it5_ (i := 184) rfl, rfl⟩, sT10_copyRow, sH10_copyRow.1, sW10_copyRow, sH10_copyRow.2.1, sH10_copyRow.2.2⟩
theorem sM3_28 : sd_mn "SitDown$Men" 28 "SitDown" sY10_copyRow 2 := ⟨List.mem_filter.mpr ⟨sd_it5_ (i := 189) rfl, rfl⟩, sT10_copyRow, sH10_copyRow.1, sW10_copyRow, sH10_copyRow.2.1, sH10_copyRow.2.2⟩
theorem sM8_52 : sd_mn "SitDown$Texts" 52 "SitDown" sY10_copyRow 2 := ⟨List.mem_filter.mpr ⟨sd_it5_ (i := 198) rfl, rfl⟩, sT10_copyRow, sH10_copyRow.1, sW10_copyRow, sH10_copyRow.2.1, sH10_copyRow.2.2⟩
theorem sM4_34 : sd_mn "SitDown$Rumours" 34 "SitDown" sY10_copyRow 2 := ⟨List.mem_filter.mpr ⟨sd_it5_ (i := 203) rfl, rfl⟩, sT10_copyRow, sH10_copyRow.1, sW10_copyRow, sH10_copyRow.2.1, sH10_copyRow.2.2⟩
theorem sM2_18 : sd_mn "SitDown$Lists" 18 "SitDown" sY10_copyRow 2 := ⟨List.mem_filter.mpr ⟨sd_it5_ (i := 208) rfl, rfl⟩, sT10_copyRow, sH10_copyRow.1, sW10_copyRow, sH10_copyRow.2.1, sH10_copyRow.2.2⟩
theorem sM6_99 : sd_mn "SitDown$Site" 99 "SitDown" sY10_copyRow 2 := ⟨List.mem_filter.mpr ⟨sd_it5_ (i := 213) rfl, rfl⟩, sT10_copyRow, sH10_copyRow.1, sW10_copyRow, sH10_copyRow.2.1, sH10_copyRow.2.2⟩
