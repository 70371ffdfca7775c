theorem zT_of {w : Cond} {i : Nat} (h : lw_tbl[i]? = some w) (hg : goodWord w = true) : w ∈ zT := List.mem_filter.mpr ⟨List.mem_of_getElem? h, hg⟩
def zChk (ps : List Nat) (ws : List Cond) : Bool := decide (ps.filterMap (fun i => lw_tbl[i]?) = ws) && ws.all goodWord
theorem zChk_ok {ps : List Nat} {ws : List Cond} (h : zChk ps ws = true) : ∀ w ∈ ws, w ∈ zT := by
  unfold zChk at h
  rw [Bool.and_eq_true, decide_eq_true_eq] at h
  intro w hw
  have hg := List.all_eq_true.mp h.2 w hw
  rw [← h.1] at hw
  obtain ⟨i, -, hi⟩ := List.mem_filterMap.mp hw
  exact zT_of hi hg
theorem zLk_of {own : String} {idx : Nat} {Y : zX} {n : Nat} (ps : List Nat) (h : zChk ps [Cond.methodLink own idx Y.1, Cond.initialized Y.1.cls] = true) (hc : Cond.code Y.1 Y.2.1 Y.2.2.1 Y.2.2.2.1 ∈ zT) (hd : Y.1.cls ≠ "java/lang/invoke/MethodHandle" ∧ Y.1.cls ≠ "java/lang/invoke/VarHandle" ∧ (parseMethodDescriptor Y.1.desc).map (fun d => d.parameters.length) = some n) : zLk own idx Y n := ⟨zChk_ok h _ (.head _), zChk_ok h _ (.tail _ (.head _)), hc, hd⟩
set_option maxRecDepth 100000 in
theorem wcJ0_charAt_5068e : Cond.code xJ0_charAt_5068e.1 xJ0_charAt_5068e.2.1 xJ0_charAt_5068e.2.2.1 xJ0_charAt_5068e.2.2.2.1 ∈ zT := zT_of (i := 512) rfl rfl
theorem pdJ0_charAt_5068e : xJ0_charAt_5068e.1.cls ≠ "java/lang/invoke/MethodHandle" ∧ xJ0_charAt_5068e.1.cls ≠ "java/lang/invoke/VarHandle" ∧ (parseMethodDescriptor xJ0_charAt_5068e.1.desc).map (fun d => d.parameters.length) = some 1 := by decide +kernel
theorem ivJ0_charAt_5068e : Cond.instanceMethod xJ0_charAt_5068e.1 ∈ zT ∧ Cond.selects xJ0_charAt_5068e.1.cls xJ0_charAt_5068e.1 xJ0_charAt_5068e.1 ∈ zT := have h : zChk [510, 511] [Cond.instanceMethod xJ0_charAt_5068e.1, Cond.selects xJ0_charAt_5068e.1.cls xJ0_charAt_5068e.1 xJ0_charAt_5068e.1] = true := by decide +kernel
  ⟨zChk_ok h _ (.head _), zChk_ok h _ (.tail _ (.head _))⟩
theorem lkX3_118 : zLk RX3 118 xJ0_charAt_5068e 1 := zLk_of [509, 79] (by decide +kernel) wcJ0_charAt_5068e pdJ0_charAt_5068e
theorem lkX5_173 : zLk RX5 173 xJ0_charAt_5068e 1 := zLk_of [1310, 79] (by decide +kernel) wcJ0_charAt_5068e pdJ0_charAt_5068e
set_option maxRecDepth 100000 in
theorem wcJ0_checkIndex_df160 : Cond.code xJ0_checkIndex_df160.1 xJ0_checkIndex_df160.2.1 xJ0_checkIndex_df160.2.2.1 xJ0_checkIndex_df160.2.2.2.1 ∈ zT := zT_of (i := 522) rfl rfl
theorem pdJ0_checkIndex_df160 : xJ0_checkIndex_df160.1.cls ≠ "java/lang/invoke/MethodHandle" ∧ xJ0_checkIndex_df160.1.cls ≠ "java/lang/invoke/VarHandle" ∧ (parseMethodDescriptor xJ0_checkIndex_df160.1.desc).map (fun d => d.parameters.length) = some 2 := by decide +kernel
theorem isJ0_checkIndex_df160 : Cond.static xJ0_checkIndex_df160.1 ∈ zT := have h : zChk [521] [Cond.static xJ0_checkIndex_df160.1] = true := by decide +kernel
  zChk_ok h _ (.head _)
theorem lkJ1_9 : zLk RJ1 9 xJ0_checkIndex_df160 2 := zLk_of [520, 79] (by decide +kernel) wcJ0_checkIndex_df160 pdJ0_checkIndex_df160
set_option maxRecDepth 100000 in
theorem wcJ0_coder_7d493 : Cond.code xJ0_coder_7d493.1 xJ0_coder_7d493.2.1 xJ0_coder_7d493.2.2.1 xJ0_coder_7d493.2.2.2.1 ∈ zT := zT_of (i := 506) rfl rfl
theorem pdJ0_coder_7d493 : xJ0_coder_7d493.1.cls ≠ "java/lang/invoke/MethodHandle" ∧ xJ0_coder_7d493.1.cls ≠ "java/lang/invoke/VarHandle" ∧ (parseMethodDescriptor xJ0_coder_7d493.1.desc).map (fun d => d.parameters.length) = some 0 := by decide +kernel
theorem ivJ0_coder_7d493 : Cond.instanceMethod xJ0_coder_7d493.1 ∈ zT ∧ Cond.selects xJ0_coder_7d493.1.cls xJ0_coder_7d493.1 xJ0_coder_7d493.1 ∈ zT := have h : zChk [504, 505] [Cond.instanceMethod xJ0_coder_7d493.1, Cond.selects xJ0_coder_7d493.1.cls xJ0_coder_7d493.1 xJ0_coder_7d493.1] = true := by decide +kernel
  ⟨zChk_ok h _ (.head _), zChk_ok h _ (.tail _ (.head _))⟩
theorem lkJ0_335 : zLk RJ0 335 xJ0_coder_7d493 0 := zLk_of [503, 79] (by decide +kernel) wcJ0_coder_7d493 pdJ0_coder_7d493
set_option maxRecDepth 100000 in
theorem wcJ0_isLatin1_aae02 : Cond.code xJ0_isLatin1_aae02.1 xJ0_isLatin1_aae02.2.1 xJ0_isLatin1_aae02.2.2.1 xJ0_isLatin1_aae02.2.2.2.1 ∈ zT := zT_of (i := 516) rfl rfl
theorem pdJ0_isLatin1_aae02 : xJ0_isLatin1_aae02.1.cls ≠ "java/lang/invoke/MethodHandle" ∧ xJ0_isLatin1_aae02.1.cls ≠ "java/lang/invoke/VarHandle" ∧ (parseMethodDescriptor xJ0_isLatin1_aae02.1.desc).map (fun d => d.parameters.length) = some 0 := by decide +kernel
theorem ivJ0_isLatin1_aae02 : Cond.instanceMethod xJ0_isLatin1_aae02.1 ∈ zT ∧ Cond.selects xJ0_isLatin1_aae02.1.cls xJ0_isLatin1_aae02.1 xJ0_isLatin1_aae02.1 ∈ zT := have h : zChk [514, 515] [Cond.instanceMethod xJ0_isLatin1_aae02.1, Cond.selects xJ0_isLatin1_aae02.1.cls xJ0_isLatin1_aae02.1 xJ0_isLatin1_aae02.1] = true := by decide +kernel
  ⟨zChk_ok h _ (.head _), zChk_ok h _ (.tail _ (.head _))⟩
theorem lkJ0_492 : zLk RJ0 492 xJ0_isLatin1_aae02 0 := zLk_of [513, 79] (by decide +kernel) wcJ0_isLatin1_aae02 pdJ0_isLatin1_aae02
set_option maxRecDepth 100000 in
theorem wcJ0_length_8abf5 : Cond.code xJ0_length_8abf5.1 xJ0_length_8abf5.2.1 xJ0_length_8abf5.2.2.1 xJ0_length_8abf5.2.2.2.1 ∈ zT := zT_of (i := 502) rfl rfl
theorem pdJ0_length_8abf5 : xJ0_length_8abf5.1.cls ≠ "java/lang/invoke/MethodHandle" ∧ xJ0_length_8abf5.1.cls ≠ "java/lang/invoke/VarHandle" ∧ (parseMethodDescriptor xJ0_length_8abf5.1.desc).map (fun d => d.parameters.length) = some 0 := by decide +kernel
theorem ivJ0_length_8abf5 : Cond.instanceMethod xJ0_length_8abf5.1 ∈ zT ∧ Cond.selects xJ0_length_8abf5.1.cls xJ0_length_8abf5.1 xJ0_length_8abf5.1 ∈ zT := have h : zChk [500, 501] [Cond.instanceMethod xJ0_length_8abf5.1, Cond.selects xJ0_length_8abf5.1.cls xJ0_length_8abf5.1 xJ0_length_8abf5.1] = true := by decide +kernel
  ⟨zChk_ok h _ (.head _), zChk_ok h _ (.tail _ (.head _))⟩
theorem lkX3_112 : zLk RX3 112 xJ0_length_8abf5 0 := zLk_of [499, 79] (by decide +kernel) wcJ0_length_8abf5 pdJ0_length_8abf5
theorem lkX5_168 : zLk RX5 168 xJ0_length_8abf5 0 := zLk_of [1309, 79] (by decide +kernel) wcJ0_length_8abf5 pdJ0_length_8abf5
set_option maxRecDepth 100000 in
theorem wcJ1_charAt_3b067 : Cond.code xJ1_charAt_3b067.1 xJ1_charAt_3b067.2.1 xJ1_charAt_3b067.2.2.1 xJ1_charAt_3b067.2.2.2.1 ∈ zT := zT_of (i := 519) rfl rfl
theorem pdJ1_charAt_3b067 : xJ1_charAt_3b067.1.cls ≠ "java/lang/invoke/MethodHandle" ∧ xJ1_charAt_3b067.1.cls ≠ "java/lang/invoke/VarHandle" ∧ (parseMethodDescriptor xJ1_charAt_3b067.1.desc).map (fun d => d.parameters.length) = some 2 := by decide +kernel
theorem isJ1_charAt_3b067 : Cond.static xJ1_charAt_3b067.1 ∈ zT := have h : zChk [518] [Cond.static xJ1_charAt_3b067.1] = true := by decide +kernel
  zChk_ok h _ (.head _)
theorem lkJ0_495 : zLk RJ0 495 xJ1_charAt_3b067 2 := zLk_of [517, 80] (by decide +kernel) wcJ1_charAt_3b067 pdJ1_charAt_3b067
set_option maxRecDepth 100000 in
theorem wcJ3_checkIndex_8e157 : Cond.code xJ3_checkIndex_8e157.1 xJ3_checkIndex_8e157.2.1 xJ3_checkIndex_8e157.2.2.1 xJ3_checkIndex_8e157.2.2.2.1 ∈ zT := zT_of (i := 527) rfl rfl
theorem pdJ3_checkIndex_8e157 : xJ3_checkIndex_8e157.1.cls ≠ "java/lang/invoke/MethodHandle" ∧ xJ3_checkIndex_8e157.1.cls ≠ "java/lang/invoke/VarHandle" ∧ (parseMethodDescriptor xJ3_checkIndex_8e157.1.desc).map (fun d => d.parameters.length) = some 3 := by decide +kernel
theorem isJ3_checkIndex_8e157 : Cond.static xJ3_checkIndex_8e157.1 ∈ zT := have h : zChk [526] [Cond.static xJ3_checkIndex_8e157.1] = true := by decide +kernel
  zChk_ok h _ (.head _)
theorem lkJ0_1059 : zLk RJ0 1059 xJ3_checkIndex_8e157 3 := zLk_of [525, 81] (by decide +kernel) wcJ3_checkIndex_8e157 pdJ3_checkIndex_8e157
set_option maxRecDepth 100000 in
theorem wcJ6_bitCount_0f7a4 : Cond.code xJ6_bitCount_0f7a4.1 xJ6_bitCount_0f7a4.2.1 xJ6_bitCount_0f7a4.2.2.1 xJ6_bitCount_0f7a4.2.2.2.1 ∈ zT := zT_of (i := 835) rfl rfl
theorem pdJ6_bitCount_0f7a4 : xJ6_bitCount_0f7a4.1.cls ≠ "java/lang/invoke/MethodHandle" ∧ xJ6_bitCount_0f7a4.1.cls ≠ "java/lang/invoke/VarHandle" ∧ (parseMethodDescriptor xJ6_bitCount_0f7a4.1.desc).map (fun d => d.parameters.length) = some 1 := by decide +kernel
theorem isJ6_bitCount_0f7a4 : Cond.static xJ6_bitCount_0f7a4.1 ∈ zT := have h : zChk [834] [Cond.static xJ6_bitCount_0f7a4.1] = true := by decide +kernel
  zChk_ok h _ (.head _)
theorem lkX4_304 : zLk RX4 304 xJ6_bitCount_0f7a4 1 := zLk_of [843, 83] (by decide +kernel) wcJ6_bitCount_0f7a4 pdJ6_bitCount_0f7a4
theorem lkX0_112 : zLk RX0 112 xJ6_bitCount_0f7a4 1 := zLk_of [833, 83] (by decide +kernel) wcJ6_bitCount_0f7a4 pdJ6_bitCount_0f7a4
theorem lkX1_105 : zLk RX1 105 xJ6_bitCount_0f7a4 1 := zLk_of [920, 83] (by decide +kernel) wcJ6_bitCount_0f7a4 pdJ6_bitCount_0f7a4
set_option maxRecDepth 100000 in
theorem wcJ9_abs_0f7a4 : Cond.code xJ9_abs_0f7a4.1 xJ9_abs_0f7a4.2.1 xJ9_abs_0f7a4.2.2.1 xJ9_abs_0f7a4.2.2.2.1 ∈ zT := zT_of (i := 391) rfl rfl
theorem pdJ9_abs_0f7a4 : xJ9_abs_0f7a4.1.cls ≠ "java/lang/invoke/MethodHandle" ∧ xJ9_abs_0f7a4.1.cls ≠ "java/lang/invoke/VarHandle" ∧ (parseMethodDescriptor xJ9_abs_0f7a4.1.desc).map (fun d => d.parameters.length) = some 1 := by decide +kernel
theorem isJ9_abs_0f7a4 : Cond.static xJ9_abs_0f7a4.1 ∈ zT := have h : zChk [390] [Cond.static xJ9_abs_0f7a4.1] = true := by decide +kernel
  zChk_ok h _ (.head _)
theorem lkX1_91 : zLk RX1 91 xJ9_abs_0f7a4 1 := zLk_of [389, 78] (by decide +kernel) wcJ9_abs_0f7a4 pdJ9_abs_0f7a4
set_option maxRecDepth 100000 in
theorem wcJ9_max_7cf53 : Cond.code xJ9_max_7cf53.1 xJ9_max_7cf53.2.1 xJ9_max_7cf53.2.2.1 xJ9_max_7cf53.2.2.2.1 ∈ zT := zT_of (i := 768) rfl rfl
theorem pdJ9_max_7cf53 : xJ9_max_7cf53.1.cls ≠ "java/lang/invoke/MethodHandle" ∧ xJ9_max_7cf53.1.cls ≠ "java/lang/invoke/VarHandle" ∧ (parseMethodDescriptor xJ9_max_7cf53.1.desc).map (fun d => d.parameters.length) = some 2 := by decide +kernel
theorem isJ9_max_7cf53 : Cond.static xJ9_max_7cf53.1 ∈ zT := have h : zChk [767] [Cond.static xJ9_max_7cf53.1] = true := by decide +kernel
  zChk_ok h _ (.head _)
theorem lkX4_324 : zLk RX4 324 xJ9_max_7cf53 2 := zLk_of [890, 78] (by decide +kernel) wcJ9_max_7cf53 pdJ9_max_7cf53
theorem lkX0_86 : zLk RX0 86 xJ9_max_7cf53 2 := zLk_of [766, 78] (by decide +kernel) wcJ9_max_7cf53 pdJ9_max_7cf53
set_option maxRecDepth 100000 in
theorem wcX0_addressFor : Cond.code xX0_addressFor.1 xX0_addressFor.2.1 xX0_addressFor.2.2.1 xX0_addressFor.2.2.2.1 ∈ zT := zT_of (i := 676) rfl rfl
theorem pdX0_addressFor : xX0_addressFor.1.cls ≠ "java/lang/invoke/MethodHandle" ∧ xX0_addressFor.1.cls ≠ "java/lang/invoke/VarHandle" ∧ (parseMethodDescriptor xX0_addressFor.1.desc).map (fun d => d.parameters.length) = some 3 := by decide +kernel
theorem ivX0_addressFor : Cond.instanceMethod xX0_addressFor.1 ∈ zT ∧ Cond.selects xX0_addressFor.1.cls xX0_addressFor.1 xX0_addressFor.1 ∈ zT := have h : zChk [674, 675] [Cond.instanceMethod xX0_addressFor.1, Cond.selects xX0_addressFor.1.cls xX0_addressFor.1 xX0_addressFor.1] = true := by decide +kernel
  ⟨zChk_ok h _ (.head _), zChk_ok h _ (.tail _ (.head _))⟩
theorem lkX4_232 : zLk RX4 232 xX0_addressFor 3 := zLk_of [673, 73] (by decide +kernel) wcX0_addressFor pdX0_addressFor
set_option maxRecDepth 100000 in
theorem wcX0_allKnowersIfDrink : Cond.code xX0_allKnowersIfDrink.1 xX0_allKnowersIfDrink.2.1 xX0_allKnowersIfDrink.2.2.1 xX0_allKnowersIfDrink.2.2.2.1 ∈ zT := zT_of (i := 924) rfl rfl
theorem pdX0_allKnowersIfDrink : xX0_allKnowersIfDrink.1.cls ≠ "java/lang/invoke/MethodHandle" ∧ xX0_allKnowersIfDrink.1.cls ≠ "java/lang/invoke/VarHandle" ∧ (parseMethodDescriptor xX0_allKnowersIfDrink.1.desc).map (fun d => d.parameters.length) = some 3 := by decide +kernel
theorem ivX0_allKnowersIfDrink : Cond.instanceMethod xX0_allKnowersIfDrink.1 ∈ zT ∧ Cond.selects xX0_allKnowersIfDrink.1.cls xX0_allKnowersIfDrink.1 xX0_allKnowersIfDrink.1 ∈ zT := have h : zChk [922, 923] [Cond.instanceMethod xX0_allKnowersIfDrink.1, Cond.selects xX0_allKnowersIfDrink.1.cls xX0_allKnowersIfDrink.1 xX0_allKnowersIfDrink.1] = true := by decide +kernel
  ⟨zChk_ok h _ (.head _), zChk_ok h _ (.tail _ (.head _))⟩
theorem lkX4_338 : zLk RX4 338 xX0_allKnowersIfDrink 3 := zLk_of [921, 73] (by decide +kernel) wcX0_allKnowersIfDrink pdX0_allKnowersIfDrink
set_option maxRecDepth 100000 in
theorem wcX0_answerTo : Cond.code xX0_answerTo.1 xX0_answerTo.2.1 xX0_answerTo.2.2.1 xX0_answerTo.2.2.2.1 ∈ zT := zT_of (i := 800) rfl rfl
theorem pdX0_answerTo : xX0_answerTo.1.cls ≠ "java/lang/invoke/MethodHandle" ∧ xX0_answerTo.1.cls ≠ "java/lang/invoke/VarHandle" ∧ (parseMethodDescriptor xX0_answerTo.1.desc).map (fun d => d.parameters.length) = some 6 := by decide +kernel
theorem ivX0_answerTo : Cond.instanceMethod xX0_answerTo.1 ∈ zT ∧ Cond.selects xX0_answerTo.1.cls xX0_answerTo.1 xX0_answerTo.1 ∈ zT := have h : zChk [798, 799] [Cond.instanceMethod xX0_answerTo.1, Cond.selects xX0_answerTo.1.cls xX0_answerTo.1 xX0_answerTo.1] = true := by decide +kernel
  ⟨zChk_ok h _ (.head _), zChk_ok h _ (.tail _ (.head _))⟩
theorem lkX4_290 : zLk RX4 290 xX0_answerTo 6 := zLk_of [806, 73] (by decide +kernel) wcX0_answerTo pdX0_answerTo
theorem lkX0_101 : zLk RX0 101 xX0_answerTo 6 := zLk_of [797, 73] (by decide +kernel) wcX0_answerTo pdX0_answerTo
set_option maxRecDepth 100000 in
theorem wcX0_bestDrink : Cond.code xX0_bestDrink.1 xX0_bestDrink.2.1 xX0_bestDrink.2.2.1 xX0_bestDrink.2.2.2.1 ∈ zT := zT_of (i := 792) rfl rfl
theorem pdX0_bestDrink : xX0_bestDrink.1.cls ≠ "java/lang/invoke/MethodHandle" ∧ xX0_bestDrink.1.cls ≠ "java/lang/invoke/VarHandle" ∧ (parseMethodDescriptor xX0_bestDrink.1.desc).map (fun d => d.parameters.length) = some 5 := by decide +kernel
theorem ivX0_bestDrink : Cond.instanceMethod xX0_bestDrink.1 ∈ zT ∧ Cond.selects xX0_bestDrink.1.cls xX0_bestDrink.1 xX0_bestDrink.1 ∈ zT := have h : zChk [790, 791] [Cond.instanceMethod xX0_bestDrink.1, Cond.selects xX0_bestDrink.1.cls xX0_bestDrink.1 xX0_bestDrink.1] = true := by decide +kernel
  ⟨zChk_ok h _ (.head _), zChk_ok h _ (.tail _ (.head _))⟩
theorem lkX4_282 : zLk RX4 282 xX0_bestDrink 5 := zLk_of [789, 73] (by decide +kernel) wcX0_bestDrink pdX0_bestDrink
set_option maxRecDepth 100000 in
theorem wcX0_bestParting : Cond.code xX0_bestParting.1 xX0_bestParting.2.1 xX0_bestParting.2.2.1 xX0_bestParting.2.2.2.1 ∈ zT := zT_of (i := 761) rfl rfl
theorem pdX0_bestParting : xX0_bestParting.1.cls ≠ "java/lang/invoke/MethodHandle" ∧ xX0_bestParting.1.cls ≠ "java/lang/invoke/VarHandle" ∧ (parseMethodDescriptor xX0_bestParting.1.desc).map (fun d => d.parameters.length) = some 1 := by decide +kernel
theorem ivX0_bestParting : Cond.instanceMethod xX0_bestParting.1 ∈ zT ∧ Cond.selects xX0_bestParting.1.cls xX0_bestParting.1 xX0_bestParting.1 ∈ zT := have h : zChk [759, 760] [Cond.instanceMethod xX0_bestParting.1, Cond.selects xX0_bestParting.1.cls xX0_bestParting.1 xX0_bestParting.1] = true := by decide +kernel
  ⟨zChk_ok h _ (.head _), zChk_ok h _ (.tail _ (.head _))⟩
theorem lkX4_269 : zLk RX4 269 xX0_bestParting 1 := zLk_of [758, 73] (by decide +kernel) wcX0_bestParting pdX0_bestParting
set_option maxRecDepth 100000 in
theorem wcX0_fitsHeard : Cond.code xX0_fitsHeard.1 xX0_fitsHeard.2.1 xX0_fitsHeard.2.2.1 xX0_fitsHeard.2.2.2.1 ∈ zT := zT_of (i := 731) rfl rfl
theorem pdX0_fitsHeard : xX0_fitsHeard.1.cls ≠ "java/lang/invoke/MethodHandle" ∧ xX0_fitsHeard.1.cls ≠ "java/lang/invoke/VarHandle" ∧ (parseMethodDescriptor xX0_fitsHeard.1.desc).map (fun d => d.parameters.length) = some 3 := by decide +kernel
theorem ivX0_fitsHeard : Cond.instanceMethod xX0_fitsHeard.1 ∈ zT ∧ Cond.selects xX0_fitsHeard.1.cls xX0_fitsHeard.1 xX0_fitsHeard.1 ∈ zT := have h : zChk [730, 22] [Cond.instanceMethod xX0_fitsHeard.1, Cond.selects xX0_fitsHeard.1.cls xX0_fitsHeard.1 xX0_fitsHeard.1] = true := by decide +kernel
  ⟨zChk_ok h _ (.head _), zChk_ok h _ (.tail _ (.head _))⟩
theorem lkX0_75 : zLk RX0 75 xX0_fitsHeard 3 := zLk_of [728, 73] (by decide +kernel) wcX0_fitsHeard pdX0_fitsHeard
set_option maxRecDepth 100000 in
theorem wcX0_fitsHouse : Cond.code xX0_fitsHouse.1 xX0_fitsHouse.2.1 xX0_fitsHouse.2.2.1 xX0_fitsHouse.2.2.2.1 ∈ zT := zT_of (i := 780) rfl rfl
theorem pdX0_fitsHouse : xX0_fitsHouse.1.cls ≠ "java/lang/invoke/MethodHandle" ∧ xX0_fitsHouse.1.cls ≠ "java/lang/invoke/VarHandle" ∧ (parseMethodDescriptor xX0_fitsHouse.1.desc).map (fun d => d.parameters.length) = some 3 := by decide +kernel
theorem ivX0_fitsHouse : Cond.instanceMethod xX0_fitsHouse.1 ∈ zT ∧ Cond.selects xX0_fitsHouse.1.cls xX0_fitsHouse.1 xX0_fitsHouse.1 ∈ zT := have h : zChk [779, 24] [Cond.instanceMethod xX0_fitsHouse.1, Cond.selects xX0_fitsHouse.1.cls xX0_fitsHouse.1 xX0_fitsHouse.1] = true := by decide +kernel
  ⟨zChk_ok h _ (.head _), zChk_ok h _ (.tail _ (.head _))⟩
theorem lkX0_94 : zLk RX0 94 xX0_fitsHouse 3 := zLk_of [777, 73] (by decide +kernel) wcX0_fitsHouse pdX0_fitsHouse
set_option maxRecDepth 100000 in
theorem wcX0_fittingKinds : Cond.code xX0_fittingKinds.1 xX0_fittingKinds.2.1 xX0_fittingKinds.2.2.1 xX0_fittingKinds.2.2.2.1 ∈ zT := zT_of (i := 749) rfl rfl
theorem pdX0_fittingKinds : xX0_fittingKinds.1.cls ≠ "java/lang/invoke/MethodHandle" ∧ xX0_fittingKinds.1.cls ≠ "java/lang/invoke/VarHandle" ∧ (parseMethodDescriptor xX0_fittingKinds.1.desc).map (fun d => d.parameters.length) = some 4 := by decide +kernel
theorem ivX0_fittingKinds : Cond.instanceMethod xX0_fittingKinds.1 ∈ zT ∧ Cond.selects xX0_fittingKinds.1.cls xX0_fittingKinds.1 xX0_fittingKinds.1 ∈ zT := have h : zChk [747, 748] [Cond.instanceMethod xX0_fittingKinds.1, Cond.selects xX0_fittingKinds.1.cls xX0_fittingKinds.1 xX0_fittingKinds.1] = true := by decide +kernel
  ⟨zChk_ok h _ (.head _), zChk_ok h _ (.tail _ (.head _))⟩
theorem lkX4_263 : zLk RX4 263 xX0_fittingKinds 4 := zLk_of [746, 73] (by decide +kernel) wcX0_fittingKinds pdX0_fittingKinds
set_option maxRecDepth 100000 in
theorem wcX0_fittingTos : Cond.code xX0_fittingTos.1 xX0_fittingTos.2.1 xX0_fittingTos.2.2.1 xX0_fittingTos.2.2.2.1 ∈ zT := zT_of (i := 753) rfl rfl
theorem pdX0_fittingTos : xX0_fittingTos.1.cls ≠ "java/lang/invoke/MethodHandle" ∧ xX0_fittingTos.1.cls ≠ "java/lang/invoke/VarHandle" ∧ (parseMethodDescriptor xX0_fittingTos.1.desc).map (fun d => d.parameters.length) = some 4 := by decide +kernel
theorem ivX0_fittingTos : Cond.instanceMethod xX0_fittingTos.1 ∈ zT ∧ Cond.selects xX0_fittingTos.1.cls xX0_fittingTos.1 xX0_fittingTos.1 ∈ zT := have h : zChk [751, 752] [Cond.instanceMethod xX0_fittingTos.1, Cond.selects xX0_fittingTos.1.cls xX0_fittingTos.1 xX0_fittingTos.1] = true := by decide +kernel
  ⟨zChk_ok h _ (.head _), zChk_ok h _ (.tail _ (.head _))⟩
theorem lkX4_266 : zLk RX4 266 xX0_fittingTos 4 := zLk_of [750, 73] (by decide +kernel) wcX0_fittingTos pdX0_fittingTos
set_option maxRecDepth 100000 in
theorem wcX0_fittingWinds : Cond.code xX0_fittingWinds.1 xX0_fittingWinds.2.1 xX0_fittingWinds.2.2.1 xX0_fittingWinds.2.2.2.1 ∈ zT := zT_of (i := 776) rfl rfl
theorem pdX0_fittingWinds : xX0_fittingWinds.1.cls ≠ "java/lang/invoke/MethodHandle" ∧ xX0_fittingWinds.1.cls ≠ "java/lang/invoke/VarHandle" ∧ (parseMethodDescriptor xX0_fittingWinds.1.desc).map (fun d => d.parameters.length) = some 4 := by decide +kernel
theorem ivX0_fittingWinds : Cond.instanceMethod xX0_fittingWinds.1 ∈ zT ∧ Cond.selects xX0_fittingWinds.1.cls xX0_fittingWinds.1 xX0_fittingWinds.1 ∈ zT := have h : zChk [774, 775] [Cond.instanceMethod xX0_fittingWinds.1, Cond.selects xX0_fittingWinds.1.cls xX0_fittingWinds.1 xX0_fittingWinds.1] = true := by decide +kernel
  ⟨zChk_ok h _ (.head _), zChk_ok h _ (.tail _ (.head _))⟩
theorem lkX4_275 : zLk RX4 275 xX0_fittingWinds 4 := zLk_of [773, 73] (by decide +kernel) wcX0_fittingWinds pdX0_fittingWinds
set_option maxRecDepth 100000 in
theorem wcX0_freshFrom : Cond.code xX0_freshFrom.1 xX0_freshFrom.2.1 xX0_freshFrom.2.2.1 xX0_freshFrom.2.2.2.1 ∈ zT := zT_of (i := 468) rfl rfl
theorem pdX0_freshFrom : xX0_freshFrom.1.cls ≠ "java/lang/invoke/MethodHandle" ∧ xX0_freshFrom.1.cls ≠ "java/lang/invoke/VarHandle" ∧ (parseMethodDescriptor xX0_freshFrom.1.desc).map (fun d => d.parameters.length) = some 1 := by decide +kernel
theorem ivX0_freshFrom : Cond.instanceMethod xX0_freshFrom.1 ∈ zT ∧ Cond.selects xX0_freshFrom.1.cls xX0_freshFrom.1 xX0_freshFrom.1 ∈ zT := have h : zChk [466, 467] [Cond.instanceMethod xX0_freshFrom.1, Cond.selects xX0_freshFrom.1.cls xX0_freshFrom.1 xX0_freshFrom.1] = true := by decide +kernel
  ⟨zChk_ok h _ (.head _), zChk_ok h _ (.tail _ (.head _))⟩
theorem lkX4_177 : zLk RX4 177 xX0_freshFrom 1 := zLk_of [465, 73] (by decide +kernel) wcX0_freshFrom pdX0_freshFrom
theorem lkX0_30 : zLk RX0 30 xX0_freshFrom 1 := zLk_of [677, 73] (by decide +kernel) wcX0_freshFrom pdX0_freshFrom
set_option maxRecDepth 100000 in
theorem wcX0_greatestMarked : Cond.code xX0_greatestMarked.1 xX0_greatestMarked.2.1 xX0_greatestMarked.2.2.1 xX0_greatestMarked.2.2.2.1 ∈ zT := zT_of (i := 741) rfl rfl
theorem pdX0_greatestMarked : xX0_greatestMarked.1.cls ≠ "java/lang/invoke/MethodHandle" ∧ xX0_greatestMarked.1.cls ≠ "java/lang/invoke/VarHandle" ∧ (parseMethodDescriptor xX0_greatestMarked.1.desc).map (fun d => d.parameters.length) = some 0 := by decide +kernel
theorem ivX0_greatestMarked : Cond.instanceMethod xX0_greatestMarked.1 ∈ zT ∧ Cond.selects xX0_greatestMarked.1.cls xX0_greatestMarked.1 xX0_greatestMarked.1 ∈ zT := have h : zChk [739, 740] [Cond.instanceMethod xX0_greatestMarked.1, Cond.selects xX0_greatestMarked.1.cls xX0_greatestMarked.1 xX0_greatestMarked.1] = true := by decide +kernel
  ⟨zChk_ok h _ (.head _), zChk_ok h _ (.tail _ (.head _))⟩
theorem lkX4_260 : zLk RX4 260 xX0_greatestMarked 0 := zLk_of [738, 73] (by decide +kernel) wcX0_greatestMarked pdX0_greatestMarked
set_option maxRecDepth 100000 in
theorem wcX0_heardOfPoured : Cond.code xX0_heardOfPoured.1 xX0_heardOfPoured.2.1 xX0_heardOfPoured.2.2.1 xX0_heardOfPoured.2.2.2.1 ∈ zT := zT_of (i := 796) rfl rfl
theorem pdX0_heardOfPoured : xX0_heardOfPoured.1.cls ≠ "java/lang/invoke/MethodHandle" ∧ xX0_heardOfPoured.1.cls ≠ "java/lang/invoke/VarHandle" ∧ (parseMethodDescriptor xX0_heardOfPoured.1.desc).map (fun d => d.parameters.length) = some 6 := by decide +kernel
theorem ivX0_heardOfPoured : Cond.instanceMethod xX0_heardOfPoured.1 ∈ zT ∧ Cond.selects xX0_heardOfPoured.1.cls xX0_heardOfPoured.1 xX0_heardOfPoured.1 ∈ zT := have h : zChk [794, 795] [Cond.instanceMethod xX0_heardOfPoured.1, Cond.selects xX0_heardOfPoured.1.cls xX0_heardOfPoured.1 xX0_heardOfPoured.1] = true := by decide +kernel
  ⟨zChk_ok h _ (.head _), zChk_ok h _ (.tail _ (.head _))⟩
theorem lkX4_286 : zLk RX4 286 xX0_heardOfPoured 6 := zLk_of [801, 73] (by decide +kernel) wcX0_heardOfPoured pdX0_heardOfPoured
theorem lkX0_97 : zLk RX0 97 xX0_heardOfPoured 6 := zLk_of [793, 73] (by decide +kernel) wcX0_heardOfPoured pdX0_heardOfPoured
set_option maxRecDepth 100000 in
theorem wcX0_hushHouse : Cond.code xX0_hushHouse.1 xX0_hushHouse.2.1 xX0_hushHouse.2.2.1 xX0_hushHouse.2.2.2.1 ∈ zT := zT_of (i := 694) rfl rfl
theorem pdX0_hushHouse : xX0_hushHouse.1.cls ≠ "java/lang/invoke/MethodHandle" ∧ xX0_hushHouse.1.cls ≠ "java/lang/invoke/VarHandle" ∧ (parseMethodDescriptor xX0_hushHouse.1.desc).map (fun d => d.parameters.length) = some 4 := by decide +kernel
theorem ivX0_hushHouse : Cond.instanceMethod xX0_hushHouse.1 ∈ zT ∧ Cond.selects xX0_hushHouse.1.cls xX0_hushHouse.1 xX0_hushHouse.1 ∈ zT := have h : zChk [692, 693] [Cond.instanceMethod xX0_hushHouse.1, Cond.selects xX0_hushHouse.1.cls xX0_hushHouse.1 xX0_hushHouse.1] = true := by decide +kernel
  ⟨zChk_ok h _ (.head _), zChk_ok h _ (.tail _ (.head _))⟩
theorem lkX4_239 : zLk RX4 239 xX0_hushHouse 4 := zLk_of [695, 73] (by decide +kernel) wcX0_hushHouse pdX0_hushHouse
theorem lkX0_49 : zLk RX0 49 xX0_hushHouse 4 := zLk_of [691, 73] (by decide +kernel) wcX0_hushHouse pdX0_hushHouse
set_option maxRecDepth 100000 in
theorem wcX0_init : Cond.code xX0_init.1 xX0_init.2.1 xX0_init.2.2.1 xX0_init.2.2.2.1 ∈ zT := zT_of (i := 174) rfl rfl
theorem pdX0_init : xX0_init.1.cls ≠ "java/lang/invoke/MethodHandle" ∧ xX0_init.1.cls ≠ "java/lang/invoke/VarHandle" ∧ (parseMethodDescriptor xX0_init.1.desc).map (fun d => d.parameters.length) = some 0 := by decide +kernel
theorem iiX0_init : Cond.instanceMethod xX0_init.1 ∈ zT ∧ xX0_init.1.name = "<init>" ∧ xX0_init.2.2.2.1 = none := have h : zChk [173] [Cond.instanceMethod xX0_init.1] = true := by decide +kernel
  ⟨zChk_ok h _ (.head _), rfl, rfl⟩
theorem lkX4_21 : zLn RX4 21 xX0_init 0 := ⟨⟨"ReadOutAlongTheWay", by decide +kernel⟩, zChk_ok (ps := [73]) (ws := [Cond.initialized xX0_init.1.cls]) (by decide +kernel) _ (.head _), wcX0_init, pdX0_init⟩
set_option maxRecDepth 100000 in
theorem wcX0_isHushed : Cond.code xX0_isHushed.1 xX0_isHushed.2.1 xX0_isHushed.2.2.1 xX0_isHushed.2.2.2.1 ∈ zT := zT_of (i := 690) rfl rfl
theorem pdX0_isHushed : xX0_isHushed.1.cls ≠ "java/lang/invoke/MethodHandle" ∧ xX0_isHushed.1.cls ≠ "java/lang/invoke/VarHandle" ∧ (parseMethodDescriptor xX0_isHushed.1.desc).map (fun d => d.parameters.length) = some 2 := by decide +kernel
theorem ivX0_isHushed : Cond.instanceMethod xX0_isHushed.1 ∈ zT ∧ Cond.selects xX0_isHushed.1.cls xX0_isHushed.1 xX0_isHushed.1 ∈ zT := have h : zChk [689, 20] [Cond.instanceMethod xX0_isHushed.1, Cond.selects xX0_isHushed.1.cls xX0_isHushed.1 xX0_isHushed.1] = true := by decide +kernel
  ⟨zChk_ok h _ (.head _), zChk_ok h _ (.tail _ (.head _))⟩
theorem lkX0_45 : zLk RX0 45 xX0_isHushed 2 := zLk_of [687, 73] (by decide +kernel) wcX0_isHushed pdX0_isHushed
set_option maxRecDepth 100000 in
theorem wcX0_isKnownIfTaught : Cond.code xX0_isKnownIfTaught.1 xX0_isKnownIfTaught.2.1 xX0_isKnownIfTaught.2.2.1 xX0_isKnownIfTaught.2.2.2.1 ∈ zT := zT_of (i := 933) rfl rfl
theorem pdX0_isKnownIfTaught : xX0_isKnownIfTaught.1.cls ≠ "java/lang/invoke/MethodHandle" ∧ xX0_isKnownIfTaught.1.cls ≠ "java/lang/invoke/VarHandle" ∧ (parseMethodDescriptor xX0_isKnownIfTaught.1.desc).map (fun d => d.parameters.length) = some 3 := by decide +kernel
theorem ivX0_isKnownIfTaught : Cond.instanceMethod xX0_isKnownIfTaught.1 ∈ zT ∧ Cond.selects xX0_isKnownIfTaught.1.cls xX0_isKnownIfTaught.1 xX0_isKnownIfTaught.1 ∈ zT := have h : zChk [931, 932] [Cond.instanceMethod xX0_isKnownIfTaught.1, Cond.selects xX0_isKnownIfTaught.1.cls xX0_isKnownIfTaught.1 xX0_isKnownIfTaught.1] = true := by decide +kernel
  ⟨zChk_ok h _ (.head _), zChk_ok h _ (.tail _ (.head _))⟩
theorem lkX4_341 : zLk RX4 341 xX0_isKnownIfTaught 3 := zLk_of [930, 73] (by decide +kernel) wcX0_isKnownIfTaught pdX0_isKnownIfTaught
set_option maxRecDepth 100000 in
theorem wcX0_knowersIfTo : Cond.code xX0_knowersIfTo.1 xX0_knowersIfTo.2.1 xX0_knowersIfTo.2.2.1 xX0_knowersIfTo.2.2.2.1 ∈ zT := zT_of (i := 863) rfl rfl
theorem pdX0_knowersIfTo : xX0_knowersIfTo.1.cls ≠ "java/lang/invoke/MethodHandle" ∧ xX0_knowersIfTo.1.cls ≠ "java/lang/invoke/VarHandle" ∧ (parseMethodDescriptor xX0_knowersIfTo.1.desc).map (fun d => d.parameters.length) = some 3 := by decide +kernel
theorem ivX0_knowersIfTo : Cond.instanceMethod xX0_knowersIfTo.1 ∈ zT ∧ Cond.selects xX0_knowersIfTo.1.cls xX0_knowersIfTo.1 xX0_knowersIfTo.1 ∈ zT := have h : zChk [861, 862] [Cond.instanceMethod xX0_knowersIfTo.1, Cond.selects xX0_knowersIfTo.1.cls xX0_knowersIfTo.1 xX0_knowersIfTo.1] = true := by decide +kernel
  ⟨zChk_ok h _ (.head _), zChk_ok h _ (.tail _ (.head _))⟩
theorem lkX4_315 : zLk RX4 315 xX0_knowersIfTo 3 := zLk_of [864, 73] (by decide +kernel) wcX0_knowersIfTo pdX0_knowersIfTo
theorem lkX0_120 : zLk RX0 120 xX0_knowersIfTo 3 := zLk_of [860, 73] (by decide +kernel) wcX0_knowersIfTo pdX0_knowersIfTo
set_option maxRecDepth 100000 in
theorem wcX0_knowersSober : Cond.code xX0_knowersSober.1 xX0_knowersSober.2.1 xX0_knowersSober.2.2.1 xX0_knowersSober.2.2.2.1 ∈ zT := zT_of (i := 911) rfl rfl
theorem pdX0_knowersSober : xX0_knowersSober.1.cls ≠ "java/lang/invoke/MethodHandle" ∧ xX0_knowersSober.1.cls ≠ "java/lang/invoke/VarHandle" ∧ (parseMethodDescriptor xX0_knowersSober.1.desc).map (fun d => d.parameters.length) = some 2 := by decide +kernel
theorem ivX0_knowersSober : Cond.instanceMethod xX0_knowersSober.1 ∈ zT ∧ Cond.selects xX0_knowersSober.1.cls xX0_knowersSober.1 xX0_knowersSober.1 ∈ zT := have h : zChk [909, 910] [Cond.instanceMethod xX0_knowersSober.1, Cond.selects xX0_knowersSober.1.cls xX0_knowersSober.1 xX0_knowersSober.1] = true := by decide +kernel
  ⟨zChk_ok h _ (.head _), zChk_ok h _ (.tail _ (.head _))⟩
theorem lkX4_332 : zLk RX4 332 xX0_knowersSober 2 := zLk_of [908, 73] (by decide +kernel) wcX0_knowersSober pdX0_knowersSober
set_option maxRecDepth 100000 in
theorem wcX0_knowersTurned : Cond.code xX0_knowersTurned.1 xX0_knowersTurned.2.1 xX0_knowersTurned.2.2.1 xX0_knowersTurned.2.2.2.1 ∈ zT := zT_of (i := 832) rfl rfl
theorem pdX0_knowersTurned : xX0_knowersTurned.1.cls ≠ "java/lang/invoke/MethodHandle" ∧ xX0_knowersTurned.1.cls ≠ "java/lang/invoke/VarHandle" ∧ (parseMethodDescriptor xX0_knowersTurned.1.desc).map (fun d => d.parameters.length) = some 2 := by decide +kernel
theorem ivX0_knowersTurned : Cond.instanceMethod xX0_knowersTurned.1 ∈ zT ∧ Cond.selects xX0_knowersTurned.1.cls xX0_knowersTurned.1 xX0_knowersTurned.1 ∈ zT := have h : zChk [830, 831] [Cond.instanceMethod xX0_knowersTurned.1, Cond.selects xX0_knowersTurned.1.cls xX0_knowersTurned.1 xX0_knowersTurned.1] = true := by decide +kernel
  ⟨zChk_ok h _ (.head _), zChk_ok h _ (.tail _ (.head _))⟩
theorem lkX4_301 : zLk RX4 301 xX0_knowersTurned 2 := zLk_of [829, 73] (by decide +kernel) wcX0_knowersTurned pdX0_knowersTurned
set_option maxRecDepth 100000 in
theorem wcX0_leastCold : Cond.code xX0_leastCold.1 xX0_leastCold.2.1 xX0_leastCold.2.2.1 xX0_leastCold.2.2.2.1 ∈ zT := zT_of (i := 851) rfl rfl
theorem pdX0_leastCold : xX0_leastCold.1.cls ≠ "java/lang/invoke/MethodHandle" ∧ xX0_leastCold.1.cls ≠ "java/lang/invoke/VarHandle" ∧ (parseMethodDescriptor xX0_leastCold.1.desc).map (fun d => d.parameters.length) = some 3 := by decide +kernel
theorem ivX0_leastCold : Cond.instanceMethod xX0_leastCold.1 ∈ zT ∧ Cond.selects xX0_leastCold.1.cls xX0_leastCold.1 xX0_leastCold.1 ∈ zT := have h : zChk [849, 850] [Cond.instanceMethod xX0_leastCold.1, Cond.selects xX0_leastCold.1.cls xX0_leastCold.1 xX0_leastCold.1] = true := by decide +kernel
  ⟨zChk_ok h _ (.head _), zChk_ok h _ (.tail _ (.head _))⟩
theorem lkX4_309 : zLk RX4 309 xX0_leastCold 3 := zLk_of [848, 73] (by decide +kernel) wcX0_leastCold pdX0_leastCold
set_option maxRecDepth 100000 in
theorem wcX0_leastHush : Cond.code xX0_leastHush.1 xX0_leastHush.2.1 xX0_leastHush.2.2.1 xX0_leastHush.2.2.2.1 ∈ zT := zT_of (i := 686) rfl rfl
theorem pdX0_leastHush : xX0_leastHush.1.cls ≠ "java/lang/invoke/MethodHandle" ∧ xX0_leastHush.1.cls ≠ "java/lang/invoke/VarHandle" ∧ (parseMethodDescriptor xX0_leastHush.1.desc).map (fun d => d.parameters.length) = some 3 := by decide +kernel
theorem ivX0_leastHush : Cond.instanceMethod xX0_leastHush.1 ∈ zT ∧ Cond.selects xX0_leastHush.1.cls xX0_leastHush.1 xX0_leastHush.1 ∈ zT := have h : zChk [684, 685] [Cond.instanceMethod xX0_leastHush.1, Cond.selects xX0_leastHush.1.cls xX0_leastHush.1 xX0_leastHush.1] = true := by decide +kernel
  ⟨zChk_ok h _ (.head _), zChk_ok h _ (.tail _ (.head _))⟩
theorem lkX4_236 : zLk RX4 236 xX0_leastHush 3 := zLk_of [683, 73] (by decide +kernel) wcX0_leastHush pdX0_leastHush
set_option maxRecDepth 100000 in
theorem wcX0_leastLength : Cond.code xX0_leastLength.1 xX0_leastLength.2.1 xX0_leastLength.2.2.1 xX0_leastLength.2.2.2.1 ∈ zT := zT_of (i := 711) rfl rfl
theorem pdX0_leastLength : xX0_leastLength.1.cls ≠ "java/lang/invoke/MethodHandle" ∧ xX0_leastLength.1.cls ≠ "java/lang/invoke/VarHandle" ∧ (parseMethodDescriptor xX0_leastLength.1.desc).map (fun d => d.parameters.length) = some 3 := by decide +kernel
theorem ivX0_leastLength : Cond.instanceMethod xX0_leastLength.1 ∈ zT ∧ Cond.selects xX0_leastLength.1.cls xX0_leastLength.1 xX0_leastLength.1 ∈ zT := have h : zChk [709, 710] [Cond.instanceMethod xX0_leastLength.1, Cond.selects xX0_leastLength.1.cls xX0_leastLength.1 xX0_leastLength.1] = true := by decide +kernel
  ⟨zChk_ok h _ (.head _), zChk_ok h _ (.tail _ (.head _))⟩
theorem lkX4_246 : zLk RX4 246 xX0_leastLength 3 := zLk_of [708, 73] (by decide +kernel) wcX0_leastLength pdX0_leastLength
set_option maxRecDepth 100000 in
theorem wcX0_leastMarked : Cond.code xX0_leastMarked.1 xX0_leastMarked.2.1 xX0_leastMarked.2.2.1 xX0_leastMarked.2.2.2.1 ∈ zT := zT_of (i := 737) rfl rfl
theorem pdX0_leastMarked : xX0_leastMarked.1.cls ≠ "java/lang/invoke/MethodHandle" ∧ xX0_leastMarked.1.cls ≠ "java/lang/invoke/VarHandle" ∧ (parseMethodDescriptor xX0_leastMarked.1.desc).map (fun d => d.parameters.length) = some 0 := by decide +kernel
theorem ivX0_leastMarked : Cond.instanceMethod xX0_leastMarked.1 ∈ zT ∧ Cond.selects xX0_leastMarked.1.cls xX0_leastMarked.1 xX0_leastMarked.1 ∈ zT := have h : zChk [735, 736] [Cond.instanceMethod xX0_leastMarked.1, Cond.selects xX0_leastMarked.1.cls xX0_leastMarked.1 xX0_leastMarked.1] = true := by decide +kernel
  ⟨zChk_ok h _ (.head _), zChk_ok h _ (.tail _ (.head _))⟩
theorem lkX4_257 : zLk RX4 257 xX0_leastMarked 0 := zLk_of [734, 73] (by decide +kernel) wcX0_leastMarked pdX0_leastMarked
set_option maxRecDepth 100000 in
theorem wcX0_leastQuietWind : Cond.code xX0_leastQuietWind.1 xX0_leastQuietWind.2.1 xX0_leastQuietWind.2.2.1 xX0_leastQuietWind.2.2.2.1 ∈ zT := zT_of (i := 902) rfl rfl
theorem pdX0_leastQuietWind : xX0_leastQuietWind.1.cls ≠ "java/lang/invoke/MethodHandle" ∧ xX0_leastQuietWind.1.cls ≠ "java/lang/invoke/VarHandle" ∧ (parseMethodDescriptor xX0_leastQuietWind.1.desc).map (fun d => d.parameters.length) = some 2 := by decide +kernel
theorem ivX0_leastQuietWind : Cond.instanceMethod xX0_leastQuietWind.1 ∈ zT ∧ Cond.selects xX0_leastQuietWind.1.cls xX0_leastQuietWind.1 xX0_leastQuietWind.1 ∈ zT := have h : zChk [900, 901] [Cond.instanceMethod xX0_leastQuietWind.1, Cond.selects xX0_leastQuietWind.1.cls xX0_leastQuietWind.1 xX0_leastQuietWind.1] = true := by decide +kernel
  ⟨zChk_ok h _ (.head _), zChk_ok h _ (.tail _ (.head _))⟩
theorem lkX4_329 : zLk RX4 329 xX0_leastQuietWind 2 := zLk_of [899, 73] (by decide +kernel) wcX0_leastQuietWind pdX0_leastQuietWind
set_option maxRecDepth 100000 in
theorem wcX0_markLengths : Cond.code xX0_markLengths.1 xX0_markLengths.2.1 xX0_markLengths.2.2.1 xX0_markLengths.2.2.2.1 ∈ zT := zT_of (i := 727) rfl rfl
theorem pdX0_markLengths : xX0_markLengths.1.cls ≠ "java/lang/invoke/MethodHandle" ∧ xX0_markLengths.1.cls ≠ "java/lang/invoke/VarHandle" ∧ (parseMethodDescriptor xX0_markLengths.1.desc).map (fun d => d.parameters.length) = some 4 := by decide +kernel
theorem ivX0_markLengths : Cond.instanceMethod xX0_markLengths.1 ∈ zT ∧ Cond.selects xX0_markLengths.1.cls xX0_markLengths.1 xX0_markLengths.1 ∈ zT := have h : zChk [725, 726] [Cond.instanceMethod xX0_markLengths.1, Cond.selects xX0_markLengths.1.cls xX0_markLengths.1 xX0_markLengths.1] = true := by decide +kernel
  ⟨zChk_ok h _ (.head _), zChk_ok h _ (.tail _ (.head _))⟩
theorem lkX4_253 : zLk RX4 253 xX0_markLengths 4 := zLk_of [724, 73] (by decide +kernel) wcX0_markLengths pdX0_markLengths
set_option maxRecDepth 100000 in
theorem wcX0_merriestHouse : Cond.code xX0_merriestHouse.1 xX0_merriestHouse.2.1 xX0_merriestHouse.2.2.1 xX0_merriestHouse.2.2.2.1 ∈ zT := zT_of (i := 942) rfl rfl
theorem pdX0_merriestHouse : xX0_merriestHouse.1.cls ≠ "java/lang/invoke/MethodHandle" ∧ xX0_merriestHouse.1.cls ≠ "java/lang/invoke/VarHandle" ∧ (parseMethodDescriptor xX0_merriestHouse.1.desc).map (fun d => d.parameters.length) = some 2 := by decide +kernel
theorem ivX0_merriestHouse : Cond.instanceMethod xX0_merriestHouse.1 ∈ zT ∧ Cond.selects xX0_merriestHouse.1.cls xX0_merriestHouse.1 xX0_merriestHouse.1 ∈ zT := have h : zChk [940, 941] [Cond.instanceMethod xX0_merriestHouse.1, Cond.selects xX0_merriestHouse.1.cls xX0_merriestHouse.1 xX0_merriestHouse.1] = true := by decide +kernel
  ⟨zChk_ok h _ (.head _), zChk_ok h _ (.tail _ (.head _))⟩
theorem lkX4_345 : zLk RX4 345 xX0_merriestHouse 2 := zLk_of [939, 73] (by decide +kernel) wcX0_merriestHouse pdX0_merriestHouse
set_option maxRecDepth 100000 in
theorem wcX0_mostLeft : Cond.code xX0_mostLeft.1 xX0_mostLeft.2.1 xX0_mostLeft.2.2.1 xX0_mostLeft.2.2.2.1 ∈ zT := zT_of (i := 765) rfl rfl
theorem pdX0_mostLeft : xX0_mostLeft.1.cls ≠ "java/lang/invoke/MethodHandle" ∧ xX0_mostLeft.1.cls ≠ "java/lang/invoke/VarHandle" ∧ (parseMethodDescriptor xX0_mostLeft.1.desc).map (fun d => d.parameters.length) = some 2 := by decide +kernel
theorem ivX0_mostLeft : Cond.instanceMethod xX0_mostLeft.1 ∈ zT ∧ Cond.selects xX0_mostLeft.1.cls xX0_mostLeft.1 xX0_mostLeft.1 ∈ zT := have h : zChk [764, 23] [Cond.instanceMethod xX0_mostLeft.1, Cond.selects xX0_mostLeft.1.cls xX0_mostLeft.1 xX0_mostLeft.1] = true := by decide +kernel
  ⟨zChk_ok h _ (.head _), zChk_ok h _ (.tail _ (.head _))⟩
theorem lkX0_83 : zLk RX0 83 xX0_mostLeft 2 := zLk_of [762, 73] (by decide +kernel) wcX0_mostLeft pdX0_mostLeft
set_option maxRecDepth 100000 in
theorem wcX0_sealFor : Cond.code xX0_sealFor.1 xX0_sealFor.2.1 xX0_sealFor.2.2.1 xX0_sealFor.2.2.2.1 ∈ zT := zT_of (i := 703) rfl rfl
theorem pdX0_sealFor : xX0_sealFor.1.cls ≠ "java/lang/invoke/MethodHandle" ∧ xX0_sealFor.1.cls ≠ "java/lang/invoke/VarHandle" ∧ (parseMethodDescriptor xX0_sealFor.1.desc).map (fun d => d.parameters.length) = some 3 := by decide +kernel
theorem ivX0_sealFor : Cond.instanceMethod xX0_sealFor.1 ∈ zT ∧ Cond.selects xX0_sealFor.1.cls xX0_sealFor.1 xX0_sealFor.1 ∈ zT := have h : zChk [701, 702] [Cond.instanceMethod xX0_sealFor.1, Cond.selects xX0_sealFor.1.cls xX0_sealFor.1 xX0_sealFor.1] = true := by decide +kernel
  ⟨zChk_ok h _ (.head _), zChk_ok h _ (.tail _ (.head _))⟩
theorem lkX4_243 : zLk RX4 243 xX0_sealFor 3 := zLk_of [700, 73] (by decide +kernel) wcX0_sealFor pdX0_sealFor
set_option maxRecDepth 100000 in
theorem wcX0_sureKnowers : Cond.code xX0_sureKnowers.1 xX0_sureKnowers.2.1 xX0_sureKnowers.2.2.1 xX0_sureKnowers.2.2.2.1 ∈ zT := zT_of (i := 823) rfl rfl
theorem pdX0_sureKnowers : xX0_sureKnowers.1.cls ≠ "java/lang/invoke/MethodHandle" ∧ xX0_sureKnowers.1.cls ≠ "java/lang/invoke/VarHandle" ∧ (parseMethodDescriptor xX0_sureKnowers.1.desc).map (fun d => d.parameters.length) = some 2 := by decide +kernel
theorem ivX0_sureKnowers : Cond.instanceMethod xX0_sureKnowers.1 ∈ zT ∧ Cond.selects xX0_sureKnowers.1.cls xX0_sureKnowers.1 xX0_sureKnowers.1 ∈ zT := have h : zChk [821, 822] [Cond.instanceMethod xX0_sureKnowers.1, Cond.selects xX0_sureKnowers.1.cls xX0_sureKnowers.1 xX0_sureKnowers.1] = true := by decide +kernel
  ⟨zChk_ok h _ (.head _), zChk_ok h _ (.tail _ (.head _))⟩
theorem lkX4_297 : zLk RX4 297 xX0_sureKnowers 2 := zLk_of [820, 73] (by decide +kernel) wcX0_sureKnowers pdX0_sureKnowers
set_option maxRecDepth 100000 in
theorem wcX0_widestTo : Cond.code xX0_widestTo.1 xX0_widestTo.2.1 xX0_widestTo.2.2.1 xX0_widestTo.2.2.2.1 ∈ zT := zT_of (i := 859) rfl rfl
theorem pdX0_widestTo : xX0_widestTo.1.cls ≠ "java/lang/invoke/MethodHandle" ∧ xX0_widestTo.1.cls ≠ "java/lang/invoke/VarHandle" ∧ (parseMethodDescriptor xX0_widestTo.1.desc).map (fun d => d.parameters.length) = some 2 := by decide +kernel
theorem ivX0_widestTo : Cond.instanceMethod xX0_widestTo.1 ∈ zT ∧ Cond.selects xX0_widestTo.1.cls xX0_widestTo.1 xX0_widestTo.1 ∈ zT := have h : zChk [857, 858] [Cond.instanceMethod xX0_widestTo.1, Cond.selects xX0_widestTo.1.cls xX0_widestTo.1 xX0_widestTo.1] = true := by decide +kernel
  ⟨zChk_ok h _ (.head _), zChk_ok h _ (.tail _ (.head _))⟩
theorem lkX4_312 : zLk RX4 312 xX0_widestTo 2 := zLk_of [856, 73] (by decide +kernel) wcX0_widestTo pdX0_widestTo
set_option maxRecDepth 100000 in
theorem wcX0_windsOfKnowing : Cond.code xX0_windsOfKnowing.1 xX0_windsOfKnowing.2.1 xX0_windsOfKnowing.2.2.1 xX0_windsOfKnowing.2.2.2.1 ∈ zT := zT_of (i := 814) rfl rfl
theorem pdX0_windsOfKnowing : xX0_windsOfKnowing.1.cls ≠ "java/lang/invoke/MethodHandle" ∧ xX0_windsOfKnowing.1.cls ≠ "java/lang/invoke/VarHandle" ∧ (parseMethodDescriptor xX0_windsOfKnowing.1.desc).map (fun d => d.parameters.length) = some 3 := by decide +kernel
theorem ivX0_windsOfKnowing : Cond.instanceMethod xX0_windsOfKnowing.1 ∈ zT ∧ Cond.selects xX0_windsOfKnowing.1.cls xX0_windsOfKnowing.1 xX0_windsOfKnowing.1 ∈ zT := have h : zChk [812, 813] [Cond.instanceMethod xX0_windsOfKnowing.1, Cond.selects xX0_windsOfKnowing.1.cls xX0_windsOfKnowing.1 xX0_windsOfKnowing.1] = true := by decide +kernel
  ⟨zChk_ok h _ (.head _), zChk_ok h _ (.tail _ (.head _))⟩
theorem lkX4_293 : zLk RX4 293 xX0_windsOfKnowing 3 := zLk_of [811, 73] (by decide +kernel) wcX0_windsOfKnowing pdX0_windsOfKnowing
theorem lkX0_104 : zLk RX0 104 xX0_windsOfKnowing 3 := zLk_of [824, 73] (by decide +kernel) wcX0_windsOfKnowing pdX0_windsOfKnowing
set_option maxRecDepth 100000 in
theorem wcX1_addLetter : Cond.code xX1_addLetter.1 xX1_addLetter.2.1 xX1_addLetter.2.2.1 xX1_addLetter.2.2.2.1 ∈ zT := zT_of (i := 411) rfl rfl
theorem pdX1_addLetter : xX1_addLetter.1.cls ≠ "java/lang/invoke/MethodHandle" ∧ xX1_addLetter.1.cls ≠ "java/lang/invoke/VarHandle" ∧ (parseMethodDescriptor xX1_addLetter.1.desc).map (fun d => d.parameters.length) = some 4 := by decide +kernel
theorem ivX1_addLetter : Cond.instanceMethod xX1_addLetter.1 ∈ zT ∧ Cond.selects xX1_addLetter.1.cls xX1_addLetter.1 xX1_addLetter.1 ∈ zT := have h : zChk [409, 410] [Cond.instanceMethod xX1_addLetter.1, Cond.selects xX1_addLetter.1.cls xX1_addLetter.1 xX1_addLetter.1] = true := by decide +kernel
  ⟨zChk_ok h _ (.head _), zChk_ok h _ (.tail _ (.head _))⟩
theorem lkX4_138 : zLk RX4 138 xX1_addLetter 4 := zLk_of [408, 72] (by decide +kernel) wcX1_addLetter pdX1_addLetter
theorem lkX3_98 : zLk RX3 98 xX1_addLetter 4 := zLk_of [561, 72] (by decide +kernel) wcX1_addLetter pdX1_addLetter
set_option maxRecDepth 100000 in
theorem wcX1_allDrink : Cond.code xX1_allDrink.1 xX1_allDrink.2.1 xX1_allDrink.2.2.1 xX1_allDrink.2.2.2.1 ∈ zT := zT_of (i := 1008) rfl rfl
theorem pdX1_allDrink : xX1_allDrink.1.cls ≠ "java/lang/invoke/MethodHandle" ∧ xX1_allDrink.1.cls ≠ "java/lang/invoke/VarHandle" ∧ (parseMethodDescriptor xX1_allDrink.1.desc).map (fun d => d.parameters.length) = some 0 := by decide +kernel
theorem ivX1_allDrink : Cond.instanceMethod xX1_allDrink.1 ∈ zT ∧ Cond.selects xX1_allDrink.1.cls xX1_allDrink.1 xX1_allDrink.1 ∈ zT := have h : zChk [1006, 1007] [Cond.instanceMethod xX1_allDrink.1, Cond.selects xX1_allDrink.1.cls xX1_allDrink.1 xX1_allDrink.1] = true := by decide +kernel
  ⟨zChk_ok h _ (.head _), zChk_ok h _ (.tail _ (.head _))⟩
theorem lkX4_363 : zLk RX4 363 xX1_allDrink 0 := zLk_of [1005, 72] (by decide +kernel) wcX1_allDrink pdX1_allDrink
set_option maxRecDepth 100000 in
theorem wcX1_allEars : Cond.code xX1_allEars.1 xX1_allEars.2.1 xX1_allEars.2.2.1 xX1_allEars.2.2.2.1 ∈ zT := zT_of (i := 974) rfl rfl
theorem pdX1_allEars : xX1_allEars.1.cls ≠ "java/lang/invoke/MethodHandle" ∧ xX1_allEars.1.cls ≠ "java/lang/invoke/VarHandle" ∧ (parseMethodDescriptor xX1_allEars.1.desc).map (fun d => d.parameters.length) = some 0 := by decide +kernel
theorem ivX1_allEars : Cond.instanceMethod xX1_allEars.1 ∈ zT ∧ Cond.selects xX1_allEars.1.cls xX1_allEars.1 xX1_allEars.1 ∈ zT := have h : zChk [972, 973] [Cond.instanceMethod xX1_allEars.1, Cond.selects xX1_allEars.1.cls xX1_allEars.1 xX1_allEars.1] = true := by decide +kernel
  ⟨zChk_ok h _ (.head _), zChk_ok h _ (.tail _ (.head _))⟩
theorem lkX4_354 : zLk RX4 354 xX1_allEars 0 := zLk_of [971, 72] (by decide +kernel) wcX1_allEars pdX1_allEars
set_option maxRecDepth 100000 in
theorem wcX1_allKnowers : Cond.code xX1_allKnowers.1 xX1_allKnowers.2.1 xX1_allKnowers.2.2.1 xX1_allKnowers.2.2.2.1 ∈ zT := zT_of (i := 919) rfl rfl
theorem pdX1_allKnowers : xX1_allKnowers.1.cls ≠ "java/lang/invoke/MethodHandle" ∧ xX1_allKnowers.1.cls ≠ "java/lang/invoke/VarHandle" ∧ (parseMethodDescriptor xX1_allKnowers.1.desc).map (fun d => d.parameters.length) = some 0 := by decide +kernel
theorem ivX1_allKnowers : Cond.instanceMethod xX1_allKnowers.1 ∈ zT ∧ Cond.selects xX1_allKnowers.1.cls xX1_allKnowers.1 xX1_allKnowers.1 ∈ zT := have h : zChk [917, 918] [Cond.instanceMethod xX1_allKnowers.1, Cond.selects xX1_allKnowers.1.cls xX1_allKnowers.1 xX1_allKnowers.1] = true := by decide +kernel
  ⟨zChk_ok h _ (.head _), zChk_ok h _ (.tail _ (.head _))⟩
theorem lkX4_335 : zLk RX4 335 xX1_allKnowers 0 := zLk_of [916, 72] (by decide +kernel) wcX1_allKnowers pdX1_allKnowers
theorem lkX0_126 : zLk RX0 126 xX1_allKnowers 0 := zLk_of [925, 72] (by decide +kernel) wcX1_allKnowers pdX1_allKnowers
set_option maxRecDepth 100000 in
theorem wcX1_draw : Cond.code xX1_draw.1 xX1_draw.2.1 xX1_draw.2.2.1 xX1_draw.2.2.2.1 ∈ zT := zT_of (i := 986) rfl rfl
theorem pdX1_draw : xX1_draw.1.cls ≠ "java/lang/invoke/MethodHandle" ∧ xX1_draw.1.cls ≠ "java/lang/invoke/VarHandle" ∧ (parseMethodDescriptor xX1_draw.1.desc).map (fun d => d.parameters.length) = some 1 := by decide +kernel
theorem ivX1_draw : Cond.instanceMethod xX1_draw.1 ∈ zT ∧ Cond.selects xX1_draw.1.cls xX1_draw.1 xX1_draw.1 ∈ zT := have h : zChk [985, 27] [Cond.instanceMethod xX1_draw.1, Cond.selects xX1_draw.1.cls xX1_draw.1 xX1_draw.1] = true := by decide +kernel
  ⟨zChk_ok h _ (.head _), zChk_ok h _ (.tail _ (.head _))⟩
theorem lkX1_113 : zLk RX1 113 xX1_draw 1 := zLk_of [983, 72] (by decide +kernel) wcX1_draw pdX1_draw
set_option maxRecDepth 100000 in
theorem wcX1_endKnower : Cond.code xX1_endKnower.1 xX1_endKnower.2.1 xX1_endKnower.2.2.1 xX1_endKnower.2.2.2.1 ∈ zT := zT_of (i := 633) rfl rfl
theorem pdX1_endKnower : xX1_endKnower.1.cls ≠ "java/lang/invoke/MethodHandle" ∧ xX1_endKnower.1.cls ≠ "java/lang/invoke/VarHandle" ∧ (parseMethodDescriptor xX1_endKnower.1.desc).map (fun d => d.parameters.length) = some 2 := by decide +kernel
theorem ivX1_endKnower : Cond.instanceMethod xX1_endKnower.1 ∈ zT ∧ Cond.selects xX1_endKnower.1.cls xX1_endKnower.1 xX1_endKnower.1 ∈ zT := have h : zChk [631, 632] [Cond.instanceMethod xX1_endKnower.1, Cond.selects xX1_endKnower.1.cls xX1_endKnower.1 xX1_endKnower.1] = true := by decide +kernel
  ⟨zChk_ok h _ (.head _), zChk_ok h _ (.tail _ (.head _))⟩
theorem lkX4_213 : zLk RX4 213 xX1_endKnower 2 := zLk_of [630, 72] (by decide +kernel) wcX1_endKnower pdX1_endKnower
set_option maxRecDepth 100000 in
theorem wcX1_goDrawnDay : Cond.code xX1_goDrawnDay.1 xX1_goDrawnDay.2.1 xX1_goDrawnDay.2.2.1 xX1_goDrawnDay.2.2.2.1 ∈ zT := zT_of (i := 982) rfl rfl
theorem pdX1_goDrawnDay : xX1_goDrawnDay.1.cls ≠ "java/lang/invoke/MethodHandle" ∧ xX1_goDrawnDay.1.cls ≠ "java/lang/invoke/VarHandle" ∧ (parseMethodDescriptor xX1_goDrawnDay.1.desc).map (fun d => d.parameters.length) = some 0 := by decide +kernel
theorem ivX1_goDrawnDay : Cond.instanceMethod xX1_goDrawnDay.1 ∈ zT ∧ Cond.selects xX1_goDrawnDay.1.cls xX1_goDrawnDay.1 xX1_goDrawnDay.1 ∈ zT := have h : zChk [980, 981] [Cond.instanceMethod xX1_goDrawnDay.1, Cond.selects xX1_goDrawnDay.1.cls xX1_goDrawnDay.1 xX1_goDrawnDay.1] = true := by decide +kernel
  ⟨zChk_ok h _ (.head _), zChk_ok h _ (.tail _ (.head _))⟩
theorem lkX4_357 : zLk RX4 357 xX1_goDrawnDay 0 := zLk_of [979, 72] (by decide +kernel) wcX1_goDrawnDay pdX1_goDrawnDay
set_option maxRecDepth 100000 in
theorem wcX1_goRound : Cond.code xX1_goRound.1 xX1_goRound.2.1 xX1_goRound.2.2.1 xX1_goRound.2.2.2.1 ∈ zT := zT_of (i := 966) rfl rfl
theorem pdX1_goRound : xX1_goRound.1.cls ≠ "java/lang/invoke/MethodHandle" ∧ xX1_goRound.1.cls ≠ "java/lang/invoke/VarHandle" ∧ (parseMethodDescriptor xX1_goRound.1.desc).map (fun d => d.parameters.length) = some 0 := by decide +kernel
theorem ivX1_goRound : Cond.instanceMethod xX1_goRound.1 ∈ zT ∧ Cond.selects xX1_goRound.1.cls xX1_goRound.1 xX1_goRound.1 ∈ zT := have h : zChk [964, 965] [Cond.instanceMethod xX1_goRound.1, Cond.selects xX1_goRound.1.cls xX1_goRound.1 xX1_goRound.1] = true := by decide +kernel
  ⟨zChk_ok h _ (.head _), zChk_ok h _ (.tail _ (.head _))⟩
theorem lkX4_348 : zLk RX4 348 xX1_goRound 0 := zLk_of [963, 72] (by decide +kernel) wcX1_goRound pdX1_goRound
theorem lkX1_116 : zLk RX1 116 xX1_goRound 0 := zLk_of [988, 72] (by decide +kernel) wcX1_goRound pdX1_goRound
set_option maxRecDepth 100000 in
theorem wcX1_hasRoom : Cond.code xX1_hasRoom.1 xX1_hasRoom.2.1 xX1_hasRoom.2.2.1 xX1_hasRoom.2.2.2.1 ∈ zT := zT_of (i := 407) rfl rfl
theorem pdX1_hasRoom : xX1_hasRoom.1.cls ≠ "java/lang/invoke/MethodHandle" ∧ xX1_hasRoom.1.cls ≠ "java/lang/invoke/VarHandle" ∧ (parseMethodDescriptor xX1_hasRoom.1.desc).map (fun d => d.parameters.length) = some 0 := by decide +kernel
theorem ivX1_hasRoom : Cond.instanceMethod xX1_hasRoom.1 ∈ zT ∧ Cond.selects xX1_hasRoom.1.cls xX1_hasRoom.1 xX1_hasRoom.1 ∈ zT := have h : zChk [405, 406] [Cond.instanceMethod xX1_hasRoom.1, Cond.selects xX1_hasRoom.1.cls xX1_hasRoom.1 xX1_hasRoom.1] = true := by decide +kernel
  ⟨zChk_ok h _ (.head _), zChk_ok h _ (.tail _ (.head _))⟩
theorem lkX4_135 : zLk RX4 135 xX1_hasRoom 0 := zLk_of [404, 72] (by decide +kernel) wcX1_hasRoom pdX1_hasRoom
theorem lkX1_62 : zLk RX1 62 xX1_hasRoom 0 := zLk_of [412, 72] (by decide +kernel) wcX1_hasRoom pdX1_hasRoom
theorem lkX3_97 : zLk RX3 97 xX1_hasRoom 0 := zLk_of [560, 72] (by decide +kernel) wcX1_hasRoom pdX1_hasRoom
set_option maxRecDepth 100000 in
theorem wcX1_heardAt : Cond.code xX1_heardAt.1 xX1_heardAt.2.1 xX1_heardAt.2.2.1 xX1_heardAt.2.2.2.1 ∈ zT := zT_of (i := 361) rfl rfl
theorem pdX1_heardAt : xX1_heardAt.1.cls ≠ "java/lang/invoke/MethodHandle" ∧ xX1_heardAt.1.cls ≠ "java/lang/invoke/VarHandle" ∧ (parseMethodDescriptor xX1_heardAt.1.desc).map (fun d => d.parameters.length) = some 2 := by decide +kernel
theorem ivX1_heardAt : Cond.instanceMethod xX1_heardAt.1 ∈ zT ∧ Cond.selects xX1_heardAt.1.cls xX1_heardAt.1 xX1_heardAt.1 ∈ zT := have h : zChk [359, 360] [Cond.instanceMethod xX1_heardAt.1, Cond.selects xX1_heardAt.1.cls xX1_heardAt.1 xX1_heardAt.1] = true := by decide +kernel
  ⟨zChk_ok h _ (.head _), zChk_ok h _ (.tail _ (.head _))⟩
theorem lkX4_125 : zLk RX4 125 xX1_heardAt 2 := zLk_of [358, 72] (by decide +kernel) wcX1_heardAt pdX1_heardAt
theorem lkX0_65 : zLk RX0 65 xX1_heardAt 2 := zLk_of [732, 72] (by decide +kernel) wcX1_heardAt pdX1_heardAt
theorem lkX1_96 : zLk RX1 96 xX1_heardAt 2 := zLk_of [643, 72] (by decide +kernel) wcX1_heardAt pdX1_heardAt
set_option maxRecDepth 100000 in
theorem wcX1_heardWith : Cond.code xX1_heardWith.1 xX1_heardWith.2.1 xX1_heardWith.2.2.1 xX1_heardWith.2.2.2.1 ∈ zT := zT_of (i := 373) rfl rfl
theorem pdX1_heardWith : xX1_heardWith.1.cls ≠ "java/lang/invoke/MethodHandle" ∧ xX1_heardWith.1.cls ≠ "java/lang/invoke/VarHandle" ∧ (parseMethodDescriptor xX1_heardWith.1.desc).map (fun d => d.parameters.length) = some 3 := by decide +kernel
theorem ivX1_heardWith : Cond.instanceMethod xX1_heardWith.1 ∈ zT ∧ Cond.selects xX1_heardWith.1.cls xX1_heardWith.1 xX1_heardWith.1 ∈ zT := have h : zChk [372, 4] [Cond.instanceMethod xX1_heardWith.1, Cond.selects xX1_heardWith.1.cls xX1_heardWith.1 xX1_heardWith.1] = true := by decide +kernel
  ⟨zChk_ok h _ (.head _), zChk_ok h _ (.tail _ (.head _))⟩
theorem lkX1_73 : zLk RX1 73 xX1_heardWith 3 := zLk_of [370, 72] (by decide +kernel) wcX1_heardWith pdX1_heardWith
set_option maxRecDepth 100000 in
theorem wcX1_houseAtStep : Cond.code xX1_houseAtStep.1 xX1_houseAtStep.2.1 xX1_houseAtStep.2.2.1 xX1_houseAtStep.2.2.2.1 ∈ zT := zT_of (i := 617) rfl rfl
theorem pdX1_houseAtStep : xX1_houseAtStep.1.cls ≠ "java/lang/invoke/MethodHandle" ∧ xX1_houseAtStep.1.cls ≠ "java/lang/invoke/VarHandle" ∧ (parseMethodDescriptor xX1_houseAtStep.1.desc).map (fun d => d.parameters.length) = some 1 := by decide +kernel
theorem ivX1_houseAtStep : Cond.instanceMethod xX1_houseAtStep.1 ∈ zT ∧ Cond.selects xX1_houseAtStep.1.cls xX1_houseAtStep.1 xX1_houseAtStep.1 ∈ zT := have h : zChk [615, 616] [Cond.instanceMethod xX1_houseAtStep.1, Cond.selects xX1_houseAtStep.1.cls xX1_houseAtStep.1 xX1_houseAtStep.1] = true := by decide +kernel
  ⟨zChk_ok h _ (.head _), zChk_ok h _ (.tail _ (.head _))⟩
theorem lkX1_99 : zLk RX1 99 xX1_houseAtStep 1 := zLk_of [614, 72] (by decide +kernel) wcX1_houseAtStep pdX1_houseAtStep
set_option maxRecDepth 100000 in
theorem wcX1_houseWithFewest : Cond.code xX1_houseWithFewest.1 xX1_houseWithFewest.2.1 xX1_houseWithFewest.2.2.1 xX1_houseWithFewest.2.2.2.1 ∈ zT := zT_of (i := 659) rfl rfl
theorem pdX1_houseWithFewest : xX1_houseWithFewest.1.cls ≠ "java/lang/invoke/MethodHandle" ∧ xX1_houseWithFewest.1.cls ≠ "java/lang/invoke/VarHandle" ∧ (parseMethodDescriptor xX1_houseWithFewest.1.desc).map (fun d => d.parameters.length) = some 0 := by decide +kernel
theorem ivX1_houseWithFewest : Cond.instanceMethod xX1_houseWithFewest.1 ∈ zT ∧ Cond.selects xX1_houseWithFewest.1.cls xX1_houseWithFewest.1 xX1_houseWithFewest.1 ∈ zT := have h : zChk [657, 658] [Cond.instanceMethod xX1_houseWithFewest.1, Cond.selects xX1_houseWithFewest.1.cls xX1_houseWithFewest.1 xX1_houseWithFewest.1] = true := by decide +kernel
  ⟨zChk_ok h _ (.head _), zChk_ok h _ (.tail _ (.head _))⟩
theorem lkX4_223 : zLk RX4 223 xX1_houseWithFewest 0 := zLk_of [656, 72] (by decide +kernel) wcX1_houseWithFewest pdX1_houseWithFewest
set_option maxRecDepth 100000 in
theorem wcX1_houseWithMost : Cond.code xX1_houseWithMost.1 xX1_houseWithMost.2.1 xX1_houseWithMost.2.2.1 xX1_houseWithMost.2.2.2.1 ∈ zT := zT_of (i := 664) rfl rfl
theorem pdX1_houseWithMost : xX1_houseWithMost.1.cls ≠ "java/lang/invoke/MethodHandle" ∧ xX1_houseWithMost.1.cls ≠ "java/lang/invoke/VarHandle" ∧ (parseMethodDescriptor xX1_houseWithMost.1.desc).map (fun d => d.parameters.length) = some 0 := by decide +kernel
theorem ivX1_houseWithMost : Cond.instanceMethod xX1_houseWithMost.1 ∈ zT ∧ Cond.selects xX1_houseWithMost.1.cls xX1_houseWithMost.1 xX1_houseWithMost.1 ∈ zT := have h : zChk [662, 663] [Cond.instanceMethod xX1_houseWithMost.1, Cond.selects xX1_houseWithMost.1.cls xX1_houseWithMost.1 xX1_houseWithMost.1] = true := by decide +kernel
  ⟨zChk_ok h _ (.head _), zChk_ok h _ (.tail _ (.head _))⟩
theorem lkX4_226 : zLk RX4 226 xX1_houseWithMost 0 := zLk_of [661, 72] (by decide +kernel) wcX1_houseWithMost pdX1_houseWithMost
set_option maxRecDepth 100000 in
theorem wcX1_init : Cond.code xX1_init.1 xX1_init.2.1 xX1_init.2.2.1 xX1_init.2.2.2.1 ∈ zT := zT_of (i := 96) rfl rfl
theorem pdX1_init : xX1_init.1.cls ≠ "java/lang/invoke/MethodHandle" ∧ xX1_init.1.cls ≠ "java/lang/invoke/VarHandle" ∧ (parseMethodDescriptor xX1_init.1.desc).map (fun d => d.parameters.length) = some 0 := by decide +kernel
theorem iiX1_init : Cond.instanceMethod xX1_init.1 ∈ zT ∧ xX1_init.1.name = "<init>" ∧ xX1_init.2.2.2.1 = none := have h : zChk [95] [Cond.instanceMethod xX1_init.1] = true := by decide +kernel
  ⟨zChk_ok h _ (.head _), rfl, rfl⟩
theorem lkX4_9 : zLn RX4 9 xX1_init 0 := ⟨⟨"ReadOutAlongTheWay", by decide +kernel⟩, zChk_ok (ps := [72]) (ws := [Cond.initialized xX1_init.1.cls]) (by decide +kernel) _ (.head _), wcX1_init, pdX1_init⟩
theorem lkX0_11 : zLn RX0 11 xX1_init 0 := ⟨⟨"ReadOutAlongTheWay", by decide +kernel⟩, zChk_ok (ps := [72]) (ws := [Cond.initialized xX1_init.1.cls]) (by decide +kernel) _ (.head _), wcX1_init, pdX1_init⟩
set_option maxRecDepth 100000 in
theorem wcX1_isKnown : Cond.code xX1_isKnown.1 xX1_isKnown.2.1 xX1_isKnown.2.2.1 xX1_isKnown.2.2.2.1 ∈ zT := zT_of (i := 715) rfl rfl
theorem pdX1_isKnown : xX1_isKnown.1.cls ≠ "java/lang/invoke/MethodHandle" ∧ xX1_isKnown.1.cls ≠ "java/lang/invoke/VarHandle" ∧ (parseMethodDescriptor xX1_isKnown.1.desc).map (fun d => d.parameters.length) = some 2 := by decide +kernel
theorem ivX1_isKnown : Cond.instanceMethod xX1_isKnown.1 ∈ zT ∧ Cond.selects xX1_isKnown.1.cls xX1_isKnown.1 xX1_isKnown.1 ∈ zT := have h : zChk [713, 714] [Cond.instanceMethod xX1_isKnown.1, Cond.selects xX1_isKnown.1.cls xX1_isKnown.1 xX1_isKnown.1] = true := by decide +kernel
  ⟨zChk_ok h _ (.head _), zChk_ok h _ (.tail _ (.head _))⟩
theorem lkX4_321 : zLk RX4 321 xX1_isKnown 2 := zLk_of [881, 72] (by decide +kernel) wcX1_isKnown pdX1_isKnown
theorem lkX0_62 : zLk RX0 62 xX1_isKnown 2 := zLk_of [712, 72] (by decide +kernel) wcX1_isKnown pdX1_isKnown
set_option maxRecDepth 100000 in
theorem wcX1_isNearTo : Cond.code xX1_isNearTo.1 xX1_isNearTo.2.1 xX1_isNearTo.2.2.1 xX1_isNearTo.2.2.2.1 ∈ zT := zT_of (i := 388) rfl rfl
theorem pdX1_isNearTo : xX1_isNearTo.1.cls ≠ "java/lang/invoke/MethodHandle" ∧ xX1_isNearTo.1.cls ≠ "java/lang/invoke/VarHandle" ∧ (parseMethodDescriptor xX1_isNearTo.1.desc).map (fun d => d.parameters.length) = some 2 := by decide +kernel
theorem ivX1_isNearTo : Cond.instanceMethod xX1_isNearTo.1 ∈ zT ∧ Cond.selects xX1_isNearTo.1.cls xX1_isNearTo.1 xX1_isNearTo.1 ∈ zT := have h : zChk [387, 6] [Cond.instanceMethod xX1_isNearTo.1, Cond.selects xX1_isNearTo.1.cls xX1_isNearTo.1 xX1_isNearTo.1] = true := by decide +kernel
  ⟨zChk_ok h _ (.head _), zChk_ok h _ (.tail _ (.head _))⟩
theorem lkX1_88 : zLk RX1 88 xX1_isNearTo 2 := zLk_of [385, 72] (by decide +kernel) wcX1_isNearTo pdX1_isNearTo
set_option maxRecDepth 100000 in
theorem wcX1_knowers : Cond.code xX1_knowers.1 xX1_knowers.2.1 xX1_knowers.2.2.1 xX1_knowers.2.2.2.1 ∈ zT := zT_of (i := 613) rfl rfl
theorem pdX1_knowers : xX1_knowers.1.cls ≠ "java/lang/invoke/MethodHandle" ∧ xX1_knowers.1.cls ≠ "java/lang/invoke/VarHandle" ∧ (parseMethodDescriptor xX1_knowers.1.desc).map (fun d => d.parameters.length) = some 1 := by decide +kernel
theorem ivX1_knowers : Cond.instanceMethod xX1_knowers.1 ∈ zT ∧ Cond.selects xX1_knowers.1.cls xX1_knowers.1 xX1_knowers.1 ∈ zT := have h : zChk [611, 612] [Cond.instanceMethod xX1_knowers.1, Cond.selects xX1_knowers.1.cls xX1_knowers.1 xX1_knowers.1] = true := by decide +kernel
  ⟨zChk_ok h _ (.head _), zChk_ok h _ (.tail _ (.head _))⟩
theorem lkX4_207 : zLk RX4 207 xX1_knowers 1 := zLk_of [610, 72] (by decide +kernel) wcX1_knowers pdX1_knowers
theorem lkX0_41 : zLk RX0 41 xX1_knowers 1 := zLk_of [678, 72] (by decide +kernel) wcX1_knowers pdX1_knowers
theorem lkX1_102 : zLk RX1 102 xX1_knowers 1 := zLk_of [634, 72] (by decide +kernel) wcX1_knowers pdX1_knowers
set_option maxRecDepth 100000 in
theorem wcX1_knownAt : Cond.code xX1_knownAt.1 xX1_knownAt.2.1 xX1_knownAt.2.2.1 xX1_knownAt.2.2.2.1 ∈ zT := zT_of (i := 625) rfl rfl
theorem pdX1_knownAt : xX1_knownAt.1.cls ≠ "java/lang/invoke/MethodHandle" ∧ xX1_knownAt.1.cls ≠ "java/lang/invoke/VarHandle" ∧ (parseMethodDescriptor xX1_knownAt.1.desc).map (fun d => d.parameters.length) = some 1 := by decide +kernel
theorem ivX1_knownAt : Cond.instanceMethod xX1_knownAt.1 ∈ zT ∧ Cond.selects xX1_knownAt.1.cls xX1_knownAt.1 xX1_knownAt.1 ∈ zT := have h : zChk [623, 624] [Cond.instanceMethod xX1_knownAt.1, Cond.selects xX1_knownAt.1.cls xX1_knownAt.1 xX1_knownAt.1] = true := by decide +kernel
  ⟨zChk_ok h _ (.head _), zChk_ok h _ (.tail _ (.head _))⟩
theorem lkX4_210 : zLk RX4 210 xX1_knownAt 1 := zLk_of [622, 72] (by decide +kernel) wcX1_knownAt pdX1_knownAt
theorem lkX0_123 : zLk RX0 123 xX1_knownAt 1 := zLk_of [903, 72] (by decide +kernel) wcX1_knownAt pdX1_knownAt
set_option maxRecDepth 100000 in
theorem wcX1_learn : Cond.code xX1_learn.1 xX1_learn.2.1 xX1_learn.2.2.1 xX1_learn.2.2.2.1 ∈ zT := zT_of (i := 428) rfl rfl
theorem pdX1_learn : xX1_learn.1.cls ≠ "java/lang/invoke/MethodHandle" ∧ xX1_learn.1.cls ≠ "java/lang/invoke/VarHandle" ∧ (parseMethodDescriptor xX1_learn.1.desc).map (fun d => d.parameters.length) = some 2 := by decide +kernel
theorem ivX1_learn : Cond.instanceMethod xX1_learn.1 ∈ zT ∧ Cond.selects xX1_learn.1.cls xX1_learn.1 xX1_learn.1 ∈ zT := have h : zChk [426, 427] [Cond.instanceMethod xX1_learn.1, Cond.selects xX1_learn.1.cls xX1_learn.1 xX1_learn.1] = true := by decide +kernel
  ⟨zChk_ok h _ (.head _), zChk_ok h _ (.tail _ (.head _))⟩
theorem lkX4_157 : zLk RX4 157 xX1_learn 2 := zLk_of [425, 72] (by decide +kernel) wcX1_learn pdX1_learn
theorem lkX0_133 : zLk RX0 133 xX1_learn 2 := zLk_of [934, 72] (by decide +kernel) wcX1_learn pdX1_learn
theorem lkX3_102 : zLk RX3 102 xX1_learn 2 := zLk_of [573, 72] (by decide +kernel) wcX1_learn pdX1_learn
set_option maxRecDepth 100000 in
theorem wcX1_leftOutAfter : Cond.code xX1_leftOutAfter.1 xX1_leftOutAfter.2.1 xX1_leftOutAfter.2.2.1 xX1_leftOutAfter.2.2.2.1 ∈ zT := zT_of (i := 369) rfl rfl
theorem pdX1_leftOutAfter : xX1_leftOutAfter.1.cls ≠ "java/lang/invoke/MethodHandle" ∧ xX1_leftOutAfter.1.cls ≠ "java/lang/invoke/VarHandle" ∧ (parseMethodDescriptor xX1_leftOutAfter.1.desc).map (fun d => d.parameters.length) = some 1 := by decide +kernel
theorem ivX1_leftOutAfter : Cond.instanceMethod xX1_leftOutAfter.1 ∈ zT ∧ Cond.selects xX1_leftOutAfter.1.cls xX1_leftOutAfter.1 xX1_leftOutAfter.1 ∈ zT := have h : zChk [367, 368] [Cond.instanceMethod xX1_leftOutAfter.1, Cond.selects xX1_leftOutAfter.1.cls xX1_leftOutAfter.1 xX1_leftOutAfter.1] = true := by decide +kernel
  ⟨zChk_ok h _ (.head _), zChk_ok h _ (.tail _ (.head _))⟩
theorem lkX4_201 : zLk RX4 201 xX1_leftOutAfter 1 := zLk_of [596, 72] (by decide +kernel) wcX1_leftOutAfter pdX1_leftOutAfter
theorem lkX1_70 : zLk RX1 70 xX1_leftOutAfter 1 := zLk_of [366, 72] (by decide +kernel) wcX1_leftOutAfter pdX1_leftOutAfter
set_option maxRecDepth 100000 in
theorem wcX1_lettersReadAt : Cond.code xX1_lettersReadAt.1 xX1_lettersReadAt.2.1 xX1_lettersReadAt.2.2.1 xX1_lettersReadAt.2.2.2.1 ∈ zT := zT_of (i := 872) rfl rfl
theorem pdX1_lettersReadAt : xX1_lettersReadAt.1.cls ≠ "java/lang/invoke/MethodHandle" ∧ xX1_lettersReadAt.1.cls ≠ "java/lang/invoke/VarHandle" ∧ (parseMethodDescriptor xX1_lettersReadAt.1.desc).map (fun d => d.parameters.length) = some 1 := by decide +kernel
theorem ivX1_lettersReadAt : Cond.instanceMethod xX1_lettersReadAt.1 ∈ zT ∧ Cond.selects xX1_lettersReadAt.1.cls xX1_lettersReadAt.1 xX1_lettersReadAt.1 ∈ zT := have h : zChk [870, 871] [Cond.instanceMethod xX1_lettersReadAt.1, Cond.selects xX1_lettersReadAt.1.cls xX1_lettersReadAt.1 xX1_lettersReadAt.1] = true := by decide +kernel
  ⟨zChk_ok h _ (.head _), zChk_ok h _ (.tail _ (.head _))⟩
theorem lkX4_318 : zLk RX4 318 xX1_lettersReadAt 1 := zLk_of [869, 72] (by decide +kernel) wcX1_lettersReadAt pdX1_lettersReadAt
set_option maxRecDepth 100000 in
theorem wcX1_loudestAt : Cond.code xX1_loudestAt.1 xX1_loudestAt.2.1 xX1_loudestAt.2.2.1 xX1_loudestAt.2.2.2.1 ∈ zT := zT_of (i := 642) rfl rfl
theorem pdX1_loudestAt : xX1_loudestAt.1.cls ≠ "java/lang/invoke/MethodHandle" ∧ xX1_loudestAt.1.cls ≠ "java/lang/invoke/VarHandle" ∧ (parseMethodDescriptor xX1_loudestAt.1.desc).map (fun d => d.parameters.length) = some 1 := by decide +kernel
theorem ivX1_loudestAt : Cond.instanceMethod xX1_loudestAt.1 ∈ zT ∧ Cond.selects xX1_loudestAt.1.cls xX1_loudestAt.1 xX1_loudestAt.1 ∈ zT := have h : zChk [640, 641] [Cond.instanceMethod xX1_loudestAt.1, Cond.selects xX1_loudestAt.1.cls xX1_loudestAt.1 xX1_loudestAt.1] = true := by decide +kernel
  ⟨zChk_ok h _ (.head _), zChk_ok h _ (.tail _ (.head _))⟩
theorem lkX4_217 : zLk RX4 217 xX1_loudestAt 1 := zLk_of [639, 72] (by decide +kernel) wcX1_loudestAt pdX1_loudestAt
set_option maxRecDepth 100000 in
theorem wcX1_readAt : Cond.code xX1_readAt.1 xX1_readAt.2.1 xX1_readAt.2.2.1 xX1_readAt.2.2.2.1 ∈ zT := zT_of (i := 377) rfl rfl
theorem pdX1_readAt : xX1_readAt.1.cls ≠ "java/lang/invoke/MethodHandle" ∧ xX1_readAt.1.cls ≠ "java/lang/invoke/VarHandle" ∧ (parseMethodDescriptor xX1_readAt.1.desc).map (fun d => d.parameters.length) = some 2 := by decide +kernel
theorem ivX1_readAt : Cond.instanceMethod xX1_readAt.1 ∈ zT ∧ Cond.selects xX1_readAt.1.cls xX1_readAt.1 xX1_readAt.1 ∈ zT := have h : zChk [375, 376] [Cond.instanceMethod xX1_readAt.1, Cond.selects xX1_readAt.1.cls xX1_readAt.1 xX1_readAt.1] = true := by decide +kernel
  ⟨zChk_ok h _ (.head _), zChk_ok h _ (.tail _ (.head _))⟩
theorem lkX4_204 : zLk RX4 204 xX1_readAt 2 := zLk_of [605, 72] (by decide +kernel) wcX1_readAt pdX1_readAt
theorem lkX1_77 : zLk RX1 77 xX1_readAt 2 := zLk_of [374, 72] (by decide +kernel) wcX1_readAt pdX1_readAt
set_option maxRecDepth 100000 in
theorem wcX1_takeFrom : Cond.code xX1_takeFrom.1 xX1_takeFrom.2.1 xX1_takeFrom.2.2.1 xX1_takeFrom.2.2.2.1 ∈ zT := zT_of (i := 472) rfl rfl
theorem pdX1_takeFrom : xX1_takeFrom.1.cls ≠ "java/lang/invoke/MethodHandle" ∧ xX1_takeFrom.1.cls ≠ "java/lang/invoke/VarHandle" ∧ (parseMethodDescriptor xX1_takeFrom.1.desc).map (fun d => d.parameters.length) = some 1 := by decide +kernel
theorem ivX1_takeFrom : Cond.instanceMethod xX1_takeFrom.1 ∈ zT ∧ Cond.selects xX1_takeFrom.1.cls xX1_takeFrom.1 xX1_takeFrom.1 ∈ zT := have h : zChk [470, 471] [Cond.instanceMethod xX1_takeFrom.1, Cond.selects xX1_takeFrom.1.cls xX1_takeFrom.1 xX1_takeFrom.1] = true := by decide +kernel
  ⟨zChk_ok h _ (.head _), zChk_ok h _ (.tail _ (.head _))⟩
theorem lkX4_191 : zLk RX4 191 xX1_takeFrom 1 := zLk_of [585, 72] (by decide +kernel) wcX1_takeFrom pdX1_takeFrom
theorem lkX0_26 : zLk RX0 26 xX1_takeFrom 1 := zLk_of [469, 72] (by decide +kernel) wcX1_takeFrom pdX1_takeFrom
set_option maxRecDepth 100000 in
theorem wcX1_tipsyAt : Cond.code xX1_tipsyAt.1 xX1_tipsyAt.2.1 xX1_tipsyAt.2.2.1 xX1_tipsyAt.2.2.2.1 ∈ zT := zT_of (i := 365) rfl rfl
theorem pdX1_tipsyAt : xX1_tipsyAt.1.cls ≠ "java/lang/invoke/MethodHandle" ∧ xX1_tipsyAt.1.cls ≠ "java/lang/invoke/VarHandle" ∧ (parseMethodDescriptor xX1_tipsyAt.1.desc).map (fun d => d.parameters.length) = some 1 := by decide +kernel
theorem ivX1_tipsyAt : Cond.instanceMethod xX1_tipsyAt.1 ∈ zT ∧ Cond.selects xX1_tipsyAt.1.cls xX1_tipsyAt.1 xX1_tipsyAt.1 ∈ zT := have h : zChk [363, 364] [Cond.instanceMethod xX1_tipsyAt.1, Cond.selects xX1_tipsyAt.1.cls xX1_tipsyAt.1 xX1_tipsyAt.1] = true := by decide +kernel
  ⟨zChk_ok h _ (.head _), zChk_ok h _ (.tail _ (.head _))⟩
theorem lkX4_198 : zLk RX4 198 xX1_tipsyAt 1 := zLk_of [595, 72] (by decide +kernel) wcX1_tipsyAt pdX1_tipsyAt
theorem lkX1_66 : zLk RX1 66 xX1_tipsyAt 1 := zLk_of [362, 72] (by decide +kernel) wcX1_tipsyAt pdX1_tipsyAt
set_option maxRecDepth 100000 in
theorem wcX1_understands : Cond.code xX1_understands.1 xX1_understands.2.1 xX1_understands.2.2.1 xX1_understands.2.2.2.1 ∈ zT := zT_of (i := 384) rfl rfl
theorem pdX1_understands : xX1_understands.1.cls ≠ "java/lang/invoke/MethodHandle" ∧ xX1_understands.1.cls ≠ "java/lang/invoke/VarHandle" ∧ (parseMethodDescriptor xX1_understands.1.desc).map (fun d => d.parameters.length) = some 2 := by decide +kernel
theorem ivX1_understands : Cond.instanceMethod xX1_understands.1 ∈ zT ∧ Cond.selects xX1_understands.1.cls xX1_understands.1 xX1_understands.1 ∈ zT := have h : zChk [383, 5] [Cond.instanceMethod xX1_understands.1, Cond.selects xX1_understands.1.cls xX1_understands.1 xX1_understands.1] = true := by decide +kernel
  ⟨zChk_ok h _ (.head _), zChk_ok h _ (.tail _ (.head _))⟩
theorem lkX1_85 : zLk RX1 85 xX1_understands 2 := zLk_of [381, 72] (by decide +kernel) wcX1_understands pdX1_understands
set_option maxRecDepth 100000 in
theorem wcX1_within : Cond.code xX1_within.1 xX1_within.2.1 xX1_within.2.2.1 xX1_within.2.2.2.1 ∈ zT := zT_of (i := 380) rfl rfl
theorem pdX1_within : xX1_within.1.cls ≠ "java/lang/invoke/MethodHandle" ∧ xX1_within.1.cls ≠ "java/lang/invoke/VarHandle" ∧ (parseMethodDescriptor xX1_within.1.desc).map (fun d => d.parameters.length) = some 2 := by decide +kernel
theorem isX1_within : Cond.static xX1_within.1 ∈ zT := have h : zChk [379] [Cond.static xX1_within.1] = true := by decide +kernel
  zChk_ok h _ (.head _)
theorem lkX1_81 : zLk RX1 81 xX1_within 2 := zLk_of [378, 72] (by decide +kernel) wcX1_within pdX1_within
set_option maxRecDepth 100000 in
theorem wcX1_wordsAt : Cond.code xX1_wordsAt.1 xX1_wordsAt.2.1 xX1_wordsAt.2.2.1 xX1_wordsAt.2.2.2.1 ∈ zT := zT_of (i := 651) rfl rfl
theorem pdX1_wordsAt : xX1_wordsAt.1.cls ≠ "java/lang/invoke/MethodHandle" ∧ xX1_wordsAt.1.cls ≠ "java/lang/invoke/VarHandle" ∧ (parseMethodDescriptor xX1_wordsAt.1.desc).map (fun d => d.parameters.length) = some 1 := by decide +kernel
theorem ivX1_wordsAt : Cond.instanceMethod xX1_wordsAt.1 ∈ zT ∧ Cond.selects xX1_wordsAt.1.cls xX1_wordsAt.1 xX1_wordsAt.1 ∈ zT := have h : zChk [649, 650] [Cond.instanceMethod xX1_wordsAt.1, Cond.selects xX1_wordsAt.1.cls xX1_wordsAt.1 xX1_wordsAt.1] = true := by decide +kernel
  ⟨zChk_ok h _ (.head _), zChk_ok h _ (.tail _ (.head _))⟩
theorem lkX4_220 : zLk RX4 220 xX1_wordsAt 1 := zLk_of [648, 72] (by decide +kernel) wcX1_wordsAt pdX1_wordsAt
theorem lkX1_110 : zLk RX1 110 xX1_wordsAt 1 := zLk_of [660, 72] (by decide +kernel) wcX1_wordsAt pdX1_wordsAt
set_option maxRecDepth 100000 in
theorem wcX2_asKept : Cond.code xX2_asKept.1 xX2_asKept.2.1 xX2_asKept.2.2.1 xX2_asKept.2.2.2.1 ∈ zT := zT_of (i := 304) rfl rfl
theorem pdX2_asKept : xX2_asKept.1.cls ≠ "java/lang/invoke/MethodHandle" ∧ xX2_asKept.1.cls ≠ "java/lang/invoke/VarHandle" ∧ (parseMethodDescriptor xX2_asKept.1.desc).map (fun d => d.parameters.length) = some 1 := by decide +kernel
theorem ivX2_asKept : Cond.instanceMethod xX2_asKept.1 ∈ zT ∧ Cond.selects xX2_asKept.1.cls xX2_asKept.1 xX2_asKept.1 ∈ zT := have h : zChk [303, 2] [Cond.instanceMethod xX2_asKept.1, Cond.selects xX2_asKept.1.cls xX2_asKept.1 xX2_asKept.1] = true := by decide +kernel
  ⟨zChk_ok h _ (.head _), zChk_ok h _ (.tail _ (.head _))⟩
theorem lkX2_29 : zLk RX2 29 xX2_asKept 1 := zLk_of [301, 74] (by decide +kernel) wcX2_asKept pdX2_asKept
set_option maxRecDepth 100000 in
theorem wcX2_clearOut : Cond.code xX2_clearOut.1 xX2_clearOut.2.1 xX2_clearOut.2.2.1 xX2_clearOut.2.2.2.1 ∈ zT := zT_of (i := 337) rfl rfl
theorem pdX2_clearOut : xX2_clearOut.1.cls ≠ "java/lang/invoke/MethodHandle" ∧ xX2_clearOut.1.cls ≠ "java/lang/invoke/VarHandle" ∧ (parseMethodDescriptor xX2_clearOut.1.desc).map (fun d => d.parameters.length) = some 0 := by decide +kernel
theorem ivX2_clearOut : Cond.instanceMethod xX2_clearOut.1 ∈ zT ∧ Cond.selects xX2_clearOut.1.cls xX2_clearOut.1 xX2_clearOut.1 ∈ zT := have h : zChk [335, 336] [Cond.instanceMethod xX2_clearOut.1, Cond.selects xX2_clearOut.1.cls xX2_clearOut.1 xX2_clearOut.1] = true := by decide +kernel
  ⟨zChk_ok h _ (.head _), zChk_ok h _ (.tail _ (.head _))⟩
theorem lkX4_102 : zLk RX4 102 xX2_clearOut 0 := zLk_of [334, 74] (by decide +kernel) wcX2_clearOut pdX2_clearOut
set_option maxRecDepth 100000 in
theorem wcX2_hasElement : Cond.code xX2_hasElement.1 xX2_hasElement.2.1 xX2_hasElement.2.2.1 xX2_hasElement.2.2.2.1 ∈ zT := zT_of (i := 296) rfl rfl
theorem pdX2_hasElement : xX2_hasElement.1.cls ≠ "java/lang/invoke/MethodHandle" ∧ xX2_hasElement.1.cls ≠ "java/lang/invoke/VarHandle" ∧ (parseMethodDescriptor xX2_hasElement.1.desc).map (fun d => d.parameters.length) = some 1 := by decide +kernel
theorem ivX2_hasElement : Cond.instanceMethod xX2_hasElement.1 ∈ zT ∧ Cond.selects xX2_hasElement.1.cls xX2_hasElement.1 xX2_hasElement.1 ∈ zT := have h : zChk [294, 295] [Cond.instanceMethod xX2_hasElement.1, Cond.selects xX2_hasElement.1.cls xX2_hasElement.1 xX2_hasElement.1] = true := by decide +kernel
  ⟨zChk_ok h _ (.head _), zChk_ok h _ (.tail _ (.head _))⟩
theorem lkX4_67 : zLk RX4 67 xX2_hasElement 1 := zLk_of [293, 74] (by decide +kernel) wcX2_hasElement pdX2_hasElement
set_option maxRecDepth 100000 in
theorem wcX2_hasPart : Cond.code xX2_hasPart.1 xX2_hasPart.2.1 xX2_hasPart.2.2.1 xX2_hasPart.2.2.2.1 ∈ zT := zT_of (i := 314) rfl rfl
theorem pdX2_hasPart : xX2_hasPart.1.cls ≠ "java/lang/invoke/MethodHandle" ∧ xX2_hasPart.1.cls ≠ "java/lang/invoke/VarHandle" ∧ (parseMethodDescriptor xX2_hasPart.1.desc).map (fun d => d.parameters.length) = some 2 := by decide +kernel
theorem ivX2_hasPart : Cond.instanceMethod xX2_hasPart.1 ∈ zT ∧ Cond.selects xX2_hasPart.1.cls xX2_hasPart.1 xX2_hasPart.1 ∈ zT := have h : zChk [312, 313] [Cond.instanceMethod xX2_hasPart.1, Cond.selects xX2_hasPart.1.cls xX2_hasPart.1 xX2_hasPart.1] = true := by decide +kernel
  ⟨zChk_ok h _ (.head _), zChk_ok h _ (.tail _ (.head _))⟩
theorem lkX4_85 : zLk RX4 85 xX2_hasPart 2 := zLk_of [311, 74] (by decide +kernel) wcX2_hasPart pdX2_hasPart
set_option maxRecDepth 100000 in
theorem wcX2_holdsLetter : Cond.code xX2_holdsLetter.1 xX2_holdsLetter.2.1 xX2_holdsLetter.2.2.1 xX2_holdsLetter.2.2.2.1 ∈ zT := zT_of (i := 288) rfl rfl
theorem pdX2_holdsLetter : xX2_holdsLetter.1.cls ≠ "java/lang/invoke/MethodHandle" ∧ xX2_holdsLetter.1.cls ≠ "java/lang/invoke/VarHandle" ∧ (parseMethodDescriptor xX2_holdsLetter.1.desc).map (fun d => d.parameters.length) = some 0 := by decide +kernel
theorem ivX2_holdsLetter : Cond.instanceMethod xX2_holdsLetter.1 ∈ zT ∧ Cond.selects xX2_holdsLetter.1.cls xX2_holdsLetter.1 xX2_holdsLetter.1 ∈ zT := have h : zChk [286, 287] [Cond.instanceMethod xX2_holdsLetter.1, Cond.selects xX2_holdsLetter.1.cls xX2_holdsLetter.1 xX2_holdsLetter.1] = true := by decide +kernel
  ⟨zChk_ok h _ (.head _), zChk_ok h _ (.tail _ (.head _))⟩
theorem lkX4_74 : zLk RX4 74 xX2_holdsLetter 0 := zLk_of [309, 74] (by decide +kernel) wcX2_holdsLetter pdX2_holdsLetter
theorem lkX2_22 : zLk RX2 22 xX2_holdsLetter 0 := zLk_of [285, 74] (by decide +kernel) wcX2_holdsLetter pdX2_holdsLetter
set_option maxRecDepth 100000 in
theorem wcX2_holdsNothing : Cond.code xX2_holdsNothing.1 xX2_holdsNothing.2.1 xX2_holdsNothing.2.2.1 xX2_holdsNothing.2.2.2.1 ∈ zT := zT_of (i := 292) rfl rfl
theorem pdX2_holdsNothing : xX2_holdsNothing.1.cls ≠ "java/lang/invoke/MethodHandle" ∧ xX2_holdsNothing.1.cls ≠ "java/lang/invoke/VarHandle" ∧ (parseMethodDescriptor xX2_holdsNothing.1.desc).map (fun d => d.parameters.length) = some 0 := by decide +kernel
theorem ivX2_holdsNothing : Cond.instanceMethod xX2_holdsNothing.1 ∈ zT ∧ Cond.selects xX2_holdsNothing.1.cls xX2_holdsNothing.1 xX2_holdsNothing.1 ∈ zT := have h : zChk [290, 291] [Cond.instanceMethod xX2_holdsNothing.1, Cond.selects xX2_holdsNothing.1.cls xX2_holdsNothing.1 xX2_holdsNothing.1] = true := by decide +kernel
  ⟨zChk_ok h _ (.head _), zChk_ok h _ (.tail _ (.head _))⟩
theorem lkX4_78 : zLk RX4 78 xX2_holdsNothing 0 := zLk_of [310, 74] (by decide +kernel) wcX2_holdsNothing pdX2_holdsNothing
theorem lkX2_26 : zLk RX2 26 xX2_holdsNothing 0 := zLk_of [289, 74] (by decide +kernel) wcX2_holdsNothing pdX2_holdsNothing
set_option maxRecDepth 100000 in
theorem wcX2_init : Cond.code xX2_init.1 xX2_init.2.1 xX2_init.2.2.1 xX2_init.2.2.2.1 ∈ zT := zT_of (i := 195) rfl rfl
theorem pdX2_init : xX2_init.1.cls ≠ "java/lang/invoke/MethodHandle" ∧ xX2_init.1.cls ≠ "java/lang/invoke/VarHandle" ∧ (parseMethodDescriptor xX2_init.1.desc).map (fun d => d.parameters.length) = some 0 := by decide +kernel
theorem iiX2_init : Cond.instanceMethod xX2_init.1 ∈ zT ∧ xX2_init.1.name = "<init>" ∧ xX2_init.2.2.2.1 = none := have h : zChk [194] [Cond.instanceMethod xX2_init.1] = true := by decide +kernel
  ⟨zChk_ok h _ (.head _), rfl, rfl⟩
theorem lkX4_32 : zLn RX4 32 xX2_init 0 := ⟨⟨"ReadOutAlongTheWay", by decide +kernel⟩, zChk_ok (ps := [74]) (ws := [Cond.initialized xX2_init.1.cls]) (by decide +kernel) _ (.head _), wcX2_init, pdX2_init⟩
set_option maxRecDepth 100000 in
theorem wcX2_put : Cond.code xX2_put.1 xX2_put.2.1 xX2_put.2.2.1 xX2_put.2.2.2.1 ∈ zT := zT_of (i := 300) rfl rfl
theorem pdX2_put : xX2_put.1.cls ≠ "java/lang/invoke/MethodHandle" ∧ xX2_put.1.cls ≠ "java/lang/invoke/VarHandle" ∧ (parseMethodDescriptor xX2_put.1.desc).map (fun d => d.parameters.length) = some 2 := by decide +kernel
theorem ivX2_put : Cond.instanceMethod xX2_put.1 ∈ zT ∧ Cond.selects xX2_put.1.cls xX2_put.1 xX2_put.1 ∈ zT := have h : zChk [298, 299] [Cond.instanceMethod xX2_put.1, Cond.selects xX2_put.1.cls xX2_put.1 xX2_put.1] = true := by decide +kernel
  ⟨zChk_ok h _ (.head _), zChk_ok h _ (.tail _ (.head _))⟩
theorem lkX4_70 : zLk RX4 70 xX2_put 2 := zLk_of [297, 74] (by decide +kernel) wcX2_put pdX2_put
set_option maxRecDepth 100000 in
theorem wcX2_rowFault : Cond.code xX2_rowFault.1 xX2_rowFault.2.1 xX2_rowFault.2.2.1 xX2_rowFault.2.2.2.1 ∈ zT := zT_of (i := 284) rfl rfl
theorem pdX2_rowFault : xX2_rowFault.1.cls ≠ "java/lang/invoke/MethodHandle" ∧ xX2_rowFault.1.cls ≠ "java/lang/invoke/VarHandle" ∧ (parseMethodDescriptor xX2_rowFault.1.desc).map (fun d => d.parameters.length) = some 1 := by decide +kernel
theorem ivX2_rowFault : Cond.instanceMethod xX2_rowFault.1 ∈ zT ∧ Cond.selects xX2_rowFault.1.cls xX2_rowFault.1 xX2_rowFault.1 ∈ zT := have h : zChk [282, 283] [Cond.instanceMethod xX2_rowFault.1, Cond.selects xX2_rowFault.1.cls xX2_rowFault.1 xX2_rowFault.1] = true := by decide +kernel
  ⟨zChk_ok h _ (.head _), zChk_ok h _ (.tail _ (.head _))⟩
theorem lkX4_64 : zLk RX4 64 xX2_rowFault 1 := zLk_of [281, 74] (by decide +kernel) wcX2_rowFault pdX2_rowFault
set_option maxRecDepth 100000 in
theorem wcX2_shownLetter : Cond.code xX2_shownLetter.1 xX2_shownLetter.2.1 xX2_shownLetter.2.2.1 xX2_shownLetter.2.2.2.1 ∈ zT := zT_of (i := 352) rfl rfl
theorem pdX2_shownLetter : xX2_shownLetter.1.cls ≠ "java/lang/invoke/MethodHandle" ∧ xX2_shownLetter.1.cls ≠ "java/lang/invoke/VarHandle" ∧ (parseMethodDescriptor xX2_shownLetter.1.desc).map (fun d => d.parameters.length) = some 0 := by decide +kernel
theorem ivX2_shownLetter : Cond.instanceMethod xX2_shownLetter.1 ∈ zT ∧ Cond.selects xX2_shownLetter.1.cls xX2_shownLetter.1 xX2_shownLetter.1 ∈ zT := have h : zChk [350, 351] [Cond.instanceMethod xX2_shownLetter.1, Cond.selects xX2_shownLetter.1.cls xX2_shownLetter.1 xX2_shownLetter.1] = true := by decide +kernel
  ⟨zChk_ok h _ (.head _), zChk_ok h _ (.tail _ (.head _))⟩
theorem lkX4_112 : zLk RX4 112 xX2_shownLetter 0 := zLk_of [349, 74] (by decide +kernel) wcX2_shownLetter pdX2_shownLetter
set_option maxRecDepth 100000 in
theorem wcX2_takeLetter : Cond.code xX2_takeLetter.1 xX2_takeLetter.2.1 xX2_takeLetter.2.2.1 xX2_takeLetter.2.2.2.1 ∈ zT := zT_of (i := 341) rfl rfl
theorem pdX2_takeLetter : xX2_takeLetter.1.cls ≠ "java/lang/invoke/MethodHandle" ∧ xX2_takeLetter.1.cls ≠ "java/lang/invoke/VarHandle" ∧ (parseMethodDescriptor xX2_takeLetter.1.desc).map (fun d => d.parameters.length) = some 1 := by decide +kernel
theorem ivX2_takeLetter : Cond.instanceMethod xX2_takeLetter.1 ∈ zT ∧ Cond.selects xX2_takeLetter.1.cls xX2_takeLetter.1 xX2_takeLetter.1 ∈ zT := have h : zChk [339, 340] [Cond.instanceMethod xX2_takeLetter.1, Cond.selects xX2_takeLetter.1.cls xX2_takeLetter.1 xX2_takeLetter.1] = true := by decide +kernel
  ⟨zChk_ok h _ (.head _), zChk_ok h _ (.tail _ (.head _))⟩
theorem lkX4_105 : zLk RX4 105 xX2_takeLetter 1 := zLk_of [338, 74] (by decide +kernel) wcX2_takeLetter pdX2_takeLetter
set_option maxRecDepth 100000 in
theorem wcX2_takeRow : Cond.code xX2_takeRow.1 xX2_takeRow.2.1 xX2_takeRow.2.2.1 xX2_takeRow.2.2.2.1 ∈ zT := zT_of (i := 276) rfl rfl
theorem pdX2_takeRow : xX2_takeRow.1.cls ≠ "java/lang/invoke/MethodHandle" ∧ xX2_takeRow.1.cls ≠ "java/lang/invoke/VarHandle" ∧ (parseMethodDescriptor xX2_takeRow.1.desc).map (fun d => d.parameters.length) = some 2 := by decide +kernel
theorem ivX2_takeRow : Cond.instanceMethod xX2_takeRow.1 ∈ zT ∧ Cond.selects xX2_takeRow.1.cls xX2_takeRow.1 xX2_takeRow.1 ∈ zT := have h : zChk [274, 275] [Cond.instanceMethod xX2_takeRow.1, Cond.selects xX2_takeRow.1.cls xX2_takeRow.1 xX2_takeRow.1] = true := by decide +kernel
  ⟨zChk_ok h _ (.head _), zChk_ok h _ (.tail _ (.head _))⟩
theorem lkX4_60 : zLk RX4 60 xX2_takeRow 2 := zLk_of [273, 74] (by decide +kernel) wcX2_takeRow pdX2_takeRow
set_option maxRecDepth 100000 in
theorem wcX3_append : Cond.code xX3_append.1 xX3_append.2.1 xX3_append.2.2.1 xX3_append.2.2.2.1 ∈ zT := zT_of (i := 451) rfl rfl
theorem pdX3_append : xX3_append.1.cls ≠ "java/lang/invoke/MethodHandle" ∧ xX3_append.1.cls ≠ "java/lang/invoke/VarHandle" ∧ (parseMethodDescriptor xX3_append.1.desc).map (fun d => d.parameters.length) = some 1 := by decide +kernel
theorem ivX3_append : Cond.instanceMethod xX3_append.1 ∈ zT ∧ Cond.selects xX3_append.1.cls xX3_append.1 xX3_append.1 ∈ zT := have h : zChk [449, 450] [Cond.instanceMethod xX3_append.1, Cond.selects xX3_append.1.cls xX3_append.1 xX3_append.1] = true := by decide +kernel
  ⟨zChk_ok h _ (.head _), zChk_ok h _ (.tail _ (.head _))⟩
theorem lkX4_171 : zLk RX4 171 xX3_append 1 := zLk_of [448, 75] (by decide +kernel) wcX3_append pdX3_append
set_option maxRecDepth 100000 in
theorem wcX3_blame : Cond.code xX3_blame.1 xX3_blame.2.1 xX3_blame.2.2.1 xX3_blame.2.2.2.1 ∈ zT := zT_of (i := 493) rfl rfl
theorem pdX3_blame : xX3_blame.1.cls ≠ "java/lang/invoke/MethodHandle" ∧ xX3_blame.1.cls ≠ "java/lang/invoke/VarHandle" ∧ (parseMethodDescriptor xX3_blame.1.desc).map (fun d => d.parameters.length) = some 1 := by decide +kernel
theorem ivX3_blame : Cond.instanceMethod xX3_blame.1 ∈ zT ∧ Cond.selects xX3_blame.1.cls xX3_blame.1 xX3_blame.1 ∈ zT := have h : zChk [492, 11] [Cond.instanceMethod xX3_blame.1, Cond.selects xX3_blame.1.cls xX3_blame.1 xX3_blame.1] = true := by decide +kernel
  ⟨zChk_ok h _ (.head _), zChk_ok h _ (.tail _ (.head _))⟩
theorem lkX3_42 : zLk RX3 42 xX3_blame 1 := zLk_of [490, 75] (by decide +kernel) wcX3_blame pdX3_blame
set_option maxRecDepth 100000 in
theorem wcX3_empty : Cond.code xX3_empty.1 xX3_empty.2.1 xX3_empty.2.2.1 xX3_empty.2.2.2.1 ∈ zT := zT_of (i := 460) rfl rfl
theorem pdX3_empty : xX3_empty.1.cls ≠ "java/lang/invoke/MethodHandle" ∧ xX3_empty.1.cls ≠ "java/lang/invoke/VarHandle" ∧ (parseMethodDescriptor xX3_empty.1.desc).map (fun d => d.parameters.length) = some 0 := by decide +kernel
theorem ivX3_empty : Cond.instanceMethod xX3_empty.1 ∈ zT ∧ Cond.selects xX3_empty.1.cls xX3_empty.1 xX3_empty.1 ∈ zT := have h : zChk [458, 459] [Cond.instanceMethod xX3_empty.1, Cond.selects xX3_empty.1.cls xX3_empty.1 xX3_empty.1] = true := by decide +kernel
  ⟨zChk_ok h _ (.head _), zChk_ok h _ (.tail _ (.head _))⟩
theorem lkX4_174 : zLk RX4 174 xX3_empty 0 := zLk_of [457, 75] (by decide +kernel) wcX3_empty pdX3_empty
set_option maxRecDepth 100000 in
theorem wcX3_fault : Cond.code xX3_fault.1 xX3_fault.2.1 xX3_fault.2.2.1 xX3_fault.2.2.2.1 ∈ zT := zT_of (i := 584) rfl rfl
theorem pdX3_fault : xX3_fault.1.cls ≠ "java/lang/invoke/MethodHandle" ∧ xX3_fault.1.cls ≠ "java/lang/invoke/VarHandle" ∧ (parseMethodDescriptor xX3_fault.1.desc).map (fun d => d.parameters.length) = some 0 := by decide +kernel
theorem ivX3_fault : Cond.instanceMethod xX3_fault.1 ∈ zT ∧ Cond.selects xX3_fault.1.cls xX3_fault.1 xX3_fault.1 ∈ zT := have h : zChk [582, 583] [Cond.instanceMethod xX3_fault.1, Cond.selects xX3_fault.1.cls xX3_fault.1 xX3_fault.1] = true := by decide +kernel
  ⟨zChk_ok h _ (.head _), zChk_ok h _ (.tail _ (.head _))⟩
theorem lkX4_185 : zLk RX4 185 xX3_fault 0 := zLk_of [581, 75] (by decide +kernel) wcX3_fault pdX3_fault
set_option maxRecDepth 100000 in
theorem wcX3_hasRoom : Cond.code xX3_hasRoom.1 xX3_hasRoom.2.1 xX3_hasRoom.2.2.1 xX3_hasRoom.2.2.2.1 ∈ zT := zT_of (i := 447) rfl rfl
theorem pdX3_hasRoom : xX3_hasRoom.1.cls ≠ "java/lang/invoke/MethodHandle" ∧ xX3_hasRoom.1.cls ≠ "java/lang/invoke/VarHandle" ∧ (parseMethodDescriptor xX3_hasRoom.1.desc).map (fun d => d.parameters.length) = some 0 := by decide +kernel
theorem ivX3_hasRoom : Cond.instanceMethod xX3_hasRoom.1 ∈ zT ∧ Cond.selects xX3_hasRoom.1.cls xX3_hasRoom.1 xX3_hasRoom.1 ∈ zT := have h : zChk [445, 446] [Cond.instanceMethod xX3_hasRoom.1, Cond.selects xX3_hasRoom.1.cls xX3_hasRoom.1 xX3_hasRoom.1] = true := by decide +kernel
  ⟨zChk_ok h _ (.head _), zChk_ok h _ (.tail _ (.head _))⟩
theorem lkX4_170 : zLk RX4 170 xX3_hasRoom 0 := zLk_of [444, 75] (by decide +kernel) wcX3_hasRoom pdX3_hasRoom
theorem lkX3_31 : zLk RX3 31 xX3_hasRoom 0 := zLk_of [452, 75] (by decide +kernel) wcX3_hasRoom pdX3_hasRoom
set_option maxRecDepth 100000 in
theorem wcX3_init : Cond.code xX3_init.1 xX3_init.2.1 xX3_init.2.2.1 xX3_init.2.2.2.1 ∈ zT := zT_of (i := 215) rfl rfl
theorem pdX3_init : xX3_init.1.cls ≠ "java/lang/invoke/MethodHandle" ∧ xX3_init.1.cls ≠ "java/lang/invoke/VarHandle" ∧ (parseMethodDescriptor xX3_init.1.desc).map (fun d => d.parameters.length) = some 0 := by decide +kernel
theorem iiX3_init : Cond.instanceMethod xX3_init.1 ∈ zT ∧ xX3_init.1.name = "<init>" ∧ xX3_init.2.2.2.1 = none := have h : zChk [214] [Cond.instanceMethod xX3_init.1] = true := by decide +kernel
  ⟨zChk_ok h _ (.head _), rfl, rfl⟩
theorem lkX4_35 : zLn RX4 35 xX3_init 0 := ⟨⟨"ReadOutAlongTheWay", by decide +kernel⟩, zChk_ok (ps := [75]) (ws := [Cond.initialized xX3_init.1.cls]) (by decide +kernel) _ (.head _), wcX3_init, pdX3_init⟩
set_option maxRecDepth 100000 in
theorem wcX3_isWord : Cond.code xX3_isWord.1 xX3_isWord.2.1 xX3_isWord.2.2.1 xX3_isWord.2.2.2.1 ∈ zT := zT_of (i := 498) rfl rfl
theorem pdX3_isWord : xX3_isWord.1.cls ≠ "java/lang/invoke/MethodHandle" ∧ xX3_isWord.1.cls ≠ "java/lang/invoke/VarHandle" ∧ (parseMethodDescriptor xX3_isWord.1.desc).map (fun d => d.parameters.length) = some 1 := by decide +kernel
theorem ivX3_isWord : Cond.instanceMethod xX3_isWord.1 ∈ zT ∧ Cond.selects xX3_isWord.1.cls xX3_isWord.1 xX3_isWord.1 ∈ zT := have h : zChk [497, 12] [Cond.instanceMethod xX3_isWord.1, Cond.selects xX3_isWord.1.cls xX3_isWord.1 xX3_isWord.1] = true := by decide +kernel
  ⟨zChk_ok h _ (.head _), zChk_ok h _ (.tail _ (.head _))⟩
theorem lkX3_48 : zLk RX3 48 xX3_isWord 1 := zLk_of [495, 75] (by decide +kernel) wcX3_isWord pdX3_isWord
set_option maxRecDepth 100000 in
theorem wcX3_readCode : Cond.code xX3_readCode.1 xX3_readCode.2.1 xX3_readCode.2.2.1 xX3_readCode.2.2.2.1 ∈ zT := zT_of (i := 572) rfl rfl
theorem pdX3_readCode : xX3_readCode.1.cls ≠ "java/lang/invoke/MethodHandle" ∧ xX3_readCode.1.cls ≠ "java/lang/invoke/VarHandle" ∧ (parseMethodDescriptor xX3_readCode.1.desc).map (fun d => d.parameters.length) = some 1 := by decide +kernel
theorem ivX3_readCode : Cond.instanceMethod xX3_readCode.1 ∈ zT ∧ Cond.selects xX3_readCode.1.cls xX3_readCode.1 xX3_readCode.1 ∈ zT := have h : zChk [571, 17] [Cond.instanceMethod xX3_readCode.1, Cond.selects xX3_readCode.1.cls xX3_readCode.1 xX3_readCode.1] = true := by decide +kernel
  ⟨zChk_ok h _ (.head _), zChk_ok h _ (.tail _ (.head _))⟩
theorem lkX3_76 : zLk RX3 76 xX3_readCode 1 := zLk_of [569, 75] (by decide +kernel) wcX3_readCode pdX3_readCode
set_option maxRecDepth 100000 in
theorem wcX3_readCold : Cond.code xX3_readCold.1 xX3_readCold.2.1 xX3_readCold.2.2.1 xX3_readCold.2.2.2.1 ∈ zT := zT_of (i := 578) rfl rfl
theorem pdX3_readCold : xX3_readCold.1.cls ≠ "java/lang/invoke/MethodHandle" ∧ xX3_readCold.1.cls ≠ "java/lang/invoke/VarHandle" ∧ (parseMethodDescriptor xX3_readCold.1.desc).map (fun d => d.parameters.length) = some 1 := by decide +kernel
theorem ivX3_readCold : Cond.instanceMethod xX3_readCold.1 ∈ zT ∧ Cond.selects xX3_readCold.1.cls xX3_readCold.1 xX3_readCold.1 ∈ zT := have h : zChk [577, 18] [Cond.instanceMethod xX3_readCold.1, Cond.selects xX3_readCold.1.cls xX3_readCold.1 xX3_readCold.1] = true := by decide +kernel
  ⟨zChk_ok h _ (.head _), zChk_ok h _ (.tail _ (.head _))⟩
theorem lkX3_81 : zLk RX3 81 xX3_readCold 1 := zLk_of [575, 75] (by decide +kernel) wcX3_readCold pdX3_readCold
set_option maxRecDepth 100000 in
theorem wcX3_readHouses : Cond.code xX3_readHouses.1 xX3_readHouses.2.1 xX3_readHouses.2.2.1 xX3_readHouses.2.2.2.1 ∈ zT := zT_of (i := 550) rfl rfl
theorem pdX3_readHouses : xX3_readHouses.1.cls ≠ "java/lang/invoke/MethodHandle" ∧ xX3_readHouses.1.cls ≠ "java/lang/invoke/VarHandle" ∧ (parseMethodDescriptor xX3_readHouses.1.desc).map (fun d => d.parameters.length) = some 1 := by decide +kernel
theorem ivX3_readHouses : Cond.instanceMethod xX3_readHouses.1 ∈ zT ∧ Cond.selects xX3_readHouses.1.cls xX3_readHouses.1 xX3_readHouses.1 ∈ zT := have h : zChk [549, 13] [Cond.instanceMethod xX3_readHouses.1, Cond.selects xX3_readHouses.1.cls xX3_readHouses.1 xX3_readHouses.1] = true := by decide +kernel
  ⟨zChk_ok h _ (.head _), zChk_ok h _ (.tail _ (.head _))⟩
theorem lkX3_52 : zLk RX3 52 xX3_readHouses 1 := zLk_of [547, 75] (by decide +kernel) wcX3_readHouses pdX3_readHouses
set_option maxRecDepth 100000 in
theorem wcX3_readInto : Cond.code xX3_readInto.1 xX3_readInto.2.1 xX3_readInto.2.2.1 xX3_readInto.2.2.2.1 ∈ zT := zT_of (i := 477) rfl rfl
theorem pdX3_readInto : xX3_readInto.1.cls ≠ "java/lang/invoke/MethodHandle" ∧ xX3_readInto.1.cls ≠ "java/lang/invoke/VarHandle" ∧ (parseMethodDescriptor xX3_readInto.1.desc).map (fun d => d.parameters.length) = some 1 := by decide +kernel
theorem ivX3_readInto : Cond.instanceMethod xX3_readInto.1 ∈ zT ∧ Cond.selects xX3_readInto.1.cls xX3_readInto.1 xX3_readInto.1 ∈ zT := have h : zChk [475, 476] [Cond.instanceMethod xX3_readInto.1, Cond.selects xX3_readInto.1.cls xX3_readInto.1 xX3_readInto.1] = true := by decide +kernel
  ⟨zChk_ok h _ (.head _), zChk_ok h _ (.tail _ (.head _))⟩
theorem lkX4_181 : zLk RX4 181 xX3_readInto 1 := zLk_of [474, 75] (by decide +kernel) wcX3_readInto pdX3_readInto
set_option maxRecDepth 100000 in
theorem wcX3_readIntoHouse : Cond.code xX3_readIntoHouse.1 xX3_readIntoHouse.2.1 xX3_readIntoHouse.2.2.1 xX3_readIntoHouse.2.2.2.1 ∈ zT := zT_of (i := 566) rfl rfl
theorem pdX3_readIntoHouse : xX3_readIntoHouse.1.cls ≠ "java/lang/invoke/MethodHandle" ∧ xX3_readIntoHouse.1.cls ≠ "java/lang/invoke/VarHandle" ∧ (parseMethodDescriptor xX3_readIntoHouse.1.desc).map (fun d => d.parameters.length) = some 2 := by decide +kernel
theorem ivX3_readIntoHouse : Cond.instanceMethod xX3_readIntoHouse.1 ∈ zT ∧ Cond.selects xX3_readIntoHouse.1.cls xX3_readIntoHouse.1 xX3_readIntoHouse.1 ∈ zT := have h : zChk [565, 16] [Cond.instanceMethod xX3_readIntoHouse.1, Cond.selects xX3_readIntoHouse.1.cls xX3_readIntoHouse.1 xX3_readIntoHouse.1] = true := by decide +kernel
  ⟨zChk_ok h _ (.head _), zChk_ok h _ (.tail _ (.head _))⟩
theorem lkX3_66 : zLk RX3 66 xX3_readIntoHouse 2 := zLk_of [563, 75] (by decide +kernel) wcX3_readIntoHouse pdX3_readIntoHouse
set_option maxRecDepth 100000 in
theorem wcX3_readLetter : Cond.code xX3_readLetter.1 xX3_readLetter.2.1 xX3_readLetter.2.2.1 xX3_readLetter.2.2.2.1 ∈ zT := zT_of (i := 559) rfl rfl
theorem pdX3_readLetter : xX3_readLetter.1.cls ≠ "java/lang/invoke/MethodHandle" ∧ xX3_readLetter.1.cls ≠ "java/lang/invoke/VarHandle" ∧ (parseMethodDescriptor xX3_readLetter.1.desc).map (fun d => d.parameters.length) = some 1 := by decide +kernel
theorem ivX3_readLetter : Cond.instanceMethod xX3_readLetter.1 ∈ zT ∧ Cond.selects xX3_readLetter.1.cls xX3_readLetter.1 xX3_readLetter.1 ∈ zT := have h : zChk [558, 15] [Cond.instanceMethod xX3_readLetter.1, Cond.selects xX3_readLetter.1.cls xX3_readLetter.1 xX3_readLetter.1] = true := by decide +kernel
  ⟨zChk_ok h _ (.head _), zChk_ok h _ (.tail _ (.head _))⟩
theorem lkX3_57 : zLk RX3 57 xX3_readLetter 1 := zLk_of [556, 75] (by decide +kernel) wcX3_readLetter pdX3_readLetter
set_option maxRecDepth 100000 in
theorem wcX3_readNumber : Cond.code xX3_readNumber.1 xX3_readNumber.2.1 xX3_readNumber.2.2.1 xX3_readNumber.2.2.2.1 ∈ zT := zT_of (i := 554) rfl rfl
theorem pdX3_readNumber : xX3_readNumber.1.cls ≠ "java/lang/invoke/MethodHandle" ∧ xX3_readNumber.1.cls ≠ "java/lang/invoke/VarHandle" ∧ (parseMethodDescriptor xX3_readNumber.1.desc).map (fun d => d.parameters.length) = some 2 := by decide +kernel
theorem ivX3_readNumber : Cond.instanceMethod xX3_readNumber.1 ∈ zT ∧ Cond.selects xX3_readNumber.1.cls xX3_readNumber.1 xX3_readNumber.1 ∈ zT := have h : zChk [553, 14] [Cond.instanceMethod xX3_readNumber.1, Cond.selects xX3_readNumber.1.cls xX3_readNumber.1 xX3_readNumber.1] = true := by decide +kernel
  ⟨zChk_ok h _ (.head _), zChk_ok h _ (.tail _ (.head _))⟩
theorem lkX3_93 : zLk RX3 93 xX3_readNumber 2 := zLk_of [551, 75] (by decide +kernel) wcX3_readNumber pdX3_readNumber
set_option maxRecDepth 100000 in
theorem wcX3_readStatement : Cond.code xX3_readStatement.1 xX3_readStatement.2.1 xX3_readStatement.2.2.1 xX3_readStatement.2.2.2.1 ∈ zT := zT_of (i := 489) rfl rfl
theorem pdX3_readStatement : xX3_readStatement.1.cls ≠ "java/lang/invoke/MethodHandle" ∧ xX3_readStatement.1.cls ≠ "java/lang/invoke/VarHandle" ∧ (parseMethodDescriptor xX3_readStatement.1.desc).map (fun d => d.parameters.length) = some 1 := by decide +kernel
theorem ivX3_readStatement : Cond.instanceMethod xX3_readStatement.1 ∈ zT ∧ Cond.selects xX3_readStatement.1.cls xX3_readStatement.1 xX3_readStatement.1 ∈ zT := have h : zChk [488, 10] [Cond.instanceMethod xX3_readStatement.1, Cond.selects xX3_readStatement.1.cls xX3_readStatement.1 xX3_readStatement.1] = true := by decide +kernel
  ⟨zChk_ok h _ (.head _), zChk_ok h _ (.tail _ (.head _))⟩
theorem lkX3_38 : zLk RX3 38 xX3_readStatement 1 := zLk_of [486, 75] (by decide +kernel) wcX3_readStatement pdX3_readStatement
set_option maxRecDepth 100000 in
theorem wcX3_size : Cond.code xX3_size.1 xX3_size.2.1 xX3_size.2.2.1 xX3_size.2.2.2.1 ∈ zT := zT_of (i := 1012) rfl rfl
theorem pdX3_size : xX3_size.1.cls ≠ "java/lang/invoke/MethodHandle" ∧ xX3_size.1.cls ≠ "java/lang/invoke/VarHandle" ∧ (parseMethodDescriptor xX3_size.1.desc).map (fun d => d.parameters.length) = some 0 := by decide +kernel
theorem ivX3_size : Cond.instanceMethod xX3_size.1 ∈ zT ∧ Cond.selects xX3_size.1.cls xX3_size.1 xX3_size.1 ∈ zT := have h : zChk [1010, 1011] [Cond.instanceMethod xX3_size.1, Cond.selects xX3_size.1.cls xX3_size.1 xX3_size.1] = true := by decide +kernel
  ⟨zChk_ok h _ (.head _), zChk_ok h _ (.tail _ (.head _))⟩
theorem lkX4_369 : zLk RX4 369 xX3_size 0 := zLk_of [1009, 75] (by decide +kernel) wcX3_size pdX3_size
set_option maxRecDepth 100000 in
theorem wcX3_sortAt : Cond.code xX3_sortAt.1 xX3_sortAt.2.1 xX3_sortAt.2.2.1 xX3_sortAt.2.2.2.1 ∈ zT := zT_of (i := 485) rfl rfl
theorem pdX3_sortAt : xX3_sortAt.1.cls ≠ "java/lang/invoke/MethodHandle" ∧ xX3_sortAt.1.cls ≠ "java/lang/invoke/VarHandle" ∧ (parseMethodDescriptor xX3_sortAt.1.desc).map (fun d => d.parameters.length) = some 1 := by decide +kernel
theorem ivX3_sortAt : Cond.instanceMethod xX3_sortAt.1 ∈ zT ∧ Cond.selects xX3_sortAt.1.cls xX3_sortAt.1 xX3_sortAt.1 ∈ zT := have h : zChk [484, 9] [Cond.instanceMethod xX3_sortAt.1, Cond.selects xX3_sortAt.1.cls xX3_sortAt.1 xX3_sortAt.1] = true := by decide +kernel
  ⟨zChk_ok h _ (.head _), zChk_ok h _ (.tail _ (.head _))⟩
theorem lkX3_108 : zLk RX3 108 xX3_sortAt 1 := zLk_of [482, 75] (by decide +kernel) wcX3_sortAt pdX3_sortAt
set_option maxRecDepth 100000 in
theorem wcX3_step : Cond.code xX3_step.1 xX3_step.2.1 xX3_step.2.2.1 xX3_step.2.2.2.1 ∈ zT := zT_of (i := 481) rfl rfl
theorem pdX3_step : xX3_step.1.cls ≠ "java/lang/invoke/MethodHandle" ∧ xX3_step.1.cls ≠ "java/lang/invoke/VarHandle" ∧ (parseMethodDescriptor xX3_step.1.desc).map (fun d => d.parameters.length) = some 0 := by decide +kernel
theorem ivX3_step : Cond.instanceMethod xX3_step.1 ∈ zT ∧ Cond.selects xX3_step.1.cls xX3_step.1 xX3_step.1 ∈ zT := have h : zChk [480, 8] [Cond.instanceMethod xX3_step.1, Cond.selects xX3_step.1.cls xX3_step.1 xX3_step.1] = true := by decide +kernel
  ⟨zChk_ok h _ (.head _), zChk_ok h _ (.tail _ (.head _))⟩
theorem lkX3_35 : zLk RX3 35 xX3_step 0 := zLk_of [478, 75] (by decide +kernel) wcX3_step pdX3_step
set_option maxRecDepth 100000 in
theorem wcX4_address : Cond.code xX4_address.1 xX4_address.2.1 xX4_address.2.2.1 xX4_address.2.2.2.1 ∈ zT := zT_of (i := 668) rfl rfl
theorem pdX4_address : xX4_address.1.cls ≠ "java/lang/invoke/MethodHandle" ∧ xX4_address.1.cls ≠ "java/lang/invoke/VarHandle" ∧ (parseMethodDescriptor xX4_address.1.desc).map (fun d => d.parameters.length) = some 2 := by decide +kernel
theorem ivX4_address : Cond.instanceMethod xX4_address.1 ∈ zT ∧ Cond.selects xX4_address.1.cls xX4_address.1 xX4_address.1 ∈ zT := have h : zChk [666, 667] [Cond.instanceMethod xX4_address.1, Cond.selects xX4_address.1.cls xX4_address.1 xX4_address.1] = true := by decide +kernel
  ⟨zChk_ok h _ (.head _), zChk_ok h _ (.tail _ (.head _))⟩
theorem lkL_133 : zLk RL 133 xX4_address 2 := zLk_of [665, 71] (by decide +kernel) wcX4_address pdX4_address
set_option maxRecDepth 100000 in
theorem wcX4_alike : Cond.code xX4_alike.1 xX4_alike.2.1 xX4_alike.2.2.1 xX4_alike.2.2.2.1 ∈ zT := zT_of (i := 894) rfl rfl
theorem pdX4_alike : xX4_alike.1.cls ≠ "java/lang/invoke/MethodHandle" ∧ xX4_alike.1.cls ≠ "java/lang/invoke/VarHandle" ∧ (parseMethodDescriptor xX4_alike.1.desc).map (fun d => d.parameters.length) = some 2 := by decide +kernel
theorem ivX4_alike : Cond.instanceMethod xX4_alike.1 ∈ zT ∧ Cond.selects xX4_alike.1.cls xX4_alike.1 xX4_alike.1 ∈ zT := have h : zChk [892, 893] [Cond.instanceMethod xX4_alike.1, Cond.selects xX4_alike.1.cls xX4_alike.1 xX4_alike.1] = true := by decide +kernel
  ⟨zChk_ok h _ (.head _), zChk_ok h _ (.tail _ (.head _))⟩
theorem lkL_217 : zLk RL 217 xX4_alike 2 := zLk_of [891, 71] (by decide +kernel) wcX4_alike pdX4_alike
set_option maxRecDepth 100000 in
theorem wcX4_answer : Cond.code xX4_answer.1 xX4_answer.2.1 xX4_answer.2.2.1 xX4_answer.2.2.2.1 ∈ zT := zT_of (i := 805) rfl rfl
theorem pdX4_answer : xX4_answer.1.cls ≠ "java/lang/invoke/MethodHandle" ∧ xX4_answer.1.cls ≠ "java/lang/invoke/VarHandle" ∧ (parseMethodDescriptor xX4_answer.1.desc).map (fun d => d.parameters.length) = some 5 := by decide +kernel
theorem ivX4_answer : Cond.instanceMethod xX4_answer.1 ∈ zT ∧ Cond.selects xX4_answer.1.cls xX4_answer.1 xX4_answer.1 ∈ zT := have h : zChk [803, 804] [Cond.instanceMethod xX4_answer.1, Cond.selects xX4_answer.1.cls xX4_answer.1 xX4_answer.1] = true := by decide +kernel
  ⟨zChk_ok h _ (.head _), zChk_ok h _ (.tail _ (.head _))⟩
theorem lkL_169 : zLk RL 169 xX4_answer 5 := zLk_of [802, 71] (by decide +kernel) wcX4_answer pdX4_answer
set_option maxRecDepth 100000 in
theorem wcX4_asNumber : Cond.code xX4_asNumber.1 xX4_asNumber.2.1 xX4_asNumber.2.2.1 xX4_asNumber.2.2.2.1 ∈ zT := zT_of (i := 439) rfl rfl
theorem pdX4_asNumber : xX4_asNumber.1.cls ≠ "java/lang/invoke/MethodHandle" ∧ xX4_asNumber.1.cls ≠ "java/lang/invoke/VarHandle" ∧ (parseMethodDescriptor xX4_asNumber.1.desc).map (fun d => d.parameters.length) = some 1 := by decide +kernel
theorem isX4_asNumber : Cond.static xX4_asNumber.1 ∈ zT := have h : zChk [438] [Cond.static xX4_asNumber.1] = true := by decide +kernel
  zChk_ok h _ (.head _)
theorem lkX4_166 : zLk RX4 166 xX4_asNumber 1 := zLk_of [437, 71] (by decide +kernel) wcX4_asNumber pdX4_asNumber
theorem lkX0_79 : zLn RX0 79 xX4_asNumber 1 := ⟨⟨"ReadOutAlongTheWay", by decide +kernel⟩, zChk_ok (ps := [71]) (ws := [Cond.initialized xX4_asNumber.1.cls]) (by decide +kernel) _ (.head _), wcX4_asNumber, pdX4_asNumber⟩
set_option maxRecDepth 100000 in
theorem wcX4_ask : Cond.code xX4_ask.1 xX4_ask.2.1 xX4_ask.2.2.1 xX4_ask.2.2.2.1 ∈ zT := zT_of (i := 757) rfl rfl
theorem pdX4_ask : xX4_ask.1.cls ≠ "java/lang/invoke/MethodHandle" ∧ xX4_ask.1.cls ≠ "java/lang/invoke/VarHandle" ∧ (parseMethodDescriptor xX4_ask.1.desc).map (fun d => d.parameters.length) = some 3 := by decide +kernel
theorem ivX4_ask : Cond.instanceMethod xX4_ask.1 ∈ zT ∧ Cond.selects xX4_ask.1.cls xX4_ask.1 xX4_ask.1 ∈ zT := have h : zChk [755, 756] [Cond.instanceMethod xX4_ask.1, Cond.selects xX4_ask.1.cls xX4_ask.1 xX4_ask.1] = true := by decide +kernel
  ⟨zChk_ok h _ (.head _), zChk_ok h _ (.tail _ (.head _))⟩
theorem lkL_157 : zLk RL 157 xX4_ask 3 := zLk_of [754, 71] (by decide +kernel) wcX4_ask pdX4_ask
set_option maxRecDepth 100000 in
theorem wcX4_back : Cond.code xX4_back.1 xX4_back.2.1 xX4_back.2.2.1 xX4_back.2.2.2.1 ∈ zT := zT_of (i := 1000) rfl rfl
theorem pdX4_back : xX4_back.1.cls ≠ "java/lang/invoke/MethodHandle" ∧ xX4_back.1.cls ≠ "java/lang/invoke/VarHandle" ∧ (parseMethodDescriptor xX4_back.1.desc).map (fun d => d.parameters.length) = some 0 := by decide +kernel
theorem ivX4_back : Cond.instanceMethod xX4_back.1 ∈ zT ∧ Cond.selects xX4_back.1.cls xX4_back.1 xX4_back.1 ∈ zT := have h : zChk [998, 999] [Cond.instanceMethod xX4_back.1, Cond.selects xX4_back.1.cls xX4_back.1 xX4_back.1] = true := by decide +kernel
  ⟨zChk_ok h _ (.head _), zChk_ok h _ (.tail _ (.head _))⟩
theorem lkL_273 : zLk RL 273 xX4_back 0 := zLk_of [997, 71] (by decide +kernel) wcX4_back pdX4_back
set_option maxRecDepth 100000 in
theorem wcX4_best : Cond.code xX4_best.1 xX4_best.2.1 xX4_best.2.2.1 xX4_best.2.2.2.1 ∈ zT := zT_of (i := 655) rfl rfl
theorem pdX4_best : xX4_best.1.cls ≠ "java/lang/invoke/MethodHandle" ∧ xX4_best.1.cls ≠ "java/lang/invoke/VarHandle" ∧ (parseMethodDescriptor xX4_best.1.desc).map (fun d => d.parameters.length) = some 1 := by decide +kernel
theorem ivX4_best : Cond.instanceMethod xX4_best.1 ∈ zT ∧ Cond.selects xX4_best.1.cls xX4_best.1 xX4_best.1 ∈ zT := have h : zChk [653, 654] [Cond.instanceMethod xX4_best.1, Cond.selects xX4_best.1.cls xX4_best.1 xX4_best.1] = true := by decide +kernel
  ⟨zChk_ok h _ (.head _), zChk_ok h _ (.tail _ (.head _))⟩
theorem lkL_129 : zLk RL 129 xX4_best 1 := zLk_of [652, 71] (by decide +kernel) wcX4_best pdX4_best
set_option maxRecDepth 100000 in
theorem wcX4_chance : Cond.code xX4_chance.1 xX4_chance.2.1 xX4_chance.2.2.1 xX4_chance.2.2.2.1 ∈ zT := zT_of (i := 810) rfl rfl
theorem pdX4_chance : xX4_chance.1.cls ≠ "java/lang/invoke/MethodHandle" ∧ xX4_chance.1.cls ≠ "java/lang/invoke/VarHandle" ∧ (parseMethodDescriptor xX4_chance.1.desc).map (fun d => d.parameters.length) = some 2 := by decide +kernel
theorem ivX4_chance : Cond.instanceMethod xX4_chance.1 ∈ zT ∧ Cond.selects xX4_chance.1.cls xX4_chance.1 xX4_chance.1 ∈ zT := have h : zChk [808, 809] [Cond.instanceMethod xX4_chance.1, Cond.selects xX4_chance.1.cls xX4_chance.1 xX4_chance.1] = true := by decide +kernel
  ⟨zChk_ok h _ (.head _), zChk_ok h _ (.tail _ (.head _))⟩
theorem lkL_173 : zLk RL 173 xX4_chance 2 := zLk_of [807, 71] (by decide +kernel) wcX4_chance pdX4_chance
set_option maxRecDepth 100000 in
theorem wcX4_code : Cond.code xX4_code.1 xX4_code.2.1 xX4_code.2.2.1 xX4_code.2.2.2.1 ∈ zT := zT_of (i := 424) rfl rfl
theorem pdX4_code : xX4_code.1.cls ≠ "java/lang/invoke/MethodHandle" ∧ xX4_code.1.cls ≠ "java/lang/invoke/VarHandle" ∧ (parseMethodDescriptor xX4_code.1.desc).map (fun d => d.parameters.length) = some 3 := by decide +kernel
theorem ivX4_code : Cond.instanceMethod xX4_code.1 ∈ zT ∧ Cond.selects xX4_code.1.cls xX4_code.1 xX4_code.1 ∈ zT := have h : zChk [422, 423] [Cond.instanceMethod xX4_code.1, Cond.selects xX4_code.1.cls xX4_code.1 xX4_code.1] = true := by decide +kernel
  ⟨zChk_ok h _ (.head _), zChk_ok h _ (.tail _ (.head _))⟩
theorem lkL_66 : zLk RL 66 xX4_code 3 := zLk_of [421, 71] (by decide +kernel) wcX4_code pdX4_code
set_option maxRecDepth 100000 in
theorem wcX4_cold : Cond.code xX4_cold.1 xX4_cold.2.1 xX4_cold.2.2.1 xX4_cold.2.2.2.1 ∈ zT := zT_of (i := 432) rfl rfl
theorem pdX4_cold : xX4_cold.1.cls ≠ "java/lang/invoke/MethodHandle" ∧ xX4_cold.1.cls ≠ "java/lang/invoke/VarHandle" ∧ (parseMethodDescriptor xX4_cold.1.desc).map (fun d => d.parameters.length) = some 1 := by decide +kernel
theorem ivX4_cold : Cond.instanceMethod xX4_cold.1 ∈ zT ∧ Cond.selects xX4_cold.1.cls xX4_cold.1 xX4_cold.1 ∈ zT := have h : zChk [430, 431] [Cond.instanceMethod xX4_cold.1, Cond.selects xX4_cold.1.cls xX4_cold.1 xX4_cold.1] = true := by decide +kernel
  ⟨zChk_ok h _ (.head _), zChk_ok h _ (.tail _ (.head _))⟩
theorem lkL_71 : zLk RL 71 xX4_cold 1 := zLk_of [429, 71] (by decide +kernel) wcX4_cold pdX4_cold
set_option maxRecDepth 100000 in
theorem wcX4_colds : Cond.code xX4_colds.1 xX4_colds.2.1 xX4_colds.2.2.1 xX4_colds.2.2.2.1 ∈ zT := zT_of (i := 847) rfl rfl
theorem pdX4_colds : xX4_colds.1.cls ≠ "java/lang/invoke/MethodHandle" ∧ xX4_colds.1.cls ≠ "java/lang/invoke/VarHandle" ∧ (parseMethodDescriptor xX4_colds.1.desc).map (fun d => d.parameters.length) = some 2 := by decide +kernel
theorem ivX4_colds : Cond.instanceMethod xX4_colds.1 ∈ zT ∧ Cond.selects xX4_colds.1.cls xX4_colds.1 xX4_colds.1 ∈ zT := have h : zChk [845, 846] [Cond.instanceMethod xX4_colds.1, Cond.selects xX4_colds.1.cls xX4_colds.1 xX4_colds.1] = true := by decide +kernel
  ⟨zChk_ok h _ (.head _), zChk_ok h _ (.tail _ (.head _))⟩
theorem lkL_189 : zLk RL 189 xX4_colds 2 := zLk_of [844, 71] (by decide +kernel) wcX4_colds pdX4_colds
set_option maxRecDepth 100000 in
theorem wcX4_common : Cond.code xX4_common.1 xX4_common.2.1 xX4_common.2.2.1 xX4_common.2.2.2.1 ∈ zT := zT_of (i := 946) rfl rfl
theorem pdX4_common : xX4_common.1.cls ≠ "java/lang/invoke/MethodHandle" ∧ xX4_common.1.cls ≠ "java/lang/invoke/VarHandle" ∧ (parseMethodDescriptor xX4_common.1.desc).map (fun d => d.parameters.length) = some 2 := by decide +kernel
theorem ivX4_common : Cond.instanceMethod xX4_common.1 ∈ zT ∧ Cond.selects xX4_common.1.cls xX4_common.1 xX4_common.1 ∈ zT := have h : zChk [944, 945] [Cond.instanceMethod xX4_common.1, Cond.selects xX4_common.1.cls xX4_common.1 xX4_common.1] = true := by decide +kernel
  ⟨zChk_ok h _ (.head _), zChk_ok h _ (.tail _ (.head _))⟩
theorem lkL_241 : zLk RL 241 xX4_common 2 := zLk_of [943, 71] (by decide +kernel) wcX4_common pdX4_common
set_option maxRecDepth 100000 in
theorem wcX4_copy : Cond.code xX4_copy.1 xX4_copy.2.1 xX4_copy.2.2.1 xX4_copy.2.2.2.1 ∈ zT := zT_of (i := 308) rfl rfl
theorem pdX4_copy : xX4_copy.1.cls ≠ "java/lang/invoke/MethodHandle" ∧ xX4_copy.1.cls ≠ "java/lang/invoke/VarHandle" ∧ (parseMethodDescriptor xX4_copy.1.desc).map (fun d => d.parameters.length) = some 5 := by decide +kernel
theorem ivX4_copy : Cond.instanceMethod xX4_copy.1 ∈ zT ∧ Cond.selects xX4_copy.1.cls xX4_copy.1 xX4_copy.1 ∈ zT := have h : zChk [306, 307] [Cond.instanceMethod xX4_copy.1, Cond.selects xX4_copy.1.cls xX4_copy.1 xX4_copy.1] = true := by decide +kernel
  ⟨zChk_ok h _ (.head _), zChk_ok h _ (.tail _ (.head _))⟩
theorem lkL_25 : zLk RL 25 xX4_copy 5 := zLk_of [305, 71] (by decide +kernel) wcX4_copy pdX4_copy
set_option maxRecDepth 100000 in
theorem wcX4_days : Cond.code xX4_days.1 xX4_days.2.1 xX4_days.2.2.1 xX4_days.2.2.2.1 ∈ zT := zT_of (i := 978) rfl rfl
theorem pdX4_days : xX4_days.1.cls ≠ "java/lang/invoke/MethodHandle" ∧ xX4_days.1.cls ≠ "java/lang/invoke/VarHandle" ∧ (parseMethodDescriptor xX4_days.1.desc).map (fun d => d.parameters.length) = some 1 := by decide +kernel
theorem ivX4_days : Cond.instanceMethod xX4_days.1 ∈ zT ∧ Cond.selects xX4_days.1.cls xX4_days.1 xX4_days.1 ∈ zT := have h : zChk [976, 977] [Cond.instanceMethod xX4_days.1, Cond.selects xX4_days.1.cls xX4_days.1 xX4_days.1] = true := by decide +kernel
  ⟨zChk_ok h _ (.head _), zChk_ok h _ (.tail _ (.head _))⟩
theorem lkL_261 : zLk RL 261 xX4_days 1 := zLk_of [975, 71] (by decide +kernel) wcX4_days pdX4_days
set_option maxRecDepth 100000 in
theorem wcX4_doubt : Cond.code xX4_doubt.1 xX4_doubt.2.1 xX4_doubt.2.2.1 xX4_doubt.2.2.2.1 ∈ zT := zT_of (i := 950) rfl rfl
theorem pdX4_doubt : xX4_doubt.1.cls ≠ "java/lang/invoke/MethodHandle" ∧ xX4_doubt.1.cls ≠ "java/lang/invoke/VarHandle" ∧ (parseMethodDescriptor xX4_doubt.1.desc).map (fun d => d.parameters.length) = some 1 := by decide +kernel
theorem ivX4_doubt : Cond.instanceMethod xX4_doubt.1 ∈ zT ∧ Cond.selects xX4_doubt.1.cls xX4_doubt.1 xX4_doubt.1 ∈ zT := have h : zChk [948, 949] [Cond.instanceMethod xX4_doubt.1, Cond.selects xX4_doubt.1.cls xX4_doubt.1 xX4_doubt.1] = true := by decide +kernel
  ⟨zChk_ok h _ (.head _), zChk_ok h _ (.tail _ (.head _))⟩
theorem lkL_245 : zLk RL 245 xX4_doubt 1 := zLk_of [947, 71] (by decide +kernel) wcX4_doubt pdX4_doubt
set_option maxRecDepth 100000 in
theorem wcX4_dropMissingLetters : Cond.code xX4_dropMissingLetters.1 xX4_dropMissingLetters.2.1 xX4_dropMissingLetters.2.2.1 xX4_dropMissingLetters.2.2.2.1 ∈ zT := zT_of (i := 970) rfl rfl
theorem pdX4_dropMissingLetters : xX4_dropMissingLetters.1.cls ≠ "java/lang/invoke/MethodHandle" ∧ xX4_dropMissingLetters.1.cls ≠ "java/lang/invoke/VarHandle" ∧ (parseMethodDescriptor xX4_dropMissingLetters.1.desc).map (fun d => d.parameters.length) = some 0 := by decide +kernel
theorem ivX4_dropMissingLetters : Cond.instanceMethod xX4_dropMissingLetters.1 ∈ zT ∧ Cond.selects xX4_dropMissingLetters.1.cls xX4_dropMissingLetters.1 xX4_dropMissingLetters.1 ∈ zT := have h : zChk [969, 26] [Cond.instanceMethod xX4_dropMissingLetters.1, Cond.selects xX4_dropMissingLetters.1.cls xX4_dropMissingLetters.1 xX4_dropMissingLetters.1] = true := by decide +kernel
  ⟨zChk_ok h _ (.head _), zChk_ok h _ (.tail _ (.head _))⟩
theorem lkX4_351 : zLk RX4 351 xX4_dropMissingLetters 0 := zLk_of [967, 71] (by decide +kernel) wcX4_dropMissingLetters pdX4_dropMissingLetters
set_option maxRecDepth 100000 in
theorem wcX4_element : Cond.code xX4_element.1 xX4_element.2.1 xX4_element.2.2.1 xX4_element.2.2.2.1 ∈ zT := zT_of (i := 321) rfl rfl
theorem pdX4_element : xX4_element.1.cls ≠ "java/lang/invoke/MethodHandle" ∧ xX4_element.1.cls ≠ "java/lang/invoke/VarHandle" ∧ (parseMethodDescriptor xX4_element.1.desc).map (fun d => d.parameters.length) = some 2 := by decide +kernel
theorem ivX4_element : Cond.instanceMethod xX4_element.1 ∈ zT ∧ Cond.selects xX4_element.1.cls xX4_element.1 xX4_element.1 ∈ zT := have h : zChk [319, 320] [Cond.instanceMethod xX4_element.1, Cond.selects xX4_element.1.cls xX4_element.1 xX4_element.1] = true := by decide +kernel
  ⟨zChk_ok h _ (.head _), zChk_ok h _ (.tail _ (.head _))⟩
theorem lkL_30 : zLk RL 30 xX4_element 2 := zLk_of [318, 71] (by decide +kernel) wcX4_element pdX4_element
set_option maxRecDepth 100000 in
theorem wcX4_feed : Cond.code xX4_feed.1 xX4_feed.2.1 xX4_feed.2.2.1 xX4_feed.2.2.2.1 ∈ zT := zT_of (i := 443) rfl rfl
theorem pdX4_feed : xX4_feed.1.cls ≠ "java/lang/invoke/MethodHandle" ∧ xX4_feed.1.cls ≠ "java/lang/invoke/VarHandle" ∧ (parseMethodDescriptor xX4_feed.1.desc).map (fun d => d.parameters.length) = some 1 := by decide +kernel
theorem ivX4_feed : Cond.instanceMethod xX4_feed.1 ∈ zT ∧ Cond.selects xX4_feed.1.cls xX4_feed.1 xX4_feed.1 ∈ zT := have h : zChk [441, 442] [Cond.instanceMethod xX4_feed.1, Cond.selects xX4_feed.1.cls xX4_feed.1 xX4_feed.1] = true := by decide +kernel
  ⟨zChk_ok h _ (.head _), zChk_ok h _ (.tail _ (.head _))⟩
theorem lkL_80 : zLk RL 80 xX4_feed 1 := zLk_of [440, 71] (by decide +kernel) wcX4_feed pdX4_feed
set_option maxRecDepth 100000 in
theorem wcX4_first : Cond.code xX4_first.1 xX4_first.2.1 xX4_first.2.2.1 xX4_first.2.2.2.1 ∈ zT := zT_of (i := 629) rfl rfl
theorem pdX4_first : xX4_first.1.cls ≠ "java/lang/invoke/MethodHandle" ∧ xX4_first.1.cls ≠ "java/lang/invoke/VarHandle" ∧ (parseMethodDescriptor xX4_first.1.desc).map (fun d => d.parameters.length) = some 2 := by decide +kernel
theorem ivX4_first : Cond.instanceMethod xX4_first.1 ∈ zT ∧ Cond.selects xX4_first.1.cls xX4_first.1 xX4_first.1 ∈ zT := have h : zChk [627, 628] [Cond.instanceMethod xX4_first.1, Cond.selects xX4_first.1.cls xX4_first.1 xX4_first.1] = true := by decide +kernel
  ⟨zChk_ok h _ (.head _), zChk_ok h _ (.tail _ (.head _))⟩
theorem lkL_117 : zLk RL 117 xX4_first 2 := zLk_of [626, 71] (by decide +kernel) wcX4_first pdX4_first
set_option maxRecDepth 100000 in
theorem wcX4_fits : Cond.code xX4_fits.1 xX4_fits.2.1 xX4_fits.2.2.1 xX4_fits.2.2.2.1 ∈ zT := zT_of (i := 745) rfl rfl
theorem pdX4_fits : xX4_fits.1.cls ≠ "java/lang/invoke/MethodHandle" ∧ xX4_fits.1.cls ≠ "java/lang/invoke/VarHandle" ∧ (parseMethodDescriptor xX4_fits.1.desc).map (fun d => d.parameters.length) = some 4 := by decide +kernel
theorem ivX4_fits : Cond.instanceMethod xX4_fits.1 ∈ zT ∧ Cond.selects xX4_fits.1.cls xX4_fits.1 xX4_fits.1 ∈ zT := have h : zChk [743, 744] [Cond.instanceMethod xX4_fits.1, Cond.selects xX4_fits.1.cls xX4_fits.1 xX4_fits.1] = true := by decide +kernel
  ⟨zChk_ok h _ (.head _), zChk_ok h _ (.tail _ (.head _))⟩
theorem lkL_153 : zLk RL 153 xX4_fits 4 := zLk_of [742, 71] (by decide +kernel) wcX4_fits pdX4_fits
set_option maxRecDepth 100000 in
theorem wcX4_gossips : Cond.code xX4_gossips.1 xX4_gossips.2.1 xX4_gossips.2.2.1 xX4_gossips.2.2.2.1 ∈ zT := zT_of (i := 842) rfl rfl
theorem pdX4_gossips : xX4_gossips.1.cls ≠ "java/lang/invoke/MethodHandle" ∧ xX4_gossips.1.cls ≠ "java/lang/invoke/VarHandle" ∧ (parseMethodDescriptor xX4_gossips.1.desc).map (fun d => d.parameters.length) = some 0 := by decide +kernel
theorem ivX4_gossips : Cond.instanceMethod xX4_gossips.1 ∈ zT ∧ Cond.selects xX4_gossips.1.cls xX4_gossips.1 xX4_gossips.1 ∈ zT := have h : zChk [840, 841] [Cond.instanceMethod xX4_gossips.1, Cond.selects xX4_gossips.1.cls xX4_gossips.1 xX4_gossips.1] = true := by decide +kernel
  ⟨zChk_ok h _ (.head _), zChk_ok h _ (.tail _ (.head _))⟩
theorem lkL_185 : zLk RL 185 xX4_gossips 0 := zLk_of [839, 71] (by decide +kernel) wcX4_gossips pdX4_gossips
set_option maxRecDepth 100000 in
theorem wcX4_heard : Cond.code xX4_heard.1 xX4_heard.2.1 xX4_heard.2.2.1 xX4_heard.2.2.2.1 ∈ zT := zT_of (i := 600) rfl rfl
theorem pdX4_heard : xX4_heard.1.cls ≠ "java/lang/invoke/MethodHandle" ∧ xX4_heard.1.cls ≠ "java/lang/invoke/VarHandle" ∧ (parseMethodDescriptor xX4_heard.1.desc).map (fun d => d.parameters.length) = some 2 := by decide +kernel
theorem ivX4_heard : Cond.instanceMethod xX4_heard.1 ∈ zT ∧ Cond.selects xX4_heard.1.cls xX4_heard.1 xX4_heard.1 ∈ zT := have h : zChk [598, 599] [Cond.instanceMethod xX4_heard.1, Cond.selects xX4_heard.1.cls xX4_heard.1 xX4_heard.1] = true := by decide +kernel
  ⟨zChk_ok h _ (.head _), zChk_ok h _ (.tail _ (.head _))⟩
theorem lkL_101 : zLk RL 101 xX4_heard 2 := zLk_of [597, 71] (by decide +kernel) wcX4_heard pdX4_heard
set_option maxRecDepth 100000 in
theorem wcX4_holds : Cond.code xX4_holds.1 xX4_holds.2.1 xX4_holds.2.2.1 xX4_holds.2.2.2.1 ∈ zT := zT_of (i := 325) rfl rfl
theorem pdX4_holds : xX4_holds.1.cls ≠ "java/lang/invoke/MethodHandle" ∧ xX4_holds.1.cls ≠ "java/lang/invoke/VarHandle" ∧ (parseMethodDescriptor xX4_holds.1.desc).map (fun d => d.parameters.length) = some 1 := by decide +kernel
theorem ivX4_holds : Cond.instanceMethod xX4_holds.1 ∈ zT ∧ Cond.selects xX4_holds.1.cls xX4_holds.1 xX4_holds.1 ∈ zT := have h : zChk [323, 324] [Cond.instanceMethod xX4_holds.1, Cond.selects xX4_holds.1.cls xX4_holds.1 xX4_holds.1] = true := by decide +kernel
  ⟨zChk_ok h _ (.head _), zChk_ok h _ (.tail _ (.head _))⟩
theorem lkL_35 : zLk RL 35 xX4_holds 1 := zLk_of [322, 71] (by decide +kernel) wcX4_holds pdX4_holds
set_option maxRecDepth 100000 in
theorem wcX4_houseOf : Cond.code xX4_houseOf.1 xX4_houseOf.2.1 xX4_houseOf.2.2.1 xX4_houseOf.2.2.2.1 ∈ zT := zT_of (i := 594) rfl rfl
theorem pdX4_houseOf : xX4_houseOf.1.cls ≠ "java/lang/invoke/MethodHandle" ∧ xX4_houseOf.1.cls ≠ "java/lang/invoke/VarHandle" ∧ (parseMethodDescriptor xX4_houseOf.1.desc).map (fun d => d.parameters.length) = some 2 := by decide +kernel
theorem ivX4_houseOf : Cond.instanceMethod xX4_houseOf.1 ∈ zT ∧ Cond.selects xX4_houseOf.1.cls xX4_houseOf.1 xX4_houseOf.1 ∈ zT := have h : zChk [592, 593] [Cond.instanceMethod xX4_houseOf.1, Cond.selects xX4_houseOf.1.cls xX4_houseOf.1 xX4_houseOf.1] = true := by decide +kernel
  ⟨zChk_ok h _ (.head _), zChk_ok h _ (.tail _ (.head _))⟩
theorem lkL_97 : zLk RL 97 xX4_houseOf 2 := zLk_of [591, 71] (by decide +kernel) wcX4_houseOf pdX4_houseOf
set_option maxRecDepth 100000 in
theorem wcX4_houses : Cond.code xX4_houses.1 xX4_houses.2.1 xX4_houses.2.2.1 xX4_houses.2.2.2.1 ∈ zT := zT_of (i := 395) rfl rfl
theorem pdX4_houses : xX4_houses.1.cls ≠ "java/lang/invoke/MethodHandle" ∧ xX4_houses.1.cls ≠ "java/lang/invoke/VarHandle" ∧ (parseMethodDescriptor xX4_houses.1.desc).map (fun d => d.parameters.length) = some 1 := by decide +kernel
theorem ivX4_houses : Cond.instanceMethod xX4_houses.1 ∈ zT ∧ Cond.selects xX4_houses.1.cls xX4_houses.1 xX4_houses.1 ∈ zT := have h : zChk [393, 394] [Cond.instanceMethod xX4_houses.1, Cond.selects xX4_houses.1.cls xX4_houses.1 xX4_houses.1] = true := by decide +kernel
  ⟨zChk_ok h _ (.head _), zChk_ok h _ (.tail _ (.head _))⟩
theorem lkL_49 : zLk RL 49 xX4_houses 1 := zLk_of [392, 71] (by decide +kernel) wcX4_houses pdX4_houses
set_option maxRecDepth 100000 in
theorem wcX4_hush : Cond.code xX4_hush.1 xX4_hush.2.1 xX4_hush.2.2.1 xX4_hush.2.2.2.1 ∈ zT := zT_of (i := 682) rfl rfl
theorem pdX4_hush : xX4_hush.1.cls ≠ "java/lang/invoke/MethodHandle" ∧ xX4_hush.1.cls ≠ "java/lang/invoke/VarHandle" ∧ (parseMethodDescriptor xX4_hush.1.desc).map (fun d => d.parameters.length) = some 3 := by decide +kernel
theorem ivX4_hush : Cond.instanceMethod xX4_hush.1 ∈ zT ∧ Cond.selects xX4_hush.1.cls xX4_hush.1 xX4_hush.1 ∈ zT := have h : zChk [680, 681] [Cond.instanceMethod xX4_hush.1, Cond.selects xX4_hush.1.cls xX4_hush.1 xX4_hush.1] = true := by decide +kernel
  ⟨zChk_ok h _ (.head _), zChk_ok h _ (.tail _ (.head _))⟩
theorem lkL_137 : zLk RL 137 xX4_hush 3 := zLk_of [679, 71] (by decide +kernel) wcX4_hush pdX4_hush
set_option maxRecDepth 100000 in
theorem wcX4_image : Cond.code xX4_image.1 xX4_image.2.1 xX4_image.2.2.1 xX4_image.2.2.2.1 ∈ zT := zT_of (i := 996) rfl rfl
theorem pdX4_image : xX4_image.1.cls ≠ "java/lang/invoke/MethodHandle" ∧ xX4_image.1.cls ≠ "java/lang/invoke/VarHandle" ∧ (parseMethodDescriptor xX4_image.1.desc).map (fun d => d.parameters.length) = some 0 := by decide +kernel
theorem ivX4_image : Cond.instanceMethod xX4_image.1 ∈ zT ∧ Cond.selects xX4_image.1.cls xX4_image.1 xX4_image.1 ∈ zT := have h : zChk [994, 995] [Cond.instanceMethod xX4_image.1, Cond.selects xX4_image.1.cls xX4_image.1 xX4_image.1] = true := by decide +kernel
  ⟨zChk_ok h _ (.head _), zChk_ok h _ (.tail _ (.head _))⟩
theorem lkL_269 : zLk RL 269 xX4_image 0 := zLk_of [993, 71] (by decide +kernel) wcX4_image pdX4_image
set_option maxRecDepth 100000 in
theorem wcX4_init : Cond.code xX4_init.1 xX4_init.2.1 xX4_init.2.2.1 xX4_init.2.2.2.1 ∈ zT := zT_of (i := 88) rfl rfl
theorem pdX4_init : xX4_init.1.cls ≠ "java/lang/invoke/MethodHandle" ∧ xX4_init.1.cls ≠ "java/lang/invoke/VarHandle" ∧ (parseMethodDescriptor xX4_init.1.desc).map (fun d => d.parameters.length) = some 0 := by decide +kernel
theorem iiX4_init : Cond.instanceMethod xX4_init.1 ∈ zT ∧ xX4_init.1.name = "<init>" ∧ xX4_init.2.2.2.1 = none := have h : zChk [87] [Cond.instanceMethod xX4_init.1] = true := by decide +kernel
  ⟨zChk_ok h _ (.head _), rfl, rfl⟩
theorem lkL_9 : zLk RL 9 xX4_init 0 := zLk_of [86, 71] (by decide +kernel) wcX4_init pdX4_init
set_option maxRecDepth 100000 in
theorem wcX4_isOrStandsUnder : Cond.code xX4_isOrStandsUnder.1 xX4_isOrStandsUnder.2.1 xX4_isOrStandsUnder.2.2.1 xX4_isOrStandsUnder.2.2.2.1 ∈ zT := zT_of (i := 355) rfl rfl
theorem pdX4_isOrStandsUnder : xX4_isOrStandsUnder.1.cls ≠ "java/lang/invoke/MethodHandle" ∧ xX4_isOrStandsUnder.1.cls ≠ "java/lang/invoke/VarHandle" ∧ (parseMethodDescriptor xX4_isOrStandsUnder.1.desc).map (fun d => d.parameters.length) = some 2 := by decide +kernel
theorem isX4_isOrStandsUnder : Cond.static xX4_isOrStandsUnder.1 ∈ zT := have h : zChk [354] [Cond.static xX4_isOrStandsUnder.1] = true := by decide +kernel
  zChk_ok h _ (.head _)
theorem lkX4_119 : zLk RX4 119 xX4_isOrStandsUnder 2 := zLk_of [353, 71] (by decide +kernel) wcX4_isOrStandsUnder pdX4_isOrStandsUnder
set_option maxRecDepth 100000 in
theorem wcX4_isRead : Cond.code xX4_isRead.1 xX4_isRead.2.1 xX4_isRead.2.2.1 xX4_isRead.2.2.2.1 ∈ zT := zT_of (i := 604) rfl rfl
theorem pdX4_isRead : xX4_isRead.1.cls ≠ "java/lang/invoke/MethodHandle" ∧ xX4_isRead.1.cls ≠ "java/lang/invoke/VarHandle" ∧ (parseMethodDescriptor xX4_isRead.1.desc).map (fun d => d.parameters.length) = some 2 := by decide +kernel
theorem ivX4_isRead : Cond.instanceMethod xX4_isRead.1 ∈ zT ∧ Cond.selects xX4_isRead.1.cls xX4_isRead.1 xX4_isRead.1 ∈ zT := have h : zChk [602, 603] [Cond.instanceMethod xX4_isRead.1, Cond.selects xX4_isRead.1.cls xX4_isRead.1 xX4_isRead.1] = true := by decide +kernel
  ⟨zChk_ok h _ (.head _), zChk_ok h _ (.tail _ (.head _))⟩
theorem lkL_105 : zLk RL 105 xX4_isRead 2 := zLk_of [601, 71] (by decide +kernel) wcX4_isRead pdX4_isRead
set_option maxRecDepth 100000 in
theorem wcX4_judge : Cond.code xX4_judge.1 xX4_judge.2.1 xX4_judge.2.2.1 xX4_judge.2.2.2.1 ∈ zT := zT_of (i := 958) rfl rfl
theorem pdX4_judge : xX4_judge.1.cls ≠ "java/lang/invoke/MethodHandle" ∧ xX4_judge.1.cls ≠ "java/lang/invoke/VarHandle" ∧ (parseMethodDescriptor xX4_judge.1.desc).map (fun d => d.parameters.length) = some 2 := by decide +kernel
theorem ivX4_judge : Cond.instanceMethod xX4_judge.1 ∈ zT ∧ Cond.selects xX4_judge.1.cls xX4_judge.1 xX4_judge.1 ∈ zT := have h : zChk [956, 957] [Cond.instanceMethod xX4_judge.1, Cond.selects xX4_judge.1.cls xX4_judge.1 xX4_judge.1] = true := by decide +kernel
  ⟨zChk_ok h _ (.head _), zChk_ok h _ (.tail _ (.head _))⟩
theorem lkL_253 : zLk RL 253 xX4_judge 2 := zLk_of [955, 71] (by decide +kernel) wcX4_judge pdX4_judge
set_option maxRecDepth 100000 in
theorem wcX4_knows : Cond.code xX4_knows.1 xX4_knows.2.1 xX4_knows.2.2.1 xX4_knows.2.2.2.1 ∈ zT := zT_of (i := 621) rfl rfl
theorem pdX4_knows : xX4_knows.1.cls ≠ "java/lang/invoke/MethodHandle" ∧ xX4_knows.1.cls ≠ "java/lang/invoke/VarHandle" ∧ (parseMethodDescriptor xX4_knows.1.desc).map (fun d => d.parameters.length) = some 1 := by decide +kernel
theorem ivX4_knows : Cond.instanceMethod xX4_knows.1 ∈ zT ∧ Cond.selects xX4_knows.1.cls xX4_knows.1 xX4_knows.1 ∈ zT := have h : zChk [619, 620] [Cond.instanceMethod xX4_knows.1, Cond.selects xX4_knows.1.cls xX4_knows.1 xX4_knows.1] = true := by decide +kernel
  ⟨zChk_ok h _ (.head _), zChk_ok h _ (.tail _ (.head _))⟩
theorem lkL_113 : zLk RL 113 xX4_knows 1 := zLk_of [618, 71] (by decide +kernel) wcX4_knows pdX4_knows
set_option maxRecDepth 100000 in
theorem wcX4_lacks : Cond.code xX4_lacks.1 xX4_lacks.2.1 xX4_lacks.2.2.1 xX4_lacks.2.2.2.1 ∈ zT := zT_of (i := 889) rfl rfl
theorem pdX4_lacks : xX4_lacks.1.cls ≠ "java/lang/invoke/MethodHandle" ∧ xX4_lacks.1.cls ≠ "java/lang/invoke/VarHandle" ∧ (parseMethodDescriptor xX4_lacks.1.desc).map (fun d => d.parameters.length) = some 2 := by decide +kernel
theorem ivX4_lacks : Cond.instanceMethod xX4_lacks.1 ∈ zT ∧ Cond.selects xX4_lacks.1.cls xX4_lacks.1 xX4_lacks.1 ∈ zT := have h : zChk [887, 888] [Cond.instanceMethod xX4_lacks.1, Cond.selects xX4_lacks.1.cls xX4_lacks.1 xX4_lacks.1] = true := by decide +kernel
  ⟨zChk_ok h _ (.head _), zChk_ok h _ (.tail _ (.head _))⟩
theorem lkL_213 : zLk RL 213 xX4_lacks 2 := zLk_of [886, 71] (by decide +kernel) wcX4_lacks pdX4_lacks
set_option maxRecDepth 100000 in
theorem wcX4_lane : Cond.code xX4_lane.1 xX4_lane.2.1 xX4_lane.2.2.1 xX4_lane.2.2.2.1 ∈ zT := zT_of (i := 464) rfl rfl
theorem pdX4_lane : xX4_lane.1.cls ≠ "java/lang/invoke/MethodHandle" ∧ xX4_lane.1.cls ≠ "java/lang/invoke/VarHandle" ∧ (parseMethodDescriptor xX4_lane.1.desc).map (fun d => d.parameters.length) = some 0 := by decide +kernel
theorem ivX4_lane : Cond.instanceMethod xX4_lane.1 ∈ zT ∧ Cond.selects xX4_lane.1.cls xX4_lane.1 xX4_lane.1 ∈ zT := have h : zChk [462, 463] [Cond.instanceMethod xX4_lane.1, Cond.selects xX4_lane.1.cls xX4_lane.1 xX4_lane.1] = true := by decide +kernel
  ⟨zChk_ok h _ (.head _), zChk_ok h _ (.tail _ (.head _))⟩
theorem lkL_89 : zLk RL 89 xX4_lane 0 := zLk_of [461, 71] (by decide +kernel) wcX4_lane pdX4_lane
set_option maxRecDepth 100000 in
theorem wcX4_lengths : Cond.code xX4_lengths.1 xX4_lengths.2.1 xX4_lengths.2.2.1 xX4_lengths.2.2.2.1 ∈ zT := zT_of (i := 719) rfl rfl
theorem pdX4_lengths : xX4_lengths.1.cls ≠ "java/lang/invoke/MethodHandle" ∧ xX4_lengths.1.cls ≠ "java/lang/invoke/VarHandle" ∧ (parseMethodDescriptor xX4_lengths.1.desc).map (fun d => d.parameters.length) = some 4 := by decide +kernel
theorem ivX4_lengths : Cond.instanceMethod xX4_lengths.1 ∈ zT ∧ Cond.selects xX4_lengths.1.cls xX4_lengths.1 xX4_lengths.1 ∈ zT := have h : zChk [717, 718] [Cond.instanceMethod xX4_lengths.1, Cond.selects xX4_lengths.1.cls xX4_lengths.1 xX4_lengths.1] = true := by decide +kernel
  ⟨zChk_ok h _ (.head _), zChk_ok h _ (.tail _ (.head _))⟩
theorem lkL_149 : zLk RL 149 xX4_lengths 4 := zLk_of [716, 71] (by decide +kernel) wcX4_lengths pdX4_lengths
set_option maxRecDepth 100000 in
theorem wcX4_letter : Cond.code xX4_letter.1 xX4_letter.2.1 xX4_letter.2.2.1 xX4_letter.2.2.2.1 ∈ zT := zT_of (i := 399) rfl rfl
theorem pdX4_letter : xX4_letter.1.cls ≠ "java/lang/invoke/MethodHandle" ∧ xX4_letter.1.cls ≠ "java/lang/invoke/VarHandle" ∧ (parseMethodDescriptor xX4_letter.1.desc).map (fun d => d.parameters.length) = some 4 := by decide +kernel
theorem ivX4_letter : Cond.instanceMethod xX4_letter.1 ∈ zT ∧ Cond.selects xX4_letter.1.cls xX4_letter.1 xX4_letter.1 ∈ zT := have h : zChk [397, 398] [Cond.instanceMethod xX4_letter.1, Cond.selects xX4_letter.1.cls xX4_letter.1 xX4_letter.1] = true := by decide +kernel
  ⟨zChk_ok h _ (.head _), zChk_ok h _ (.tail _ (.head _))⟩
theorem lkL_53 : zLk RL 53 xX4_letter 4 := zLk_of [396, 71] (by decide +kernel) wcX4_letter pdX4_letter
set_option maxRecDepth 100000 in
theorem wcX4_letterOf : Cond.code xX4_letterOf.1 xX4_letterOf.2.1 xX4_letterOf.2.2.1 xX4_letterOf.2.2.2.1 ∈ zT := zT_of (i := 590) rfl rfl
theorem pdX4_letterOf : xX4_letterOf.1.cls ≠ "java/lang/invoke/MethodHandle" ∧ xX4_letterOf.1.cls ≠ "java/lang/invoke/VarHandle" ∧ (parseMethodDescriptor xX4_letterOf.1.desc).map (fun d => d.parameters.length) = some 2 := by decide +kernel
theorem ivX4_letterOf : Cond.instanceMethod xX4_letterOf.1 ∈ zT ∧ Cond.selects xX4_letterOf.1.cls xX4_letterOf.1 xX4_letterOf.1 ∈ zT := have h : zChk [588, 589] [Cond.instanceMethod xX4_letterOf.1, Cond.selects xX4_letterOf.1.cls xX4_letterOf.1 xX4_letterOf.1] = true := by decide +kernel
  ⟨zChk_ok h _ (.head _), zChk_ok h _ (.tail _ (.head _))⟩
theorem lkL_93 : zLk RL 93 xX4_letterOf 2 := zLk_of [587, 71] (by decide +kernel) wcX4_letterOf pdX4_letterOf
set_option maxRecDepth 100000 in
theorem wcX4_lost : Cond.code xX4_lost.1 xX4_lost.2.1 xX4_lost.2.2.1 xX4_lost.2.2.2.1 ∈ zT := zT_of (i := 880) rfl rfl
theorem pdX4_lost : xX4_lost.1.cls ≠ "java/lang/invoke/MethodHandle" ∧ xX4_lost.1.cls ≠ "java/lang/invoke/VarHandle" ∧ (parseMethodDescriptor xX4_lost.1.desc).map (fun d => d.parameters.length) = some 0 := by decide +kernel
theorem ivX4_lost : Cond.instanceMethod xX4_lost.1 ∈ zT ∧ Cond.selects xX4_lost.1.cls xX4_lost.1 xX4_lost.1 ∈ zT := have h : zChk [878, 879] [Cond.instanceMethod xX4_lost.1, Cond.selects xX4_lost.1.cls xX4_lost.1 xX4_lost.1] = true := by decide +kernel
  ⟨zChk_ok h _ (.head _), zChk_ok h _ (.tail _ (.head _))⟩
theorem lkL_205 : zLk RL 205 xX4_lost 0 := zLk_of [877, 71] (by decide +kernel) wcX4_lost pdX4_lost
set_option maxRecDepth 100000 in
theorem wcX4_loudest : Cond.code xX4_loudest.1 xX4_loudest.2.1 xX4_loudest.2.2.1 xX4_loudest.2.2.2.1 ∈ zT := zT_of (i := 638) rfl rfl
theorem pdX4_loudest : xX4_loudest.1.cls ≠ "java/lang/invoke/MethodHandle" ∧ xX4_loudest.1.cls ≠ "java/lang/invoke/VarHandle" ∧ (parseMethodDescriptor xX4_loudest.1.desc).map (fun d => d.parameters.length) = some 1 := by decide +kernel
theorem ivX4_loudest : Cond.instanceMethod xX4_loudest.1 ∈ zT ∧ Cond.selects xX4_loudest.1.cls xX4_loudest.1 xX4_loudest.1 ∈ zT := have h : zChk [636, 637] [Cond.instanceMethod xX4_loudest.1, Cond.selects xX4_loudest.1.cls xX4_loudest.1 xX4_loudest.1] = true := by decide +kernel
  ⟨zChk_ok h _ (.head _), zChk_ok h _ (.tail _ (.head _))⟩
theorem lkL_121 : zLk RL 121 xX4_loudest 1 := zLk_of [635, 71] (by decide +kernel) wcX4_loudest pdX4_loudest
set_option maxRecDepth 100000 in
theorem wcX4_mend : Cond.code xX4_mend.1 xX4_mend.2.1 xX4_mend.2.2.1 xX4_mend.2.2.2.1 ∈ zT := zT_of (i := 416) rfl rfl
theorem pdX4_mend : xX4_mend.1.cls ≠ "java/lang/invoke/MethodHandle" ∧ xX4_mend.1.cls ≠ "java/lang/invoke/VarHandle" ∧ (parseMethodDescriptor xX4_mend.1.desc).map (fun d => d.parameters.length) = some 3 := by decide +kernel
theorem ivX4_mend : Cond.instanceMethod xX4_mend.1 ∈ zT ∧ Cond.selects xX4_mend.1.cls xX4_mend.1 xX4_mend.1 ∈ zT := have h : zChk [414, 415] [Cond.instanceMethod xX4_mend.1, Cond.selects xX4_mend.1.cls xX4_mend.1 xX4_mend.1] = true := by decide +kernel
  ⟨zChk_ok h _ (.head _), zChk_ok h _ (.tail _ (.head _))⟩
theorem lkL_58 : zLk RL 58 xX4_mend 3 := zLk_of [413, 71] (by decide +kernel) wcX4_mend pdX4_mend
set_option maxRecDepth 100000 in
theorem wcX4_merry : Cond.code xX4_merry.1 xX4_merry.2.1 xX4_merry.2.2.1 xX4_merry.2.2.2.1 ∈ zT := zT_of (i := 938) rfl rfl
theorem pdX4_merry : xX4_merry.1.cls ≠ "java/lang/invoke/MethodHandle" ∧ xX4_merry.1.cls ≠ "java/lang/invoke/VarHandle" ∧ (parseMethodDescriptor xX4_merry.1.desc).map (fun d => d.parameters.length) = some 1 := by decide +kernel
theorem ivX4_merry : Cond.instanceMethod xX4_merry.1 ∈ zT ∧ Cond.selects xX4_merry.1.cls xX4_merry.1 xX4_merry.1 ∈ zT := have h : zChk [936, 937] [Cond.instanceMethod xX4_merry.1, Cond.selects xX4_merry.1.cls xX4_merry.1 xX4_merry.1] = true := by decide +kernel
  ⟨zChk_ok h _ (.head _), zChk_ok h _ (.tail _ (.head _))⟩
theorem lkL_237 : zLk RL 237 xX4_merry 1 := zLk_of [935, 71] (by decide +kernel) wcX4_merry pdX4_merry
set_option maxRecDepth 100000 in
theorem wcX4_noHouse : Cond.code xX4_noHouse.1 xX4_noHouse.2.1 xX4_noHouse.2.2.1 xX4_noHouse.2.2.2.1 ∈ zT := zT_of (i := 403) rfl rfl
theorem pdX4_noHouse : xX4_noHouse.1.cls ≠ "java/lang/invoke/MethodHandle" ∧ xX4_noHouse.1.cls ≠ "java/lang/invoke/VarHandle" ∧ (parseMethodDescriptor xX4_noHouse.1.desc).map (fun d => d.parameters.length) = some 1 := by decide +kernel
theorem ivX4_noHouse : Cond.instanceMethod xX4_noHouse.1 ∈ zT ∧ Cond.selects xX4_noHouse.1.cls xX4_noHouse.1 xX4_noHouse.1 ∈ zT := have h : zChk [402, 7] [Cond.instanceMethod xX4_noHouse.1, Cond.selects xX4_noHouse.1.cls xX4_noHouse.1 xX4_noHouse.1] = true := by decide +kernel
  ⟨zChk_ok h _ (.head _), zChk_ok h _ (.tail _ (.head _))⟩
theorem lkX4_132 : zLk RX4 132 xX4_noHouse 1 := zLk_of [400, 71] (by decide +kernel) wcX4_noHouse pdX4_noHouse
set_option maxRecDepth 100000 in
theorem wcX4_noKind : Cond.code xX4_noKind.1 xX4_noKind.2.1 xX4_noKind.2.2.1 xX4_noKind.2.2.2.1 ∈ zT := zT_of (i := 348) rfl rfl
theorem pdX4_noKind : xX4_noKind.1.cls ≠ "java/lang/invoke/MethodHandle" ∧ xX4_noKind.1.cls ≠ "java/lang/invoke/VarHandle" ∧ (parseMethodDescriptor xX4_noKind.1.desc).map (fun d => d.parameters.length) = some 1 := by decide +kernel
theorem isX4_noKind : Cond.static xX4_noKind.1 ∈ zT := have h : zChk [347] [Cond.static xX4_noKind.1] = true := by decide +kernel
  zChk_ok h _ (.head _)
theorem lkX4_109 : zLk RX4 109 xX4_noKind 1 := zLk_of [346, 71] (by decide +kernel) wcX4_noKind pdX4_noKind
set_option maxRecDepth 100000 in
theorem wcX4_noLetter : Cond.code xX4_noLetter.1 xX4_noLetter.2.1 xX4_noLetter.2.2.1 xX4_noLetter.2.2.2.1 ∈ zT := zT_of (i := 333) rfl rfl
theorem pdX4_noLetter : xX4_noLetter.1.cls ≠ "java/lang/invoke/MethodHandle" ∧ xX4_noLetter.1.cls ≠ "java/lang/invoke/VarHandle" ∧ (parseMethodDescriptor xX4_noLetter.1.desc).map (fun d => d.parameters.length) = some 1 := by decide +kernel
theorem ivX4_noLetter : Cond.instanceMethod xX4_noLetter.1 ∈ zT ∧ Cond.selects xX4_noLetter.1.cls xX4_noLetter.1 xX4_noLetter.1 ∈ zT := have h : zChk [332, 3] [Cond.instanceMethod xX4_noLetter.1, Cond.selects xX4_noLetter.1.cls xX4_noLetter.1 xX4_noLetter.1] = true := by decide +kernel
  ⟨zChk_ok h _ (.head _), zChk_ok h _ (.tail _ (.head _))⟩
theorem lkX4_99 : zLk RX4 99 xX4_noLetter 1 := zLk_of [330, 71] (by decide +kernel) wcX4_noLetter pdX4_noLetter
set_option maxRecDepth 100000 in
theorem wcX4_noPouring : Cond.code xX4_noPouring.1 xX4_noPouring.2.1 xX4_noPouring.2.2.1 xX4_noPouring.2.2.2.1 ∈ zT := zT_of (i := 788) rfl rfl
theorem pdX4_noPouring : xX4_noPouring.1.cls ≠ "java/lang/invoke/MethodHandle" ∧ xX4_noPouring.1.cls ≠ "java/lang/invoke/VarHandle" ∧ (parseMethodDescriptor xX4_noPouring.1.desc).map (fun d => d.parameters.length) = some 4 := by decide +kernel
theorem ivX4_noPouring : Cond.instanceMethod xX4_noPouring.1 ∈ zT ∧ Cond.selects xX4_noPouring.1.cls xX4_noPouring.1 xX4_noPouring.1 ∈ zT := have h : zChk [787, 25] [Cond.instanceMethod xX4_noPouring.1, Cond.selects xX4_noPouring.1.cls xX4_noPouring.1 xX4_noPouring.1] = true := by decide +kernel
  ⟨zChk_ok h _ (.head _), zChk_ok h _ (.tail _ (.head _))⟩
theorem lkX4_278 : zLk RX4 278 xX4_noPouring 4 := zLk_of [785, 71] (by decide +kernel) wcX4_noPouring pdX4_noPouring
set_option maxRecDepth 100000 in
theorem wcX4_noSet : Cond.code xX4_noSet.1 xX4_noSet.2.1 xX4_noSet.2.2.1 xX4_noSet.2.2.2.1 ∈ zT := zT_of (i := 672) rfl rfl
theorem pdX4_noSet : xX4_noSet.1.cls ≠ "java/lang/invoke/MethodHandle" ∧ xX4_noSet.1.cls ≠ "java/lang/invoke/VarHandle" ∧ (parseMethodDescriptor xX4_noSet.1.desc).map (fun d => d.parameters.length) = some 1 := by decide +kernel
theorem ivX4_noSet : Cond.instanceMethod xX4_noSet.1 ∈ zT ∧ Cond.selects xX4_noSet.1.cls xX4_noSet.1 xX4_noSet.1 ∈ zT := have h : zChk [671, 19] [Cond.instanceMethod xX4_noSet.1, Cond.selects xX4_noSet.1.cls xX4_noSet.1 xX4_noSet.1] = true := by decide +kernel
  ⟨zChk_ok h _ (.head _), zChk_ok h _ (.tail _ (.head _))⟩
theorem lkX4_229 : zLk RX4 229 xX4_noSet 1 := zLk_of [669, 71] (by decide +kernel) wcX4_noSet pdX4_noSet
set_option maxRecDepth 100000 in
theorem wcX4_noShelf : Cond.code xX4_noShelf.1 xX4_noShelf.2.1 xX4_noShelf.2.2.1 xX4_noShelf.2.2.2.1 ∈ zT := zT_of (i := 265) rfl rfl
theorem pdX4_noShelf : xX4_noShelf.1.cls ≠ "java/lang/invoke/MethodHandle" ∧ xX4_noShelf.1.cls ≠ "java/lang/invoke/VarHandle" ∧ (parseMethodDescriptor xX4_noShelf.1.desc).map (fun d => d.parameters.length) = some 1 := by decide +kernel
theorem ivX4_noShelf : Cond.instanceMethod xX4_noShelf.1 ∈ zT ∧ Cond.selects xX4_noShelf.1.cls xX4_noShelf.1 xX4_noShelf.1 ∈ zT := have h : zChk [264, 0] [Cond.instanceMethod xX4_noShelf.1, Cond.selects xX4_noShelf.1.cls xX4_noShelf.1 xX4_noShelf.1] = true := by decide +kernel
  ⟨zChk_ok h _ (.head _), zChk_ok h _ (.tail _ (.head _))⟩
theorem lkX4_48 : zLk RX4 48 xX4_noShelf 1 := zLk_of [262, 71] (by decide +kernel) wcX4_noShelf pdX4_noShelf
set_option maxRecDepth 100000 in
theorem wcX4_ofKind : Cond.code xX4_ofKind.1 xX4_ofKind.2.1 xX4_ofKind.2.2.1 xX4_ofKind.2.2.2.1 ∈ zT := zT_of (i := 954) rfl rfl
theorem pdX4_ofKind : xX4_ofKind.1.cls ≠ "java/lang/invoke/MethodHandle" ∧ xX4_ofKind.1.cls ≠ "java/lang/invoke/VarHandle" ∧ (parseMethodDescriptor xX4_ofKind.1.desc).map (fun d => d.parameters.length) = some 1 := by decide +kernel
theorem ivX4_ofKind : Cond.instanceMethod xX4_ofKind.1 ∈ zT ∧ Cond.selects xX4_ofKind.1.cls xX4_ofKind.1 xX4_ofKind.1 ∈ zT := have h : zChk [952, 953] [Cond.instanceMethod xX4_ofKind.1, Cond.selects xX4_ofKind.1.cls xX4_ofKind.1 xX4_ofKind.1] = true := by decide +kernel
  ⟨zChk_ok h _ (.head _), zChk_ok h _ (.tail _ (.head _))⟩
theorem lkL_249 : zLk RL 249 xX4_ofKind 1 := zLk_of [951, 71] (by decide +kernel) wcX4_ofKind pdX4_ofKind
set_option maxRecDepth 100000 in
theorem wcX4_outside : Cond.code xX4_outside.1 xX4_outside.2.1 xX4_outside.2.2.1 xX4_outside.2.2.2.1 ∈ zT := zT_of (i := 268) rfl rfl
theorem pdX4_outside : xX4_outside.1.cls ≠ "java/lang/invoke/MethodHandle" ∧ xX4_outside.1.cls ≠ "java/lang/invoke/VarHandle" ∧ (parseMethodDescriptor xX4_outside.1.desc).map (fun d => d.parameters.length) = some 3 := by decide +kernel
theorem isX4_outside : Cond.static xX4_outside.1 ∈ zT := have h : zChk [267] [Cond.static xX4_outside.1] = true := by decide +kernel
  zChk_ok h _ (.head _)
theorem lkX4_52 : zLk RX4 52 xX4_outside 3 := zLk_of [266, 71] (by decide +kernel) wcX4_outside pdX4_outside
set_option maxRecDepth 100000 in
theorem wcX4_pour : Cond.code xX4_pour.1 xX4_pour.2.1 xX4_pour.2.2.1 xX4_pour.2.2.2.1 ∈ zT := zT_of (i := 784) rfl rfl
theorem pdX4_pour : xX4_pour.1.cls ≠ "java/lang/invoke/MethodHandle" ∧ xX4_pour.1.cls ≠ "java/lang/invoke/VarHandle" ∧ (parseMethodDescriptor xX4_pour.1.desc).map (fun d => d.parameters.length) = some 5 := by decide +kernel
theorem ivX4_pour : Cond.instanceMethod xX4_pour.1 ∈ zT ∧ Cond.selects xX4_pour.1.cls xX4_pour.1 xX4_pour.1 ∈ zT := have h : zChk [782, 783] [Cond.instanceMethod xX4_pour.1, Cond.selects xX4_pour.1.cls xX4_pour.1 xX4_pour.1] = true := by decide +kernel
  ⟨zChk_ok h _ (.head _), zChk_ok h _ (.tail _ (.head _))⟩
theorem lkL_165 : zLk RL 165 xX4_pour 5 := zLk_of [781, 71] (by decide +kernel) wcX4_pour pdX4_pour
set_option maxRecDepth 100000 in
theorem wcX4_quiet : Cond.code xX4_quiet.1 xX4_quiet.2.1 xX4_quiet.2.2.1 xX4_quiet.2.2.2.1 ∈ zT := zT_of (i := 898) rfl rfl
theorem pdX4_quiet : xX4_quiet.1.cls ≠ "java/lang/invoke/MethodHandle" ∧ xX4_quiet.1.cls ≠ "java/lang/invoke/VarHandle" ∧ (parseMethodDescriptor xX4_quiet.1.desc).map (fun d => d.parameters.length) = some 1 := by decide +kernel
theorem ivX4_quiet : Cond.instanceMethod xX4_quiet.1 ∈ zT ∧ Cond.selects xX4_quiet.1.cls xX4_quiet.1 xX4_quiet.1 ∈ zT := have h : zChk [896, 897] [Cond.instanceMethod xX4_quiet.1, Cond.selects xX4_quiet.1.cls xX4_quiet.1 xX4_quiet.1] = true := by decide +kernel
  ⟨zChk_ok h _ (.head _), zChk_ok h _ (.tail _ (.head _))⟩
theorem lkL_221 : zLk RL 221 xX4_quiet 1 := zLk_of [895, 71] (by decide +kernel) wcX4_quiet pdX4_quiet
set_option maxRecDepth 100000 in
theorem wcX4_reach : Cond.code xX4_reach.1 xX4_reach.2.1 xX4_reach.2.2.1 xX4_reach.2.2.2.1 ∈ zT := zT_of (i := 885) rfl rfl
theorem pdX4_reach : xX4_reach.1.cls ≠ "java/lang/invoke/MethodHandle" ∧ xX4_reach.1.cls ≠ "java/lang/invoke/VarHandle" ∧ (parseMethodDescriptor xX4_reach.1.desc).map (fun d => d.parameters.length) = some 2 := by decide +kernel
theorem ivX4_reach : Cond.instanceMethod xX4_reach.1 ∈ zT ∧ Cond.selects xX4_reach.1.cls xX4_reach.1 xX4_reach.1 ∈ zT := have h : zChk [883, 884] [Cond.instanceMethod xX4_reach.1, Cond.selects xX4_reach.1.cls xX4_reach.1 xX4_reach.1] = true := by decide +kernel
  ⟨zChk_ok h _ (.head _), zChk_ok h _ (.tail _ (.head _))⟩
theorem lkL_209 : zLk RL 209 xX4_reach 2 := zLk_of [882, 71] (by decide +kernel) wcX4_reach pdX4_reach
set_option maxRecDepth 100000 in
theorem wcX4_refuse : Cond.code xX4_refuse.1 xX4_refuse.2.1 xX4_refuse.2.2.1 xX4_refuse.2.2.2.1 ∈ zT := zT_of (i := 272) rfl rfl
theorem pdX4_refuse : xX4_refuse.1.cls ≠ "java/lang/invoke/MethodHandle" ∧ xX4_refuse.1.cls ≠ "java/lang/invoke/VarHandle" ∧ (parseMethodDescriptor xX4_refuse.1.desc).map (fun d => d.parameters.length) = some 1 := by decide +kernel
theorem ivX4_refuse : Cond.instanceMethod xX4_refuse.1 ∈ zT ∧ Cond.selects xX4_refuse.1.cls xX4_refuse.1 xX4_refuse.1 ∈ zT := have h : zChk [271, 1] [Cond.instanceMethod xX4_refuse.1, Cond.selects xX4_refuse.1.cls xX4_refuse.1 xX4_refuse.1] = true := by decide +kernel
  ⟨zChk_ok h _ (.head _), zChk_ok h _ (.tail _ (.head _))⟩
theorem lkX4_56 : zLk RX4 56 xX4_refuse 1 := zLk_of [269, 71] (by decide +kernel) wcX4_refuse pdX4_refuse
set_option maxRecDepth 100000 in
theorem wcX4_round : Cond.code xX4_round.1 xX4_round.2.1 xX4_round.2.2.1 xX4_round.2.2.2.1 ∈ zT := zT_of (i := 962) rfl rfl
theorem pdX4_round : xX4_round.1.cls ≠ "java/lang/invoke/MethodHandle" ∧ xX4_round.1.cls ≠ "java/lang/invoke/VarHandle" ∧ (parseMethodDescriptor xX4_round.1.desc).map (fun d => d.parameters.length) = some 1 := by decide +kernel
theorem ivX4_round : Cond.instanceMethod xX4_round.1 ∈ zT ∧ Cond.selects xX4_round.1.cls xX4_round.1 xX4_round.1 ∈ zT := have h : zChk [960, 961] [Cond.instanceMethod xX4_round.1, Cond.selects xX4_round.1.cls xX4_round.1 xX4_round.1] = true := by decide +kernel
  ⟨zChk_ok h _ (.head _), zChk_ok h _ (.tail _ (.head _))⟩
theorem lkL_257 : zLk RL 257 xX4_round 1 := zLk_of [959, 71] (by decide +kernel) wcX4_round pdX4_round
set_option maxRecDepth 100000 in
theorem wcX4_row : Cond.code xX4_row.1 xX4_row.2.1 xX4_row.2.2.1 xX4_row.2.2.2.1 ∈ zT := zT_of (i := 261) rfl rfl
theorem pdX4_row : xX4_row.1.cls ≠ "java/lang/invoke/MethodHandle" ∧ xX4_row.1.cls ≠ "java/lang/invoke/VarHandle" ∧ (parseMethodDescriptor xX4_row.1.desc).map (fun d => d.parameters.length) = some 3 := by decide +kernel
theorem ivX4_row : Cond.instanceMethod xX4_row.1 ∈ zT ∧ Cond.selects xX4_row.1.cls xX4_row.1 xX4_row.1 ∈ zT := have h : zChk [259, 260] [Cond.instanceMethod xX4_row.1, Cond.selects xX4_row.1.cls xX4_row.1 xX4_row.1] = true := by decide +kernel
  ⟨zChk_ok h _ (.head _), zChk_ok h _ (.tail _ (.head _))⟩
theorem lkL_13 : zLk RL 13 xX4_row 3 := zLk_of [258, 71] (by decide +kernel) wcX4_row pdX4_row
set_option maxRecDepth 100000 in
theorem wcX4_says : Cond.code xX4_says.1 xX4_says.2.1 xX4_says.2.2.1 xX4_says.2.2.2.1 ∈ zT := zT_of (i := 345) rfl rfl
theorem pdX4_says : xX4_says.1.cls ≠ "java/lang/invoke/MethodHandle" ∧ xX4_says.1.cls ≠ "java/lang/invoke/VarHandle" ∧ (parseMethodDescriptor xX4_says.1.desc).map (fun d => d.parameters.length) = some 2 := by decide +kernel
theorem ivX4_says : Cond.instanceMethod xX4_says.1 ∈ zT ∧ Cond.selects xX4_says.1.cls xX4_says.1 xX4_says.1 ∈ zT := have h : zChk [343, 344] [Cond.instanceMethod xX4_says.1, Cond.selects xX4_says.1.cls xX4_says.1 xX4_says.1] = true := by decide +kernel
  ⟨zChk_ok h _ (.head _), zChk_ok h _ (.tail _ (.head _))⟩
theorem lkL_45 : zLk RL 45 xX4_says 2 := zLk_of [342, 71] (by decide +kernel) wcX4_says pdX4_says
set_option maxRecDepth 100000 in
theorem wcX4_seal : Cond.code xX4_seal.1 xX4_seal.2.1 xX4_seal.2.2.1 xX4_seal.2.2.2.1 ∈ zT := zT_of (i := 699) rfl rfl
theorem pdX4_seal : xX4_seal.1.cls ≠ "java/lang/invoke/MethodHandle" ∧ xX4_seal.1.cls ≠ "java/lang/invoke/VarHandle" ∧ (parseMethodDescriptor xX4_seal.1.desc).map (fun d => d.parameters.length) = some 2 := by decide +kernel
theorem ivX4_seal : Cond.instanceMethod xX4_seal.1 ∈ zT ∧ Cond.selects xX4_seal.1.cls xX4_seal.1 xX4_seal.1 ∈ zT := have h : zChk [697, 698] [Cond.instanceMethod xX4_seal.1, Cond.selects xX4_seal.1.cls xX4_seal.1 xX4_seal.1] = true := by decide +kernel
  ⟨zChk_ok h _ (.head _), zChk_ok h _ (.tail _ (.head _))⟩
theorem lkL_141 : zLk RL 141 xX4_seal 2 := zLk_of [696, 71] (by decide +kernel) wcX4_seal pdX4_seal
set_option maxRecDepth 100000 in
theorem wcX4_secret : Cond.code xX4_secret.1 xX4_secret.2.1 xX4_secret.2.2.1 xX4_secret.2.2.2.1 ∈ zT := zT_of (i := 876) rfl rfl
theorem pdX4_secret : xX4_secret.1.cls ≠ "java/lang/invoke/MethodHandle" ∧ xX4_secret.1.cls ≠ "java/lang/invoke/VarHandle" ∧ (parseMethodDescriptor xX4_secret.1.desc).map (fun d => d.parameters.length) = some 0 := by decide +kernel
theorem ivX4_secret : Cond.instanceMethod xX4_secret.1 ∈ zT ∧ Cond.selects xX4_secret.1.cls xX4_secret.1 xX4_secret.1 ∈ zT := have h : zChk [874, 875] [Cond.instanceMethod xX4_secret.1, Cond.selects xX4_secret.1.cls xX4_secret.1 xX4_secret.1] = true := by decide +kernel
  ⟨zChk_ok h _ (.head _), zChk_ok h _ (.tail _ (.head _))⟩
theorem lkL_201 : zLk RL 201 xX4_secret 0 := zLk_of [873, 71] (by decide +kernel) wcX4_secret pdX4_secret
set_option maxRecDepth 100000 in
theorem wcX4_seed : Cond.code xX4_seed.1 xX4_seed.2.1 xX4_seed.2.2.1 xX4_seed.2.2.2.1 ∈ zT := zT_of (i := 992) rfl rfl
theorem pdX4_seed : xX4_seed.1.cls ≠ "java/lang/invoke/MethodHandle" ∧ xX4_seed.1.cls ≠ "java/lang/invoke/VarHandle" ∧ (parseMethodDescriptor xX4_seed.1.desc).map (fun d => d.parameters.length) = some 1 := by decide +kernel
theorem ivX4_seed : Cond.instanceMethod xX4_seed.1 ∈ zT ∧ Cond.selects xX4_seed.1.cls xX4_seed.1 xX4_seed.1 ∈ zT := have h : zChk [990, 991] [Cond.instanceMethod xX4_seed.1, Cond.selects xX4_seed.1.cls xX4_seed.1 xX4_seed.1] = true := by decide +kernel
  ⟨zChk_ok h _ (.head _), zChk_ok h _ (.tail _ (.head _))⟩
theorem lkL_265 : zLk RL 265 xX4_seed 1 := zLk_of [989, 71] (by decide +kernel) wcX4_seed pdX4_seed
set_option maxRecDepth 100000 in
theorem wcX4_set : Cond.code xX4_set.1 xX4_set.2.1 xX4_set.2.2.1 xX4_set.2.2.2.1 ∈ zT := zT_of (i := 280) rfl rfl
theorem pdX4_set : xX4_set.1.cls ≠ "java/lang/invoke/MethodHandle" ∧ xX4_set.1.cls ≠ "java/lang/invoke/VarHandle" ∧ (parseMethodDescriptor xX4_set.1.desc).map (fun d => d.parameters.length) = some 3 := by decide +kernel
theorem ivX4_set : Cond.instanceMethod xX4_set.1 ∈ zT ∧ Cond.selects xX4_set.1.cls xX4_set.1 xX4_set.1 ∈ zT := have h : zChk [278, 279] [Cond.instanceMethod xX4_set.1, Cond.selects xX4_set.1.cls xX4_set.1 xX4_set.1] = true := by decide +kernel
  ⟨zChk_ok h _ (.head _), zChk_ok h _ (.tail _ (.head _))⟩
theorem lkL_20 : zLk RL 20 xX4_set 3 := zLk_of [277, 71] (by decide +kernel) wcX4_set pdX4_set
set_option maxRecDepth 100000 in
theorem wcX4_shelvesInUse : Cond.code xX4_shelvesInUse.1 xX4_shelvesInUse.2.1 xX4_shelvesInUse.2.2.1 xX4_shelvesInUse.2.2.2.1 ∈ zT := zT_of (i := 1016) rfl rfl
theorem pdX4_shelvesInUse : xX4_shelvesInUse.1.cls ≠ "java/lang/invoke/MethodHandle" ∧ xX4_shelvesInUse.1.cls ≠ "java/lang/invoke/VarHandle" ∧ (parseMethodDescriptor xX4_shelvesInUse.1.desc).map (fun d => d.parameters.length) = some 0 := by decide +kernel
theorem ivX4_shelvesInUse : Cond.instanceMethod xX4_shelvesInUse.1 ∈ zT ∧ Cond.selects xX4_shelvesInUse.1.cls xX4_shelvesInUse.1 xX4_shelvesInUse.1 ∈ zT := have h : zChk [1015, 28] [Cond.instanceMethod xX4_shelvesInUse.1, Cond.selects xX4_shelvesInUse.1.cls xX4_shelvesInUse.1 xX4_shelvesInUse.1] = true := by decide +kernel
  ⟨zChk_ok h _ (.head _), zChk_ok h _ (.tail _ (.head _))⟩
theorem lkX4_372 : zLk RX4 372 xX4_shelvesInUse 0 := zLk_of [1013, 71] (by decide +kernel) wcX4_shelvesInUse pdX4_shelvesInUse
set_option maxRecDepth 100000 in
theorem wcX4_shout : Cond.code xX4_shout.1 xX4_shout.2.1 xX4_shout.2.2.1 xX4_shout.2.2.2.1 ∈ zT := zT_of (i := 707) rfl rfl
theorem pdX4_shout : xX4_shout.1.cls ≠ "java/lang/invoke/MethodHandle" ∧ xX4_shout.1.cls ≠ "java/lang/invoke/VarHandle" ∧ (parseMethodDescriptor xX4_shout.1.desc).map (fun d => d.parameters.length) = some 2 := by decide +kernel
theorem ivX4_shout : Cond.instanceMethod xX4_shout.1 ∈ zT ∧ Cond.selects xX4_shout.1.cls xX4_shout.1 xX4_shout.1 ∈ zT := have h : zChk [705, 706] [Cond.instanceMethod xX4_shout.1, Cond.selects xX4_shout.1.cls xX4_shout.1 xX4_shout.1] = true := by decide +kernel
  ⟨zChk_ok h _ (.head _), zChk_ok h _ (.tail _ (.head _))⟩
theorem lkL_145 : zLk RL 145 xX4_shout 2 := zLk_of [704, 71] (by decide +kernel) wcX4_shout pdX4_shout
set_option maxRecDepth 100000 in
theorem wcX4_show : Cond.code xX4_show.1 xX4_show.2.1 xX4_show.2.2.1 xX4_show.2.2.2.1 ∈ zT := zT_of (i := 329) rfl rfl
theorem pdX4_show : xX4_show.1.cls ≠ "java/lang/invoke/MethodHandle" ∧ xX4_show.1.cls ≠ "java/lang/invoke/VarHandle" ∧ (parseMethodDescriptor xX4_show.1.desc).map (fun d => d.parameters.length) = some 2 := by decide +kernel
theorem ivX4_show : Cond.instanceMethod xX4_show.1 ∈ zT ∧ Cond.selects xX4_show.1.cls xX4_show.1 xX4_show.1 ∈ zT := have h : zChk [327, 328] [Cond.instanceMethod xX4_show.1, Cond.selects xX4_show.1.cls xX4_show.1 xX4_show.1] = true := by decide +kernel
  ⟨zChk_ok h _ (.head _), zChk_ok h _ (.tail _ (.head _))⟩
theorem lkL_40 : zLk RL 40 xX4_show 2 := zLk_of [326, 71] (by decide +kernel) wcX4_show pdX4_show
set_option maxRecDepth 100000 in
theorem wcX4_sober : Cond.code xX4_sober.1 xX4_sober.2.1 xX4_sober.2.2.1 xX4_sober.2.2.2.1 ∈ zT := zT_of (i := 907) rfl rfl
theorem pdX4_sober : xX4_sober.1.cls ≠ "java/lang/invoke/MethodHandle" ∧ xX4_sober.1.cls ≠ "java/lang/invoke/VarHandle" ∧ (parseMethodDescriptor xX4_sober.1.desc).map (fun d => d.parameters.length) = some 1 := by decide +kernel
theorem ivX4_sober : Cond.instanceMethod xX4_sober.1 ∈ zT ∧ Cond.selects xX4_sober.1.cls xX4_sober.1 xX4_sober.1 ∈ zT := have h : zChk [905, 906] [Cond.instanceMethod xX4_sober.1, Cond.selects xX4_sober.1.cls xX4_sober.1 xX4_sober.1] = true := by decide +kernel
  ⟨zChk_ok h _ (.head _), zChk_ok h _ (.tail _ (.head _))⟩
theorem lkL_225 : zLk RL 225 xX4_sober 1 := zLk_of [904, 71] (by decide +kernel) wcX4_sober pdX4_sober
set_option maxRecDepth 100000 in
theorem wcX4_status : Cond.code xX4_status.1 xX4_status.2.1 xX4_status.2.2.1 xX4_status.2.2.2.1 ∈ zT := zT_of (i := 1004) rfl rfl
theorem pdX4_status : xX4_status.1.cls ≠ "java/lang/invoke/MethodHandle" ∧ xX4_status.1.cls ≠ "java/lang/invoke/VarHandle" ∧ (parseMethodDescriptor xX4_status.1.desc).map (fun d => d.parameters.length) = some 1 := by decide +kernel
theorem ivX4_status : Cond.instanceMethod xX4_status.1 ∈ zT ∧ Cond.selects xX4_status.1.cls xX4_status.1 xX4_status.1 ∈ zT := have h : zChk [1002, 1003] [Cond.instanceMethod xX4_status.1, Cond.selects xX4_status.1.cls xX4_status.1 xX4_status.1] = true := by decide +kernel
  ⟨zChk_ok h _ (.head _), zChk_ok h _ (.tail _ (.head _))⟩
theorem lkL_277 : zLk RL 277 xX4_status 1 := zLk_of [1001, 71] (by decide +kernel) wcX4_status pdX4_status
set_option maxRecDepth 100000 in
theorem wcX4_sure : Cond.code xX4_sure.1 xX4_sure.2.1 xX4_sure.2.2.1 xX4_sure.2.2.2.1 ∈ zT := zT_of (i := 819) rfl rfl
theorem pdX4_sure : xX4_sure.1.cls ≠ "java/lang/invoke/MethodHandle" ∧ xX4_sure.1.cls ≠ "java/lang/invoke/VarHandle" ∧ (parseMethodDescriptor xX4_sure.1.desc).map (fun d => d.parameters.length) = some 1 := by decide +kernel
theorem ivX4_sure : Cond.instanceMethod xX4_sure.1 ∈ zT ∧ Cond.selects xX4_sure.1.cls xX4_sure.1 xX4_sure.1 ∈ zT := have h : zChk [817, 818] [Cond.instanceMethod xX4_sure.1, Cond.selects xX4_sure.1.cls xX4_sure.1 xX4_sure.1] = true := by decide +kernel
  ⟨zChk_ok h _ (.head _), zChk_ok h _ (.tail _ (.head _))⟩
theorem lkL_177 : zLk RL 177 xX4_sure 1 := zLk_of [816, 71] (by decide +kernel) wcX4_sure pdX4_sure
set_option maxRecDepth 100000 in
theorem wcX4_taught : Cond.code xX4_taught.1 xX4_taught.2.1 xX4_taught.2.2.1 xX4_taught.2.2.2.1 ∈ zT := zT_of (i := 929) rfl rfl
theorem pdX4_taught : xX4_taught.1.cls ≠ "java/lang/invoke/MethodHandle" ∧ xX4_taught.1.cls ≠ "java/lang/invoke/VarHandle" ∧ (parseMethodDescriptor xX4_taught.1.desc).map (fun d => d.parameters.length) = some 2 := by decide +kernel
theorem ivX4_taught : Cond.instanceMethod xX4_taught.1 ∈ zT ∧ Cond.selects xX4_taught.1.cls xX4_taught.1 xX4_taught.1 ∈ zT := have h : zChk [927, 928] [Cond.instanceMethod xX4_taught.1, Cond.selects xX4_taught.1.cls xX4_taught.1 xX4_taught.1] = true := by decide +kernel
  ⟨zChk_ok h _ (.head _), zChk_ok h _ (.tail _ (.head _))⟩
theorem lkL_233 : zLk RL 233 xX4_taught 2 := zLk_of [926, 71] (by decide +kernel) wcX4_taught pdX4_taught
set_option maxRecDepth 100000 in
theorem wcX4_tell : Cond.code xX4_tell.1 xX4_tell.2.1 xX4_tell.2.2.1 xX4_tell.2.2.2.1 ∈ zT := zT_of (i := 420) rfl rfl
theorem pdX4_tell : xX4_tell.1.cls ≠ "java/lang/invoke/MethodHandle" ∧ xX4_tell.1.cls ≠ "java/lang/invoke/VarHandle" ∧ (parseMethodDescriptor xX4_tell.1.desc).map (fun d => d.parameters.length) = some 3 := by decide +kernel
theorem ivX4_tell : Cond.instanceMethod xX4_tell.1 ∈ zT ∧ Cond.selects xX4_tell.1.cls xX4_tell.1 xX4_tell.1 ∈ zT := have h : zChk [418, 419] [Cond.instanceMethod xX4_tell.1, Cond.selects xX4_tell.1.cls xX4_tell.1 xX4_tell.1] = true := by decide +kernel
  ⟨zChk_ok h _ (.head _), zChk_ok h _ (.tail _ (.head _))⟩
theorem lkL_62 : zLk RL 62 xX4_tell 3 := zLk_of [417, 71] (by decide +kernel) wcX4_tell pdX4_tell
set_option maxRecDepth 100000 in
theorem wcX4_thirst : Cond.code xX4_thirst.1 xX4_thirst.2.1 xX4_thirst.2.2.1 xX4_thirst.2.2.2.1 ∈ zT := zT_of (i := 915) rfl rfl
theorem pdX4_thirst : xX4_thirst.1.cls ≠ "java/lang/invoke/MethodHandle" ∧ xX4_thirst.1.cls ≠ "java/lang/invoke/VarHandle" ∧ (parseMethodDescriptor xX4_thirst.1.desc).map (fun d => d.parameters.length) = some 1 := by decide +kernel
theorem ivX4_thirst : Cond.instanceMethod xX4_thirst.1 ∈ zT ∧ Cond.selects xX4_thirst.1.cls xX4_thirst.1 xX4_thirst.1 ∈ zT := have h : zChk [913, 914] [Cond.instanceMethod xX4_thirst.1, Cond.selects xX4_thirst.1.cls xX4_thirst.1 xX4_thirst.1] = true := by decide +kernel
  ⟨zChk_ok h _ (.head _), zChk_ok h _ (.tail _ (.head _))⟩
theorem lkL_229 : zLk RL 229 xX4_thirst 1 := zLk_of [912, 71] (by decide +kernel) wcX4_thirst pdX4_thirst
set_option maxRecDepth 100000 in
theorem wcX4_toldFault : Cond.code xX4_toldFault.1 xX4_toldFault.2.1 xX4_toldFault.2.2.1 xX4_toldFault.2.2.2.1 ∈ zT := zT_of (i := 723) rfl rfl
theorem pdX4_toldFault : xX4_toldFault.1.cls ≠ "java/lang/invoke/MethodHandle" ∧ xX4_toldFault.1.cls ≠ "java/lang/invoke/VarHandle" ∧ (parseMethodDescriptor xX4_toldFault.1.desc).map (fun d => d.parameters.length) = some 4 := by decide +kernel
theorem ivX4_toldFault : Cond.instanceMethod xX4_toldFault.1 ∈ zT ∧ Cond.selects xX4_toldFault.1.cls xX4_toldFault.1 xX4_toldFault.1 ∈ zT := have h : zChk [722, 21] [Cond.instanceMethod xX4_toldFault.1, Cond.selects xX4_toldFault.1.cls xX4_toldFault.1 xX4_toldFault.1] = true := by decide +kernel
  ⟨zChk_ok h _ (.head _), zChk_ok h _ (.tail _ (.head _))⟩
theorem lkX4_249 : zLk RX4 249 xX4_toldFault 4 := zLk_of [720, 71] (by decide +kernel) wcX4_toldFault pdX4_toldFault
set_option maxRecDepth 100000 in
theorem wcX4_turned : Cond.code xX4_turned.1 xX4_turned.2.1 xX4_turned.2.2.1 xX4_turned.2.2.2.1 ∈ zT := zT_of (i := 828) rfl rfl
theorem pdX4_turned : xX4_turned.1.cls ≠ "java/lang/invoke/MethodHandle" ∧ xX4_turned.1.cls ≠ "java/lang/invoke/VarHandle" ∧ (parseMethodDescriptor xX4_turned.1.desc).map (fun d => d.parameters.length) = some 1 := by decide +kernel
theorem ivX4_turned : Cond.instanceMethod xX4_turned.1 ∈ zT ∧ Cond.selects xX4_turned.1.cls xX4_turned.1 xX4_turned.1 ∈ zT := have h : zChk [826, 827] [Cond.instanceMethod xX4_turned.1, Cond.selects xX4_turned.1.cls xX4_turned.1 xX4_turned.1] = true := by decide +kernel
  ⟨zChk_ok h _ (.head _), zChk_ok h _ (.tail _ (.head _))⟩
theorem lkL_181 : zLk RL 181 xX4_turned 1 := zLk_of [825, 71] (by decide +kernel) wcX4_turned pdX4_turned
set_option maxRecDepth 100000 in
theorem wcX4_way : Cond.code xX4_way.1 xX4_way.2.1 xX4_way.2.2.1 xX4_way.2.2.2.1 ∈ zT := zT_of (i := 436) rfl rfl
theorem pdX4_way : xX4_way.1.cls ≠ "java/lang/invoke/MethodHandle" ∧ xX4_way.1.cls ≠ "java/lang/invoke/VarHandle" ∧ (parseMethodDescriptor xX4_way.1.desc).map (fun d => d.parameters.length) = some 1 := by decide +kernel
theorem ivX4_way : Cond.instanceMethod xX4_way.1 ∈ zT ∧ Cond.selects xX4_way.1.cls xX4_way.1 xX4_way.1 ∈ zT := have h : zChk [434, 435] [Cond.instanceMethod xX4_way.1, Cond.selects xX4_way.1.cls xX4_way.1 xX4_way.1] = true := by decide +kernel
  ⟨zChk_ok h _ (.head _), zChk_ok h _ (.tail _ (.head _))⟩
theorem lkL_75 : zLk RL 75 xX4_way 1 := zLk_of [433, 71] (by decide +kernel) wcX4_way pdX4_way
set_option maxRecDepth 100000 in
theorem wcX4_whoKnows : Cond.code xX4_whoKnows.1 xX4_whoKnows.2.1 xX4_whoKnows.2.2.1 xX4_whoKnows.2.2.2.1 ∈ zT := zT_of (i := 609) rfl rfl
theorem pdX4_whoKnows : xX4_whoKnows.1.cls ≠ "java/lang/invoke/MethodHandle" ∧ xX4_whoKnows.1.cls ≠ "java/lang/invoke/VarHandle" ∧ (parseMethodDescriptor xX4_whoKnows.1.desc).map (fun d => d.parameters.length) = some 1 := by decide +kernel
theorem ivX4_whoKnows : Cond.instanceMethod xX4_whoKnows.1 ∈ zT ∧ Cond.selects xX4_whoKnows.1.cls xX4_whoKnows.1 xX4_whoKnows.1 ∈ zT := have h : zChk [607, 608] [Cond.instanceMethod xX4_whoKnows.1, Cond.selects xX4_whoKnows.1.cls xX4_whoKnows.1 xX4_whoKnows.1] = true := by decide +kernel
  ⟨zChk_ok h _ (.head _), zChk_ok h _ (.tail _ (.head _))⟩
theorem lkL_109 : zLk RL 109 xX4_whoKnows 1 := zLk_of [606, 71] (by decide +kernel) wcX4_whoKnows pdX4_whoKnows
set_option maxRecDepth 100000 in
theorem wcX4_widest : Cond.code xX4_widest.1 xX4_widest.2.1 xX4_widest.2.2.1 xX4_widest.2.2.2.1 ∈ zT := zT_of (i := 855) rfl rfl
theorem pdX4_widest : xX4_widest.1.cls ≠ "java/lang/invoke/MethodHandle" ∧ xX4_widest.1.cls ≠ "java/lang/invoke/VarHandle" ∧ (parseMethodDescriptor xX4_widest.1.desc).map (fun d => d.parameters.length) = some 2 := by decide +kernel
theorem ivX4_widest : Cond.instanceMethod xX4_widest.1 ∈ zT ∧ Cond.selects xX4_widest.1.cls xX4_widest.1 xX4_widest.1 ∈ zT := have h : zChk [853, 854] [Cond.instanceMethod xX4_widest.1, Cond.selects xX4_widest.1.cls xX4_widest.1 xX4_widest.1] = true := by decide +kernel
  ⟨zChk_ok h _ (.head _), zChk_ok h _ (.tail _ (.head _))⟩
theorem lkL_193 : zLk RL 193 xX4_widest 2 := zLk_of [852, 71] (by decide +kernel) wcX4_widest pdX4_widest
set_option maxRecDepth 100000 in
theorem wcX4_winds : Cond.code xX4_winds.1 xX4_winds.2.1 xX4_winds.2.2.1 xX4_winds.2.2.2.1 ∈ zT := zT_of (i := 772) rfl rfl
theorem pdX4_winds : xX4_winds.1.cls ≠ "java/lang/invoke/MethodHandle" ∧ xX4_winds.1.cls ≠ "java/lang/invoke/VarHandle" ∧ (parseMethodDescriptor xX4_winds.1.desc).map (fun d => d.parameters.length) = some 3 := by decide +kernel
theorem ivX4_winds : Cond.instanceMethod xX4_winds.1 ∈ zT ∧ Cond.selects xX4_winds.1.cls xX4_winds.1 xX4_winds.1 ∈ zT := have h : zChk [770, 771] [Cond.instanceMethod xX4_winds.1, Cond.selects xX4_winds.1.cls xX4_winds.1 xX4_winds.1] = true := by decide +kernel
  ⟨zChk_ok h _ (.head _), zChk_ok h _ (.tail _ (.head _))⟩
theorem lkL_161 : zLk RL 161 xX4_winds 3 := zLk_of [769, 71] (by decide +kernel) wcX4_winds pdX4_winds
set_option maxRecDepth 100000 in
theorem wcX4_wipe : Cond.code xX4_wipe.1 xX4_wipe.2.1 xX4_wipe.2.2.1 xX4_wipe.2.2.2.1 ∈ zT := zT_of (i := 456) rfl rfl
theorem pdX4_wipe : xX4_wipe.1.cls ≠ "java/lang/invoke/MethodHandle" ∧ xX4_wipe.1.cls ≠ "java/lang/invoke/VarHandle" ∧ (parseMethodDescriptor xX4_wipe.1.desc).map (fun d => d.parameters.length) = some 0 := by decide +kernel
theorem ivX4_wipe : Cond.instanceMethod xX4_wipe.1 ∈ zT ∧ Cond.selects xX4_wipe.1.cls xX4_wipe.1 xX4_wipe.1 ∈ zT := have h : zChk [454, 455] [Cond.instanceMethod xX4_wipe.1, Cond.selects xX4_wipe.1.cls xX4_wipe.1 xX4_wipe.1] = true := by decide +kernel
  ⟨zChk_ok h _ (.head _), zChk_ok h _ (.tail _ (.head _))⟩
theorem lkL_84 : zLk RL 84 xX4_wipe 0 := zLk_of [453, 71] (by decide +kernel) wcX4_wipe pdX4_wipe
set_option maxRecDepth 100000 in
theorem wcX4_wise : Cond.code xX4_wise.1 xX4_wise.2.1 xX4_wise.2.2.1 xX4_wise.2.2.2.1 ∈ zT := zT_of (i := 868) rfl rfl
theorem pdX4_wise : xX4_wise.1.cls ≠ "java/lang/invoke/MethodHandle" ∧ xX4_wise.1.cls ≠ "java/lang/invoke/VarHandle" ∧ (parseMethodDescriptor xX4_wise.1.desc).map (fun d => d.parameters.length) = some 0 := by decide +kernel
theorem ivX4_wise : Cond.instanceMethod xX4_wise.1 ∈ zT ∧ Cond.selects xX4_wise.1.cls xX4_wise.1 xX4_wise.1 ∈ zT := have h : zChk [866, 867] [Cond.instanceMethod xX4_wise.1, Cond.selects xX4_wise.1.cls xX4_wise.1 xX4_wise.1] = true := by decide +kernel
  ⟨zChk_ok h _ (.head _), zChk_ok h _ (.tail _ (.head _))⟩
theorem lkL_197 : zLk RL 197 xX4_wise 0 := zLk_of [865, 71] (by decide +kernel) wcX4_wise pdX4_wise
set_option maxRecDepth 100000 in
theorem wcX4_words : Cond.code xX4_words.1 xX4_words.2.1 xX4_words.2.2.1 xX4_words.2.2.2.1 ∈ zT := zT_of (i := 647) rfl rfl
theorem pdX4_words : xX4_words.1.cls ≠ "java/lang/invoke/MethodHandle" ∧ xX4_words.1.cls ≠ "java/lang/invoke/VarHandle" ∧ (parseMethodDescriptor xX4_words.1.desc).map (fun d => d.parameters.length) = some 1 := by decide +kernel
theorem ivX4_words : Cond.instanceMethod xX4_words.1 ∈ zT ∧ Cond.selects xX4_words.1.cls xX4_words.1 xX4_words.1 ∈ zT := have h : zChk [645, 646] [Cond.instanceMethod xX4_words.1, Cond.selects xX4_words.1.cls xX4_words.1 xX4_words.1] = true := by decide +kernel
  ⟨zChk_ok h _ (.head _), zChk_ok h _ (.tail _ (.head _))⟩
theorem lkL_125 : zLk RL 125 xX4_words 1 := zLk_of [644, 71] (by decide +kernel) wcX4_words pdX4_words
set_option maxRecDepth 100000 in
theorem wcX5_addLetter : Cond.code xX5_addLetter.1 xX5_addLetter.2.1 xX5_addLetter.2.2.1 xX5_addLetter.2.2.2.1 ∈ zT := zT_of (i := 1239) rfl rfl
theorem pdX5_addLetter : xX5_addLetter.1.cls ≠ "java/lang/invoke/MethodHandle" ∧ xX5_addLetter.1.cls ≠ "java/lang/invoke/VarHandle" ∧ (parseMethodDescriptor xX5_addLetter.1.desc).map (fun d => d.parameters.length) = some 4 := by decide +kernel
theorem ivX5_addLetter : Cond.instanceMethod xX5_addLetter.1 ∈ zT ∧ Cond.selects xX5_addLetter.1.cls xX5_addLetter.1 xX5_addLetter.1 ∈ zT := have h : zChk [1238, 38] [Cond.instanceMethod xX5_addLetter.1, Cond.selects xX5_addLetter.1.cls xX5_addLetter.1 xX5_addLetter.1] = true := by decide +kernel
  ⟨zChk_ok h _ (.head _), zChk_ok h _ (.tail _ (.head _))⟩
theorem lkX5_127 : zLk RX5 127 xX5_addLetter 4 := zLk_of [1236, 76] (by decide +kernel) wcX5_addLetter pdX5_addLetter
set_option maxRecDepth 100000 in
theorem wcX5_address : Cond.code xX5_address.1 xX5_address.2.1 xX5_address.2.2.1 xX5_address.2.2.2.1 ∈ zT := zT_of (i := 1446) rfl rfl
theorem pdX5_address : xX5_address.1.cls ≠ "java/lang/invoke/MethodHandle" ∧ xX5_address.1.cls ≠ "java/lang/invoke/VarHandle" ∧ (parseMethodDescriptor xX5_address.1.desc).map (fun d => d.parameters.length) = some 2 := by decide +kernel
theorem ivX5_address : Cond.instanceMethod xX5_address.1 ∈ zT ∧ Cond.selects xX5_address.1.cls xX5_address.1 xX5_address.1 ∈ zT := have h : zChk [1444, 1445] [Cond.instanceMethod xX5_address.1, Cond.selects xX5_address.1.cls xX5_address.1 xX5_address.1] = true := by decide +kernel
  ⟨zChk_ok h _ (.head _), zChk_ok h _ (.tail _ (.head _))⟩
theorem lkL_136 : zLk RL 136 xX5_address 2 := zLk_of [1443, 76] (by decide +kernel) wcX5_address pdX5_address
set_option maxRecDepth 100000 in
theorem wcX5_alike : Cond.code xX5_alike.1 xX5_alike.2.1 xX5_alike.2.2.1 xX5_alike.2.2.2.1 ∈ zT := zT_of (i := 1394) rfl rfl
theorem pdX5_alike : xX5_alike.1.cls ≠ "java/lang/invoke/MethodHandle" ∧ xX5_alike.1.cls ≠ "java/lang/invoke/VarHandle" ∧ (parseMethodDescriptor xX5_alike.1.desc).map (fun d => d.parameters.length) = some 2 := by decide +kernel
theorem ivX5_alike : Cond.instanceMethod xX5_alike.1 ∈ zT ∧ Cond.selects xX5_alike.1.cls xX5_alike.1 xX5_alike.1 ∈ zT := have h : zChk [1392, 1393] [Cond.instanceMethod xX5_alike.1, Cond.selects xX5_alike.1.cls xX5_alike.1 xX5_alike.1] = true := by decide +kernel
  ⟨zChk_ok h _ (.head _), zChk_ok h _ (.tail _ (.head _))⟩
theorem lkL_220 : zLk RL 220 xX5_alike 2 := zLk_of [1391, 76] (by decide +kernel) wcX5_alike pdX5_alike
set_option maxRecDepth 100000 in
theorem wcX5_answer : Cond.code xX5_answer.1 xX5_answer.2.1 xX5_answer.2.2.1 xX5_answer.2.2.2.1 ∈ zT := zT_of (i := 1554) rfl rfl
theorem pdX5_answer : xX5_answer.1.cls ≠ "java/lang/invoke/MethodHandle" ∧ xX5_answer.1.cls ≠ "java/lang/invoke/VarHandle" ∧ (parseMethodDescriptor xX5_answer.1.desc).map (fun d => d.parameters.length) = some 5 := by decide +kernel
theorem ivX5_answer : Cond.instanceMethod xX5_answer.1 ∈ zT ∧ Cond.selects xX5_answer.1.cls xX5_answer.1 xX5_answer.1 ∈ zT := have h : zChk [1552, 1553] [Cond.instanceMethod xX5_answer.1, Cond.selects xX5_answer.1.cls xX5_answer.1 xX5_answer.1] = true := by decide +kernel
  ⟨zChk_ok h _ (.head _), zChk_ok h _ (.tail _ (.head _))⟩
theorem lkL_172 : zLk RL 172 xX5_answer 5 := zLk_of [1551, 76] (by decide +kernel) wcX5_answer pdX5_answer
set_option maxRecDepth 100000 in
theorem wcX5_areBoth : Cond.code xX5_areBoth.1 xX5_areBoth.2.1 xX5_areBoth.2.2.1 xX5_areBoth.2.2.2.1 ∈ zT := zT_of (i := 1354) rfl rfl
theorem pdX5_areBoth : xX5_areBoth.1.cls ≠ "java/lang/invoke/MethodHandle" ∧ xX5_areBoth.1.cls ≠ "java/lang/invoke/VarHandle" ∧ (parseMethodDescriptor xX5_areBoth.1.desc).map (fun d => d.parameters.length) = some 2 := by decide +kernel
theorem ivX5_areBoth : Cond.instanceMethod xX5_areBoth.1 ∈ zT ∧ Cond.selects xX5_areBoth.1.cls xX5_areBoth.1 xX5_areBoth.1 ∈ zT := have h : zChk [1353, 50] [Cond.instanceMethod xX5_areBoth.1, Cond.selects xX5_areBoth.1.cls xX5_areBoth.1 xX5_areBoth.1] = true := by decide +kernel
  ⟨zChk_ok h _ (.head _), zChk_ok h _ (.tail _ (.head _))⟩
theorem lkX5_248 : zLk RX5 248 xX5_areBoth 2 := zLk_of [1351, 76] (by decide +kernel) wcX5_areBoth pdX5_areBoth
set_option maxRecDepth 100000 in
theorem wcX5_ask : Cond.code xX5_ask.1 xX5_ask.2.1 xX5_ask.2.2.1 xX5_ask.2.2.2.1 ∈ zT := zT_of (i := 1530) rfl rfl
theorem pdX5_ask : xX5_ask.1.cls ≠ "java/lang/invoke/MethodHandle" ∧ xX5_ask.1.cls ≠ "java/lang/invoke/VarHandle" ∧ (parseMethodDescriptor xX5_ask.1.desc).map (fun d => d.parameters.length) = some 3 := by decide +kernel
theorem ivX5_ask : Cond.instanceMethod xX5_ask.1 ∈ zT ∧ Cond.selects xX5_ask.1.cls xX5_ask.1 xX5_ask.1 ∈ zT := have h : zChk [1528, 1529] [Cond.instanceMethod xX5_ask.1, Cond.selects xX5_ask.1.cls xX5_ask.1 xX5_ask.1] = true := by decide +kernel
  ⟨zChk_ok h _ (.head _), zChk_ok h _ (.tail _ (.head _))⟩
theorem lkL_160 : zLk RL 160 xX5_ask 3 := zLk_of [1527, 76] (by decide +kernel) wcX5_ask pdX5_ask
set_option maxRecDepth 100000 in
theorem wcX5_back : Cond.code xX5_back.1 xX5_back.2.1 xX5_back.2.2.1 xX5_back.2.2.2.1 ∈ zT := zT_of (i := 1609) rfl rfl
theorem pdX5_back : xX5_back.1.cls ≠ "java/lang/invoke/MethodHandle" ∧ xX5_back.1.cls ≠ "java/lang/invoke/VarHandle" ∧ (parseMethodDescriptor xX5_back.1.desc).map (fun d => d.parameters.length) = some 0 := by decide +kernel
theorem ivX5_back : Cond.instanceMethod xX5_back.1 ∈ zT ∧ Cond.selects xX5_back.1.cls xX5_back.1 xX5_back.1 ∈ zT := have h : zChk [1607, 1608] [Cond.instanceMethod xX5_back.1, Cond.selects xX5_back.1.cls xX5_back.1 xX5_back.1] = true := by decide +kernel
  ⟨zChk_ok h _ (.head _), zChk_ok h _ (.tail _ (.head _))⟩
theorem lkL_276 : zLk RL 276 xX5_back 0 := zLk_of [1606, 76] (by decide +kernel) wcX5_back pdX5_back
set_option maxRecDepth 100000 in
theorem wcX5_below : Cond.code xX5_below.1 xX5_below.2.1 xX5_below.2.2.1 xX5_below.2.2.2.1 ∈ zT := zT_of (i := 1596) rfl rfl
theorem pdX5_below : xX5_below.1.cls ≠ "java/lang/invoke/MethodHandle" ∧ xX5_below.1.cls ≠ "java/lang/invoke/VarHandle" ∧ (parseMethodDescriptor xX5_below.1.desc).map (fun d => d.parameters.length) = some 1 := by decide +kernel
theorem ivX5_below : Cond.instanceMethod xX5_below.1 ∈ zT ∧ Cond.selects xX5_below.1.cls xX5_below.1 xX5_below.1 ∈ zT := have h : zChk [1595, 69] [Cond.instanceMethod xX5_below.1, Cond.selects xX5_below.1.cls xX5_below.1 xX5_below.1] = true := by decide +kernel
  ⟨zChk_ok h _ (.head _), zChk_ok h _ (.tail _ (.head _))⟩
theorem lkX5_337 : zLk RX5 337 xX5_below 1 := zLk_of [1593, 76] (by decide +kernel) wcX5_below pdX5_below
set_option maxRecDepth 100000 in
theorem wcX5_best : Cond.code xX5_best.1 xX5_best.2.1 xX5_best.2.2.1 xX5_best.2.2.2.1 ∈ zT := zT_of (i := 1422) rfl rfl
theorem pdX5_best : xX5_best.1.cls ≠ "java/lang/invoke/MethodHandle" ∧ xX5_best.1.cls ≠ "java/lang/invoke/VarHandle" ∧ (parseMethodDescriptor xX5_best.1.desc).map (fun d => d.parameters.length) = some 1 := by decide +kernel
theorem ivX5_best : Cond.instanceMethod xX5_best.1 ∈ zT ∧ Cond.selects xX5_best.1.cls xX5_best.1 xX5_best.1 ∈ zT := have h : zChk [1420, 1421] [Cond.instanceMethod xX5_best.1, Cond.selects xX5_best.1.cls xX5_best.1 xX5_best.1] = true := by decide +kernel
  ⟨zChk_ok h _ (.head _), zChk_ok h _ (.tail _ (.head _))⟩
theorem lkL_132 : zLk RL 132 xX5_best 1 := zLk_of [1419, 76] (by decide +kernel) wcX5_best pdX5_best
set_option maxRecDepth 100000 in
theorem wcX5_bits : Cond.code xX5_bits.1 xX5_bits.2.1 xX5_bits.2.2.1 xX5_bits.2.2.2.1 ∈ zT := zT_of (i := 1442) rfl rfl
theorem pdX5_bits : xX5_bits.1.cls ≠ "java/lang/invoke/MethodHandle" ∧ xX5_bits.1.cls ≠ "java/lang/invoke/VarHandle" ∧ (parseMethodDescriptor xX5_bits.1.desc).map (fun d => d.parameters.length) = some 1 := by decide +kernel
theorem isX5_bits : Cond.static xX5_bits.1 ∈ zT := have h : zChk [1441] [Cond.static xX5_bits.1] = true := by decide +kernel
  zChk_ok h _ (.head _)
theorem lkX5_262 : zLk RX5 262 xX5_bits 1 := zLk_of [1440, 76] (by decide +kernel) wcX5_bits pdX5_bits
set_option maxRecDepth 100000 in
theorem wcX5_chance : Cond.code xX5_chance.1 xX5_chance.2.1 xX5_chance.2.2.1 xX5_chance.2.2.2.1 ∈ zT := zT_of (i := 1558) rfl rfl
theorem pdX5_chance : xX5_chance.1.cls ≠ "java/lang/invoke/MethodHandle" ∧ xX5_chance.1.cls ≠ "java/lang/invoke/VarHandle" ∧ (parseMethodDescriptor xX5_chance.1.desc).map (fun d => d.parameters.length) = some 2 := by decide +kernel
theorem ivX5_chance : Cond.instanceMethod xX5_chance.1 ∈ zT ∧ Cond.selects xX5_chance.1.cls xX5_chance.1 xX5_chance.1 ∈ zT := have h : zChk [1556, 1557] [Cond.instanceMethod xX5_chance.1, Cond.selects xX5_chance.1.cls xX5_chance.1 xX5_chance.1] = true := by decide +kernel
  ⟨zChk_ok h _ (.head _), zChk_ok h _ (.tail _ (.head _))⟩
theorem lkL_176 : zLk RL 176 xX5_chance 2 := zLk_of [1555, 76] (by decide +kernel) wcX5_chance pdX5_chance
set_option maxRecDepth 100000 in
theorem wcX5_code : Cond.code xX5_code.1 xX5_code.2.1 xX5_code.2.2.1 xX5_code.2.2.2.1 ∈ zT := zT_of (i := 1251) rfl rfl
theorem pdX5_code : xX5_code.1.cls ≠ "java/lang/invoke/MethodHandle" ∧ xX5_code.1.cls ≠ "java/lang/invoke/VarHandle" ∧ (parseMethodDescriptor xX5_code.1.desc).map (fun d => d.parameters.length) = some 3 := by decide +kernel
theorem ivX5_code : Cond.instanceMethod xX5_code.1 ∈ zT ∧ Cond.selects xX5_code.1.cls xX5_code.1 xX5_code.1 ∈ zT := have h : zChk [1249, 1250] [Cond.instanceMethod xX5_code.1, Cond.selects xX5_code.1.cls xX5_code.1 xX5_code.1] = true := by decide +kernel
  ⟨zChk_ok h _ (.head _), zChk_ok h _ (.tail _ (.head _))⟩
theorem lkL_70 : zLk RL 70 xX5_code 3 := zLk_of [1248, 76] (by decide +kernel) wcX5_code pdX5_code
set_option maxRecDepth 100000 in
theorem wcX5_cold : Cond.code xX5_cold.1 xX5_cold.2.1 xX5_cold.2.2.1 xX5_cold.2.2.2.1 ∈ zT := zT_of (i := 1259) rfl rfl
theorem pdX5_cold : xX5_cold.1.cls ≠ "java/lang/invoke/MethodHandle" ∧ xX5_cold.1.cls ≠ "java/lang/invoke/VarHandle" ∧ (parseMethodDescriptor xX5_cold.1.desc).map (fun d => d.parameters.length) = some 1 := by decide +kernel
theorem ivX5_cold : Cond.instanceMethod xX5_cold.1 ∈ zT ∧ Cond.selects xX5_cold.1.cls xX5_cold.1 xX5_cold.1 ∈ zT := have h : zChk [1257, 1258] [Cond.instanceMethod xX5_cold.1, Cond.selects xX5_cold.1.cls xX5_cold.1 xX5_cold.1] = true := by decide +kernel
  ⟨zChk_ok h _ (.head _), zChk_ok h _ (.tail _ (.head _))⟩
theorem lkL_74 : zLk RL 74 xX5_cold 1 := zLk_of [1256, 76] (by decide +kernel) wcX5_cold pdX5_cold
set_option maxRecDepth 100000 in
theorem wcX5_colds : Cond.code xX5_colds.1 xX5_colds.2.1 xX5_colds.2.2.1 xX5_colds.2.2.2.1 ∈ zT := zT_of (i := 1482) rfl rfl
theorem pdX5_colds : xX5_colds.1.cls ≠ "java/lang/invoke/MethodHandle" ∧ xX5_colds.1.cls ≠ "java/lang/invoke/VarHandle" ∧ (parseMethodDescriptor xX5_colds.1.desc).map (fun d => d.parameters.length) = some 2 := by decide +kernel
theorem ivX5_colds : Cond.instanceMethod xX5_colds.1 ∈ zT ∧ Cond.selects xX5_colds.1.cls xX5_colds.1 xX5_colds.1 ∈ zT := have h : zChk [1480, 1481] [Cond.instanceMethod xX5_colds.1, Cond.selects xX5_colds.1.cls xX5_colds.1 xX5_colds.1] = true := by decide +kernel
  ⟨zChk_ok h _ (.head _), zChk_ok h _ (.tail _ (.head _))⟩
theorem lkL_192 : zLk RL 192 xX5_colds 2 := zLk_of [1479, 76] (by decide +kernel) wcX5_colds pdX5_colds
set_option maxRecDepth 100000 in
theorem wcX5_common : Cond.code xX5_common.1 xX5_common.2.1 xX5_common.2.2.1 xX5_common.2.2.2.1 ∈ zT := zT_of (i := 1390) rfl rfl
theorem pdX5_common : xX5_common.1.cls ≠ "java/lang/invoke/MethodHandle" ∧ xX5_common.1.cls ≠ "java/lang/invoke/VarHandle" ∧ (parseMethodDescriptor xX5_common.1.desc).map (fun d => d.parameters.length) = some 2 := by decide +kernel
theorem ivX5_common : Cond.instanceMethod xX5_common.1 ∈ zT ∧ Cond.selects xX5_common.1.cls xX5_common.1 xX5_common.1 ∈ zT := have h : zChk [1388, 1389] [Cond.instanceMethod xX5_common.1, Cond.selects xX5_common.1.cls xX5_common.1 xX5_common.1] = true := by decide +kernel
  ⟨zChk_ok h _ (.head _), zChk_ok h _ (.tail _ (.head _))⟩
theorem lkL_244 : zLk RL 244 xX5_common 2 := zLk_of [1387, 76] (by decide +kernel) wcX5_common pdX5_common
set_option maxRecDepth 100000 in
theorem wcX5_copied : Cond.code xX5_copied.1 xX5_copied.2.1 xX5_copied.2.2.1 xX5_copied.2.2.2.1 ∈ zT := zT_of (i := 1285) rfl rfl
theorem pdX5_copied : xX5_copied.1.cls ≠ "java/lang/invoke/MethodHandle" ∧ xX5_copied.1.cls ≠ "java/lang/invoke/VarHandle" ∧ (parseMethodDescriptor xX5_copied.1.desc).map (fun d => d.parameters.length) = some 2 := by decide +kernel
theorem isX5_copied : Cond.static xX5_copied.1 ∈ zT := have h : zChk [1284] [Cond.static xX5_copied.1] = true := by decide +kernel
  zChk_ok h _ (.head _)
theorem lkX5_340 : zLk RX5 340 xX5_copied 2 := zLk_of [1283, 76] (by decide +kernel) wcX5_copied pdX5_copied
set_option maxRecDepth 100000 in
theorem wcX5_copy : Cond.code xX5_copy.1 xX5_copy.2.1 xX5_copy.2.2.1 xX5_copy.2.2.2.1 ∈ zT := zT_of (i := 1177) rfl rfl
theorem pdX5_copy : xX5_copy.1.cls ≠ "java/lang/invoke/MethodHandle" ∧ xX5_copy.1.cls ≠ "java/lang/invoke/VarHandle" ∧ (parseMethodDescriptor xX5_copy.1.desc).map (fun d => d.parameters.length) = some 5 := by decide +kernel
theorem ivX5_copy : Cond.instanceMethod xX5_copy.1 ∈ zT ∧ Cond.selects xX5_copy.1.cls xX5_copy.1 xX5_copy.1 ∈ zT := have h : zChk [1175, 1176] [Cond.instanceMethod xX5_copy.1, Cond.selects xX5_copy.1.cls xX5_copy.1 xX5_copy.1] = true := by decide +kernel
  ⟨zChk_ok h _ (.head _), zChk_ok h _ (.tail _ (.head _))⟩
theorem lkL_29 : zLk RL 29 xX5_copy 5 := zLk_of [1174, 76] (by decide +kernel) wcX5_copy pdX5_copy
set_option maxRecDepth 100000 in
theorem wcX5_days : Cond.code xX5_days.1 xX5_days.2.1 xX5_days.2.2.1 xX5_days.2.2.2.1 ∈ zT := zT_of (i := 1591) rfl rfl
theorem pdX5_days : xX5_days.1.cls ≠ "java/lang/invoke/MethodHandle" ∧ xX5_days.1.cls ≠ "java/lang/invoke/VarHandle" ∧ (parseMethodDescriptor xX5_days.1.desc).map (fun d => d.parameters.length) = some 1 := by decide +kernel
theorem ivX5_days : Cond.instanceMethod xX5_days.1 ∈ zT ∧ Cond.selects xX5_days.1.cls xX5_days.1 xX5_days.1 ∈ zT := have h : zChk [1589, 1590] [Cond.instanceMethod xX5_days.1, Cond.selects xX5_days.1.cls xX5_days.1 xX5_days.1] = true := by decide +kernel
  ⟨zChk_ok h _ (.head _), zChk_ok h _ (.tail _ (.head _))⟩
theorem lkL_264 : zLk RL 264 xX5_days 1 := zLk_of [1588, 76] (by decide +kernel) wcX5_days pdX5_days
set_option maxRecDepth 100000 in
theorem wcX5_doubt : Cond.code xX5_doubt.1 xX5_doubt.2.1 xX5_doubt.2.2.1 xX5_doubt.2.2.2.1 ∈ zT := zT_of (i := 1406) rfl rfl
theorem pdX5_doubt : xX5_doubt.1.cls ≠ "java/lang/invoke/MethodHandle" ∧ xX5_doubt.1.cls ≠ "java/lang/invoke/VarHandle" ∧ (parseMethodDescriptor xX5_doubt.1.desc).map (fun d => d.parameters.length) = some 1 := by decide +kernel
theorem ivX5_doubt : Cond.instanceMethod xX5_doubt.1 ∈ zT ∧ Cond.selects xX5_doubt.1.cls xX5_doubt.1 xX5_doubt.1 ∈ zT := have h : zChk [1404, 1405] [Cond.instanceMethod xX5_doubt.1, Cond.selects xX5_doubt.1.cls xX5_doubt.1 xX5_doubt.1] = true := by decide +kernel
  ⟨zChk_ok h _ (.head _), zChk_ok h _ (.tail _ (.head _))⟩
theorem lkL_248 : zLk RL 248 xX5_doubt 1 := zLk_of [1403, 76] (by decide +kernel) wcX5_doubt pdX5_doubt
set_option maxRecDepth 100000 in
theorem wcX5_earsTogether : Cond.code xX5_earsTogether.1 xX5_earsTogether.2.1 xX5_earsTogether.2.2.1 xX5_earsTogether.2.2.2.1 ∈ zT := zT_of (i := 1587) rfl rfl
theorem pdX5_earsTogether : xX5_earsTogether.1.cls ≠ "java/lang/invoke/MethodHandle" ∧ xX5_earsTogether.1.cls ≠ "java/lang/invoke/VarHandle" ∧ (parseMethodDescriptor xX5_earsTogether.1.desc).map (fun d => d.parameters.length) = some 0 := by decide +kernel
theorem ivX5_earsTogether : Cond.instanceMethod xX5_earsTogether.1 ∈ zT ∧ Cond.selects xX5_earsTogether.1.cls xX5_earsTogether.1 xX5_earsTogether.1 ∈ zT := have h : zChk [1586, 68] [Cond.instanceMethod xX5_earsTogether.1, Cond.selects xX5_earsTogether.1.cls xX5_earsTogether.1 xX5_earsTogether.1] = true := by decide +kernel
  ⟨zChk_ok h _ (.head _), zChk_ok h _ (.tail _ (.head _))⟩
theorem lkX5_331 : zLk RX5 331 xX5_earsTogether 0 := zLk_of [1584, 76] (by decide +kernel) wcX5_earsTogether pdX5_earsTogether
set_option maxRecDepth 100000 in
theorem wcX5_element : Cond.code xX5_element.1 xX5_element.2.1 xX5_element.2.2.1 xX5_element.2.2.2.1 ∈ zT := zT_of (i := 1181) rfl rfl
theorem pdX5_element : xX5_element.1.cls ≠ "java/lang/invoke/MethodHandle" ∧ xX5_element.1.cls ≠ "java/lang/invoke/VarHandle" ∧ (parseMethodDescriptor xX5_element.1.desc).map (fun d => d.parameters.length) = some 2 := by decide +kernel
theorem ivX5_element : Cond.instanceMethod xX5_element.1 ∈ zT ∧ Cond.selects xX5_element.1.cls xX5_element.1 xX5_element.1 ∈ zT := have h : zChk [1179, 1180] [Cond.instanceMethod xX5_element.1, Cond.selects xX5_element.1.cls xX5_element.1 xX5_element.1] = true := by decide +kernel
  ⟨zChk_ok h _ (.head _), zChk_ok h _ (.tail _ (.head _))⟩
theorem lkL_34 : zLk RL 34 xX5_element 2 := zLk_of [1178, 76] (by decide +kernel) wcX5_element pdX5_element
set_option maxRecDepth 100000 in
theorem wcX5_feed : Cond.code xX5_feed.1 xX5_feed.2.1 xX5_feed.2.2.1 xX5_feed.2.2.2.1 ∈ zT := zT_of (i := 1267) rfl rfl
theorem pdX5_feed : xX5_feed.1.cls ≠ "java/lang/invoke/MethodHandle" ∧ xX5_feed.1.cls ≠ "java/lang/invoke/VarHandle" ∧ (parseMethodDescriptor xX5_feed.1.desc).map (fun d => d.parameters.length) = some 1 := by decide +kernel
theorem ivX5_feed : Cond.instanceMethod xX5_feed.1 ∈ zT ∧ Cond.selects xX5_feed.1.cls xX5_feed.1 xX5_feed.1 ∈ zT := have h : zChk [1265, 1266] [Cond.instanceMethod xX5_feed.1, Cond.selects xX5_feed.1.cls xX5_feed.1 xX5_feed.1] = true := by decide +kernel
  ⟨zChk_ok h _ (.head _), zChk_ok h _ (.tail _ (.head _))⟩
theorem lkL_83 : zLk RL 83 xX5_feed 1 := zLk_of [1264, 76] (by decide +kernel) wcX5_feed pdX5_feed
set_option maxRecDepth 100000 in
theorem wcX5_findHush : Cond.code xX5_findHush.1 xX5_findHush.2.1 xX5_findHush.2.2.1 xX5_findHush.2.2.2.1 ∈ zT := zT_of (i := 1470) rfl rfl
theorem pdX5_findHush : xX5_findHush.1.cls ≠ "java/lang/invoke/MethodHandle" ∧ xX5_findHush.1.cls ≠ "java/lang/invoke/VarHandle" ∧ (parseMethodDescriptor xX5_findHush.1.desc).map (fun d => d.parameters.length) = some 2 := by decide +kernel
theorem ivX5_findHush : Cond.instanceMethod xX5_findHush.1 ∈ zT ∧ Cond.selects xX5_findHush.1.cls xX5_findHush.1 xX5_findHush.1 ∈ zT := have h : zChk [1469, 56] [Cond.instanceMethod xX5_findHush.1, Cond.selects xX5_findHush.1.cls xX5_findHush.1 xX5_findHush.1] = true := by decide +kernel
  ⟨zChk_ok h _ (.head _), zChk_ok h _ (.tail _ (.head _))⟩
theorem lkX5_277 : zLk RX5 277 xX5_findHush 2 := zLk_of [1467, 76] (by decide +kernel) wcX5_findHush pdX5_findHush
set_option maxRecDepth 100000 in
theorem wcX5_findLengths : Cond.code xX5_findLengths.1 xX5_findLengths.2.1 xX5_findLengths.2.2.1 xX5_findLengths.2.2.2.1 ∈ zT := zT_of (i := 1518) rfl rfl
theorem pdX5_findLengths : xX5_findLengths.1.cls ≠ "java/lang/invoke/MethodHandle" ∧ xX5_findLengths.1.cls ≠ "java/lang/invoke/VarHandle" ∧ (parseMethodDescriptor xX5_findLengths.1.desc).map (fun d => d.parameters.length) = some 3 := by decide +kernel
theorem ivX5_findLengths : Cond.instanceMethod xX5_findLengths.1 ∈ zT ∧ Cond.selects xX5_findLengths.1.cls xX5_findLengths.1 xX5_findLengths.1 ∈ zT := have h : zChk [1517, 60] [Cond.instanceMethod xX5_findLengths.1, Cond.selects xX5_findLengths.1.cls xX5_findLengths.1 xX5_findLengths.1] = true := by decide +kernel
  ⟨zChk_ok h _ (.head _), zChk_ok h _ (.tail _ (.head _))⟩
theorem lkX5_300 : zLk RX5 300 xX5_findLengths 3 := zLk_of [1515, 76] (by decide +kernel) wcX5_findLengths pdX5_findLengths
set_option maxRecDepth 100000 in
theorem wcX5_first : Cond.code xX5_first.1 xX5_first.2.1 xX5_first.2.2.1 xX5_first.2.2.2.1 ∈ zT := zT_of (i := 1414) rfl rfl
theorem pdX5_first : xX5_first.1.cls ≠ "java/lang/invoke/MethodHandle" ∧ xX5_first.1.cls ≠ "java/lang/invoke/VarHandle" ∧ (parseMethodDescriptor xX5_first.1.desc).map (fun d => d.parameters.length) = some 2 := by decide +kernel
theorem ivX5_first : Cond.instanceMethod xX5_first.1 ∈ zT ∧ Cond.selects xX5_first.1.cls xX5_first.1 xX5_first.1 ∈ zT := have h : zChk [1412, 1413] [Cond.instanceMethod xX5_first.1, Cond.selects xX5_first.1.cls xX5_first.1 xX5_first.1] = true := by decide +kernel
  ⟨zChk_ok h _ (.head _), zChk_ok h _ (.tail _ (.head _))⟩
theorem lkL_120 : zLk RL 120 xX5_first 2 := zLk_of [1411, 76] (by decide +kernel) wcX5_first pdX5_first
set_option maxRecDepth 100000 in
theorem wcX5_fit : Cond.code xX5_fit.1 xX5_fit.2.1 xX5_fit.2.2.1 xX5_fit.2.2.2.1 ∈ zT := zT_of (i := 1173) rfl rfl
theorem pdX5_fit : xX5_fit.1.cls ≠ "java/lang/invoke/MethodHandle" ∧ xX5_fit.1.cls ≠ "java/lang/invoke/VarHandle" ∧ (parseMethodDescriptor xX5_fit.1.desc).map (fun d => d.parameters.length) = some 2 := by decide +kernel
theorem isX5_fit : Cond.static xX5_fit.1 ∈ zT := have h : zChk [1172] [Cond.static xX5_fit.1] = true := by decide +kernel
  zChk_ok h _ (.head _)
theorem lkX5_101 : zLk RX5 101 xX5_fit 2 := zLk_of [1171, 76] (by decide +kernel) wcX5_fit pdX5_fit
set_option maxRecDepth 100000 in
theorem wcX5_fits : Cond.code xX5_fits.1 xX5_fits.2.1 xX5_fits.2.2.1 xX5_fits.2.2.2.1 ∈ zT := zT_of (i := 1526) rfl rfl
theorem pdX5_fits : xX5_fits.1.cls ≠ "java/lang/invoke/MethodHandle" ∧ xX5_fits.1.cls ≠ "java/lang/invoke/VarHandle" ∧ (parseMethodDescriptor xX5_fits.1.desc).map (fun d => d.parameters.length) = some 4 := by decide +kernel
theorem ivX5_fits : Cond.instanceMethod xX5_fits.1 ∈ zT ∧ Cond.selects xX5_fits.1.cls xX5_fits.1 xX5_fits.1 ∈ zT := have h : zChk [1524, 1525] [Cond.instanceMethod xX5_fits.1, Cond.selects xX5_fits.1.cls xX5_fits.1 xX5_fits.1] = true := by decide +kernel
  ⟨zChk_ok h _ (.head _), zChk_ok h _ (.tail _ (.head _))⟩
theorem lkL_156 : zLk RL 156 xX5_fits 4 := zLk_of [1523, 76] (by decide +kernel) wcX5_fits pdX5_fits
set_option maxRecDepth 100000 in
theorem wcX5_goesRound : Cond.code xX5_goesRound.1 xX5_goesRound.2.1 xX5_goesRound.2.2.1 xX5_goesRound.2.2.2.1 ∈ zT := zT_of (i := 1579) rfl rfl
theorem pdX5_goesRound : xX5_goesRound.1.cls ≠ "java/lang/invoke/MethodHandle" ∧ xX5_goesRound.1.cls ≠ "java/lang/invoke/VarHandle" ∧ (parseMethodDescriptor xX5_goesRound.1.desc).map (fun d => d.parameters.length) = some 0 := by decide +kernel
theorem ivX5_goesRound : Cond.instanceMethod xX5_goesRound.1 ∈ zT ∧ Cond.selects xX5_goesRound.1.cls xX5_goesRound.1 xX5_goesRound.1 ∈ zT := have h : zChk [1578, 66] [Cond.instanceMethod xX5_goesRound.1, Cond.selects xX5_goesRound.1.cls xX5_goesRound.1 xX5_goesRound.1] = true := by decide +kernel
  ⟨zChk_ok h _ (.head _), zChk_ok h _ (.tail _ (.head _))⟩
theorem lkX5_325 : zLk RX5 325 xX5_goesRound 0 := zLk_of [1576, 76] (by decide +kernel) wcX5_goesRound pdX5_goesRound
set_option maxRecDepth 100000 in
theorem wcX5_gossips : Cond.code xX5_gossips.1 xX5_gossips.2.1 xX5_gossips.2.2.1 xX5_gossips.2.2.2.1 ∈ zT := zT_of (i := 1439) rfl rfl
theorem pdX5_gossips : xX5_gossips.1.cls ≠ "java/lang/invoke/MethodHandle" ∧ xX5_gossips.1.cls ≠ "java/lang/invoke/VarHandle" ∧ (parseMethodDescriptor xX5_gossips.1.desc).map (fun d => d.parameters.length) = some 0 := by decide +kernel
theorem ivX5_gossips : Cond.instanceMethod xX5_gossips.1 ∈ zT ∧ Cond.selects xX5_gossips.1.cls xX5_gossips.1 xX5_gossips.1 ∈ zT := have h : zChk [1437, 1438] [Cond.instanceMethod xX5_gossips.1, Cond.selects xX5_gossips.1.cls xX5_gossips.1 xX5_gossips.1] = true := by decide +kernel
  ⟨zChk_ok h _ (.head _), zChk_ok h _ (.tail _ (.head _))⟩
theorem lkL_188 : zLk RL 188 xX5_gossips 0 := zLk_of [1436, 76] (by decide +kernel) wcX5_gossips pdX5_gossips
set_option maxRecDepth 100000 in
theorem wcX5_heard : Cond.code xX5_heard.1 xX5_heard.2.1 xX5_heard.2.2.1 xX5_heard.2.2.2.1 ∈ zT := zT_of (i := 1350) rfl rfl
theorem pdX5_heard : xX5_heard.1.cls ≠ "java/lang/invoke/MethodHandle" ∧ xX5_heard.1.cls ≠ "java/lang/invoke/VarHandle" ∧ (parseMethodDescriptor xX5_heard.1.desc).map (fun d => d.parameters.length) = some 2 := by decide +kernel
theorem ivX5_heard : Cond.instanceMethod xX5_heard.1 ∈ zT ∧ Cond.selects xX5_heard.1.cls xX5_heard.1 xX5_heard.1 ∈ zT := have h : zChk [1348, 1349] [Cond.instanceMethod xX5_heard.1, Cond.selects xX5_heard.1.cls xX5_heard.1 xX5_heard.1] = true := by decide +kernel
  ⟨zChk_ok h _ (.head _), zChk_ok h _ (.tail _ (.head _))⟩
theorem lkL_104 : zLk RL 104 xX5_heard 2 := zLk_of [1347, 76] (by decide +kernel) wcX5_heard pdX5_heard
set_option maxRecDepth 100000 in
theorem wcX5_heardAt : Cond.code xX5_heardAt.1 xX5_heardAt.2.1 xX5_heardAt.2.2.1 xX5_heardAt.2.2.2.1 ∈ zT := zT_of (i := 1205) rfl rfl
theorem pdX5_heardAt : xX5_heardAt.1.cls ≠ "java/lang/invoke/MethodHandle" ∧ xX5_heardAt.1.cls ≠ "java/lang/invoke/VarHandle" ∧ (parseMethodDescriptor xX5_heardAt.1.desc).map (fun d => d.parameters.length) = some 2 := by decide +kernel
theorem ivX5_heardAt : Cond.instanceMethod xX5_heardAt.1 ∈ zT ∧ Cond.selects xX5_heardAt.1.cls xX5_heardAt.1 xX5_heardAt.1 ∈ zT := have h : zChk [1204, 32] [Cond.instanceMethod xX5_heardAt.1, Cond.selects xX5_heardAt.1.cls xX5_heardAt.1 xX5_heardAt.1] = true := by decide +kernel
  ⟨zChk_ok h _ (.head _), zChk_ok h _ (.tail _ (.head _))⟩
theorem lkX5_115 : zLk RX5 115 xX5_heardAt 2 := zLk_of [1202, 76] (by decide +kernel) wcX5_heardAt pdX5_heardAt
set_option maxRecDepth 100000 in
theorem wcX5_held : Cond.code xX5_held.1 xX5_held.2.1 xX5_held.2.2.1 xX5_held.2.2.2.1 ∈ zT := zT_of (i := 1221) rfl rfl
theorem pdX5_held : xX5_held.1.cls ≠ "java/lang/invoke/MethodHandle" ∧ xX5_held.1.cls ≠ "java/lang/invoke/VarHandle" ∧ (parseMethodDescriptor xX5_held.1.desc).map (fun d => d.parameters.length) = some 2 := by decide +kernel
theorem ivX5_held : Cond.instanceMethod xX5_held.1 ∈ zT ∧ Cond.selects xX5_held.1.cls xX5_held.1 xX5_held.1 ∈ zT := have h : zChk [1220, 36] [Cond.instanceMethod xX5_held.1, Cond.selects xX5_held.1.cls xX5_held.1 xX5_held.1] = true := by decide +kernel
  ⟨zChk_ok h _ (.head _), zChk_ok h _ (.tail _ (.head _))⟩
theorem lkX5_242 : zLk RX5 242 xX5_held 2 := zLk_of [1218, 76] (by decide +kernel) wcX5_held pdX5_held
set_option maxRecDepth 100000 in
theorem wcX5_holds : Cond.code xX5_holds.1 xX5_holds.2.1 xX5_holds.2.2.1 xX5_holds.2.2.2.1 ∈ zT := zT_of (i := 1185) rfl rfl
theorem pdX5_holds : xX5_holds.1.cls ≠ "java/lang/invoke/MethodHandle" ∧ xX5_holds.1.cls ≠ "java/lang/invoke/VarHandle" ∧ (parseMethodDescriptor xX5_holds.1.desc).map (fun d => d.parameters.length) = some 1 := by decide +kernel
theorem ivX5_holds : Cond.instanceMethod xX5_holds.1 ∈ zT ∧ Cond.selects xX5_holds.1.cls xX5_holds.1 xX5_holds.1 ∈ zT := have h : zChk [1183, 1184] [Cond.instanceMethod xX5_holds.1, Cond.selects xX5_holds.1.cls xX5_holds.1 xX5_holds.1] = true := by decide +kernel
  ⟨zChk_ok h _ (.head _), zChk_ok h _ (.tail _ (.head _))⟩
theorem lkL_39 : zLk RL 39 xX5_holds 1 := zLk_of [1182, 76] (by decide +kernel) wcX5_holds pdX5_holds
set_option maxRecDepth 100000 in
theorem wcX5_houseOf : Cond.code xX5_houseOf.1 xX5_houseOf.2.1 xX5_houseOf.2.2.1 xX5_houseOf.2.2.2.1 ∈ zT := zT_of (i := 1346) rfl rfl
theorem pdX5_houseOf : xX5_houseOf.1.cls ≠ "java/lang/invoke/MethodHandle" ∧ xX5_houseOf.1.cls ≠ "java/lang/invoke/VarHandle" ∧ (parseMethodDescriptor xX5_houseOf.1.desc).map (fun d => d.parameters.length) = some 2 := by decide +kernel
theorem ivX5_houseOf : Cond.instanceMethod xX5_houseOf.1 ∈ zT ∧ Cond.selects xX5_houseOf.1.cls xX5_houseOf.1 xX5_houseOf.1 ∈ zT := have h : zChk [1344, 1345] [Cond.instanceMethod xX5_houseOf.1, Cond.selects xX5_houseOf.1.cls xX5_houseOf.1 xX5_houseOf.1] = true := by decide +kernel
  ⟨zChk_ok h _ (.head _), zChk_ok h _ (.tail _ (.head _))⟩
theorem lkL_100 : zLk RL 100 xX5_houseOf 2 := zLk_of [1343, 76] (by decide +kernel) wcX5_houseOf pdX5_houseOf
set_option maxRecDepth 100000 in
theorem wcX5_houses : Cond.code xX5_houses.1 xX5_houses.2.1 xX5_houses.2.2.1 xX5_houses.2.2.2.1 ∈ zT := zT_of (i := 1225) rfl rfl
theorem pdX5_houses : xX5_houses.1.cls ≠ "java/lang/invoke/MethodHandle" ∧ xX5_houses.1.cls ≠ "java/lang/invoke/VarHandle" ∧ (parseMethodDescriptor xX5_houses.1.desc).map (fun d => d.parameters.length) = some 1 := by decide +kernel
theorem ivX5_houses : Cond.instanceMethod xX5_houses.1 ∈ zT ∧ Cond.selects xX5_houses.1.cls xX5_houses.1 xX5_houses.1 ∈ zT := have h : zChk [1223, 1224] [Cond.instanceMethod xX5_houses.1, Cond.selects xX5_houses.1.cls xX5_houses.1 xX5_houses.1] = true := by decide +kernel
  ⟨zChk_ok h _ (.head _), zChk_ok h _ (.tail _ (.head _))⟩
theorem lkL_52 : zLk RL 52 xX5_houses 1 := zLk_of [1222, 76] (by decide +kernel) wcX5_houses pdX5_houses
set_option maxRecDepth 100000 in
theorem wcX5_hush : Cond.code xX5_hush.1 xX5_hush.2.1 xX5_hush.2.2.1 xX5_hush.2.2.2.1 ∈ zT := zT_of (i := 1466) rfl rfl
theorem pdX5_hush : xX5_hush.1.cls ≠ "java/lang/invoke/MethodHandle" ∧ xX5_hush.1.cls ≠ "java/lang/invoke/VarHandle" ∧ (parseMethodDescriptor xX5_hush.1.desc).map (fun d => d.parameters.length) = some 3 := by decide +kernel
theorem ivX5_hush : Cond.instanceMethod xX5_hush.1 ∈ zT ∧ Cond.selects xX5_hush.1.cls xX5_hush.1 xX5_hush.1 ∈ zT := have h : zChk [1464, 1465] [Cond.instanceMethod xX5_hush.1, Cond.selects xX5_hush.1.cls xX5_hush.1 xX5_hush.1] = true := by decide +kernel
  ⟨zChk_ok h _ (.head _), zChk_ok h _ (.tail _ (.head _))⟩
theorem lkL_140 : zLk RL 140 xX5_hush 3 := zLk_of [1463, 76] (by decide +kernel) wcX5_hush pdX5_hush
set_option maxRecDepth 100000 in
theorem wcX5_image : Cond.code xX5_image.1 xX5_image.2.1 xX5_image.2.2.1 xX5_image.2.2.2.1 ∈ zT := zT_of (i := 1605) rfl rfl
theorem pdX5_image : xX5_image.1.cls ≠ "java/lang/invoke/MethodHandle" ∧ xX5_image.1.cls ≠ "java/lang/invoke/VarHandle" ∧ (parseMethodDescriptor xX5_image.1.desc).map (fun d => d.parameters.length) = some 0 := by decide +kernel
theorem ivX5_image : Cond.instanceMethod xX5_image.1 ∈ zT ∧ Cond.selects xX5_image.1.cls xX5_image.1 xX5_image.1 ∈ zT := have h : zChk [1603, 1604] [Cond.instanceMethod xX5_image.1, Cond.selects xX5_image.1.cls xX5_image.1 xX5_image.1] = true := by decide +kernel
  ⟨zChk_ok h _ (.head _), zChk_ok h _ (.tail _ (.head _))⟩
theorem lkL_272 : zLk RL 272 xX5_image 0 := zLk_of [1602, 76] (by decide +kernel) wcX5_image pdX5_image
set_option maxRecDepth 100000 in
theorem wcX5_in : Cond.code xX5_in.1 xX5_in.2.1 xX5_in.2.2.1 xX5_in.2.2.2.1 ∈ zT := zT_of (i := 1156) rfl rfl
theorem pdX5_in : xX5_in.1.cls ≠ "java/lang/invoke/MethodHandle" ∧ xX5_in.1.cls ≠ "java/lang/invoke/VarHandle" ∧ (parseMethodDescriptor xX5_in.1.desc).map (fun d => d.parameters.length) = some 3 := by decide +kernel
theorem isX5_in : Cond.static xX5_in.1 ∈ zT := have h : zChk [1155] [Cond.static xX5_in.1] = true := by decide +kernel
  zChk_ok h _ (.head _)
theorem lkX5_81 : zLk RX5 81 xX5_in 3 := zLk_of [1154, 76] (by decide +kernel) wcX5_in pdX5_in
set_option maxRecDepth 100000 in
theorem wcX5_init : Cond.code xX5_init.1 xX5_init.2.1 xX5_init.2.2.1 xX5_init.2.2.2.1 ∈ zT := zT_of (i := 1021) rfl rfl
theorem pdX5_init : xX5_init.1.cls ≠ "java/lang/invoke/MethodHandle" ∧ xX5_init.1.cls ≠ "java/lang/invoke/VarHandle" ∧ (parseMethodDescriptor xX5_init.1.desc).map (fun d => d.parameters.length) = some 0 := by decide +kernel
theorem iiX5_init : Cond.instanceMethod xX5_init.1 ∈ zT ∧ xX5_init.1.name = "<init>" ∧ xX5_init.2.2.2.1 = none := have h : zChk [1020] [Cond.instanceMethod xX5_init.1] = true := by decide +kernel
  ⟨zChk_ok h _ (.head _), rfl, rfl⟩
theorem lkL_12 : zLk RL 12 xX5_init 0 := zLk_of [1019, 76] (by decide +kernel) wcX5_init pdX5_init
theorem lkX5_223 : zLk RX5 223 xX5_init 0 := zLk_of [1278, 76] (by decide +kernel) wcX5_init pdX5_init
set_option maxRecDepth 100000 in
theorem wcX5_isDigit : Cond.code xX5_isDigit.1 xX5_isDigit.2.1 xX5_isDigit.2.2.1 xX5_isDigit.2.2.2.1 ∈ zT := zT_of (i := 1299) rfl rfl
theorem pdX5_isDigit : xX5_isDigit.1.cls ≠ "java/lang/invoke/MethodHandle" ∧ xX5_isDigit.1.cls ≠ "java/lang/invoke/VarHandle" ∧ (parseMethodDescriptor xX5_isDigit.1.desc).map (fun d => d.parameters.length) = some 1 := by decide +kernel
theorem isX5_isDigit : Cond.static xX5_isDigit.1 ∈ zT := have h : zChk [1298] [Cond.static xX5_isDigit.1] = true := by decide +kernel
  zChk_ok h _ (.head _)
theorem lkX5_162 : zLk RX5 162 xX5_isDigit 1 := zLk_of [1297, 76] (by decide +kernel) wcX5_isDigit pdX5_isDigit
set_option maxRecDepth 100000 in
theorem wcX5_isHouse : Cond.code xX5_isHouse.1 xX5_isHouse.2.1 xX5_isHouse.2.2.1 xX5_isHouse.2.2.2.1 ∈ zT := zT_of (i := 1235) rfl rfl
theorem pdX5_isHouse : xX5_isHouse.1.cls ≠ "java/lang/invoke/MethodHandle" ∧ xX5_isHouse.1.cls ≠ "java/lang/invoke/VarHandle" ∧ (parseMethodDescriptor xX5_isHouse.1.desc).map (fun d => d.parameters.length) = some 1 := by decide +kernel
theorem ivX5_isHouse : Cond.instanceMethod xX5_isHouse.1 ∈ zT ∧ Cond.selects xX5_isHouse.1.cls xX5_isHouse.1 xX5_isHouse.1 ∈ zT := have h : zChk [1234, 37] [Cond.instanceMethod xX5_isHouse.1, Cond.selects xX5_isHouse.1.cls xX5_isHouse.1 xX5_isHouse.1] = true := by decide +kernel
  ⟨zChk_ok h _ (.head _), zChk_ok h _ (.tail _ (.head _))⟩
theorem lkX5_123 : zLk RX5 123 xX5_isHouse 1 := zLk_of [1232, 76] (by decide +kernel) wcX5_isHouse pdX5_isHouse
set_option maxRecDepth 100000 in
theorem wcX5_isHushed : Cond.code xX5_isHushed.1 xX5_isHushed.2.1 xX5_isHushed.2.2.1 xX5_isHushed.2.2.2.1 ∈ zT := zT_of (i := 1474) rfl rfl
theorem pdX5_isHushed : xX5_isHushed.1.cls ≠ "java/lang/invoke/MethodHandle" ∧ xX5_isHushed.1.cls ≠ "java/lang/invoke/VarHandle" ∧ (parseMethodDescriptor xX5_isHushed.1.desc).map (fun d => d.parameters.length) = some 2 := by decide +kernel
theorem ivX5_isHushed : Cond.instanceMethod xX5_isHushed.1 ∈ zT ∧ Cond.selects xX5_isHushed.1.cls xX5_isHushed.1 xX5_isHushed.1 ∈ zT := have h : zChk [1473, 57] [Cond.instanceMethod xX5_isHushed.1, Cond.selects xX5_isHushed.1.cls xX5_isHushed.1 xX5_isHushed.1] = true := by decide +kernel
  ⟨zChk_ok h _ (.head _), zChk_ok h _ (.tail _ (.head _))⟩
theorem lkX5_268 : zLk RX5 268 xX5_isHushed 2 := zLk_of [1471, 76] (by decide +kernel) wcX5_isHushed pdX5_isHushed
set_option maxRecDepth 100000 in
theorem wcX5_isLetter : Cond.code xX5_isLetter.1 xX5_isLetter.2.1 xX5_isLetter.2.2.1 xX5_isLetter.2.2.2.1 ∈ zT := zT_of (i := 1193) rfl rfl
theorem pdX5_isLetter : xX5_isLetter.1.cls ≠ "java/lang/invoke/MethodHandle" ∧ xX5_isLetter.1.cls ≠ "java/lang/invoke/VarHandle" ∧ (parseMethodDescriptor xX5_isLetter.1.desc).map (fun d => d.parameters.length) = some 1 := by decide +kernel
theorem ivX5_isLetter : Cond.instanceMethod xX5_isLetter.1 ∈ zT ∧ Cond.selects xX5_isLetter.1.cls xX5_isLetter.1 xX5_isLetter.1 ∈ zT := have h : zChk [1192, 31] [Cond.instanceMethod xX5_isLetter.1, Cond.selects xX5_isLetter.1.cls xX5_isLetter.1 xX5_isLetter.1] = true := by decide +kernel
  ⟨zChk_ok h _ (.head _), zChk_ok h _ (.tail _ (.head _))⟩
theorem lkX5_105 : zLk RX5 105 xX5_isLetter 1 := zLk_of [1190, 76] (by decide +kernel) wcX5_isLetter pdX5_isLetter
set_option maxRecDepth 100000 in
theorem wcX5_isLower : Cond.code xX5_isLower.1 xX5_isLower.2.1 xX5_isLower.2.2.1 xX5_isLower.2.2.2.1 ∈ zT := zT_of (i := 1296) rfl rfl
theorem pdX5_isLower : xX5_isLower.1.cls ≠ "java/lang/invoke/MethodHandle" ∧ xX5_isLower.1.cls ≠ "java/lang/invoke/VarHandle" ∧ (parseMethodDescriptor xX5_isLower.1.desc).map (fun d => d.parameters.length) = some 1 := by decide +kernel
theorem isX5_isLower : Cond.static xX5_isLower.1 ∈ zT := have h : zChk [1295] [Cond.static xX5_isLower.1] = true := by decide +kernel
  zChk_ok h _ (.head _)
theorem lkX5_159 : zLk RX5 159 xX5_isLower 1 := zLk_of [1294, 76] (by decide +kernel) wcX5_isLower pdX5_isLower
set_option maxRecDepth 100000 in
theorem wcX5_isRead : Cond.code xX5_isRead.1 xX5_isRead.2.1 xX5_isRead.2.2.1 xX5_isRead.2.2.2.1 ∈ zT := zT_of (i := 1358) rfl rfl
theorem pdX5_isRead : xX5_isRead.1.cls ≠ "java/lang/invoke/MethodHandle" ∧ xX5_isRead.1.cls ≠ "java/lang/invoke/VarHandle" ∧ (parseMethodDescriptor xX5_isRead.1.desc).map (fun d => d.parameters.length) = some 2 := by decide +kernel
theorem ivX5_isRead : Cond.instanceMethod xX5_isRead.1 ∈ zT ∧ Cond.selects xX5_isRead.1.cls xX5_isRead.1 xX5_isRead.1 ∈ zT := have h : zChk [1356, 1357] [Cond.instanceMethod xX5_isRead.1, Cond.selects xX5_isRead.1.cls xX5_isRead.1 xX5_isRead.1] = true := by decide +kernel
  ⟨zChk_ok h _ (.head _), zChk_ok h _ (.tail _ (.head _))⟩
theorem lkL_108 : zLk RL 108 xX5_isRead 2 := zLk_of [1355, 76] (by decide +kernel) wcX5_isRead pdX5_isRead
set_option maxRecDepth 100000 in
theorem wcX5_isSet : Cond.code xX5_isSet.1 xX5_isSet.2.1 xX5_isSet.2.2.1 xX5_isSet.2.2.2.1 ∈ zT := zT_of (i := 1450) rfl rfl
theorem pdX5_isSet : xX5_isSet.1.cls ≠ "java/lang/invoke/MethodHandle" ∧ xX5_isSet.1.cls ≠ "java/lang/invoke/VarHandle" ∧ (parseMethodDescriptor xX5_isSet.1.desc).map (fun d => d.parameters.length) = some 1 := by decide +kernel
theorem ivX5_isSet : Cond.instanceMethod xX5_isSet.1 ∈ zT ∧ Cond.selects xX5_isSet.1.cls xX5_isSet.1 xX5_isSet.1 ∈ zT := have h : zChk [1449, 55] [Cond.instanceMethod xX5_isSet.1, Cond.selects xX5_isSet.1.cls xX5_isSet.1 xX5_isSet.1] = true := by decide +kernel
  ⟨zChk_ok h _ (.head _), zChk_ok h _ (.tail _ (.head _))⟩
theorem lkX5_265 : zLk RX5 265 xX5_isSet 1 := zLk_of [1447, 76] (by decide +kernel) wcX5_isSet pdX5_isSet
set_option maxRecDepth 100000 in
theorem wcX5_isUnder : Cond.code xX5_isUnder.1 xX5_isUnder.2.1 xX5_isUnder.2.2.1 xX5_isUnder.2.2.2.1 ∈ zT := zT_of (i := 1201) rfl rfl
theorem pdX5_isUnder : xX5_isUnder.1.cls ≠ "java/lang/invoke/MethodHandle" ∧ xX5_isUnder.1.cls ≠ "java/lang/invoke/VarHandle" ∧ (parseMethodDescriptor xX5_isUnder.1.desc).map (fun d => d.parameters.length) = some 2 := by decide +kernel
theorem isX5_isUnder : Cond.static xX5_isUnder.1 ∈ zT := have h : zChk [1200] [Cond.static xX5_isUnder.1] = true := by decide +kernel
  zChk_ok h _ (.head _)
theorem lkX5_111 : zLk RX5 111 xX5_isUnder 2 := zLk_of [1199, 76] (by decide +kernel) wcX5_isUnder pdX5_isUnder
set_option maxRecDepth 100000 in
theorem wcX5_isWord : Cond.code xX5_isWord.1 xX5_isWord.2.1 xX5_isWord.2.2.1 xX5_isWord.2.2.2.1 ∈ zT := zT_of (i := 1308) rfl rfl
theorem pdX5_isWord : xX5_isWord.1.cls ≠ "java/lang/invoke/MethodHandle" ∧ xX5_isWord.1.cls ≠ "java/lang/invoke/VarHandle" ∧ (parseMethodDescriptor xX5_isWord.1.desc).map (fun d => d.parameters.length) = some 1 := by decide +kernel
theorem ivX5_isWord : Cond.instanceMethod xX5_isWord.1 ∈ zT ∧ Cond.selects xX5_isWord.1.cls xX5_isWord.1 xX5_isWord.1 ∈ zT := have h : zChk [1307, 44] [Cond.instanceMethod xX5_isWord.1, Cond.selects xX5_isWord.1.cls xX5_isWord.1 xX5_isWord.1] = true := by decide +kernel
  ⟨zChk_ok h _ (.head _), zChk_ok h _ (.tail _ (.head _))⟩
theorem lkX5_192 : zLk RX5 192 xX5_isWord 1 := zLk_of [1305, 76] (by decide +kernel) wcX5_isWord pdX5_isWord
set_option maxRecDepth 100000 in
theorem wcX5_judge : Cond.code xX5_judge.1 xX5_judge.2.1 xX5_judge.2.2.1 xX5_judge.2.2.2.1 ∈ zT := zT_of (i := 1571) rfl rfl
theorem pdX5_judge : xX5_judge.1.cls ≠ "java/lang/invoke/MethodHandle" ∧ xX5_judge.1.cls ≠ "java/lang/invoke/VarHandle" ∧ (parseMethodDescriptor xX5_judge.1.desc).map (fun d => d.parameters.length) = some 2 := by decide +kernel
theorem ivX5_judge : Cond.instanceMethod xX5_judge.1 ∈ zT ∧ Cond.selects xX5_judge.1.cls xX5_judge.1 xX5_judge.1 ∈ zT := have h : zChk [1569, 1570] [Cond.instanceMethod xX5_judge.1, Cond.selects xX5_judge.1.cls xX5_judge.1 xX5_judge.1] = true := by decide +kernel
  ⟨zChk_ok h _ (.head _), zChk_ok h _ (.tail _ (.head _))⟩
theorem lkL_256 : zLk RL 256 xX5_judge 2 := zLk_of [1568, 76] (by decide +kernel) wcX5_judge pdX5_judge
set_option maxRecDepth 100000 in
theorem wcX5_knowers : Cond.code xX5_knowers.1 xX5_knowers.2.1 xX5_knowers.2.2.1 xX5_knowers.2.2.2.1 ∈ zT := zT_of (i := 1366) rfl rfl
theorem pdX5_knowers : xX5_knowers.1.cls ≠ "java/lang/invoke/MethodHandle" ∧ xX5_knowers.1.cls ≠ "java/lang/invoke/VarHandle" ∧ (parseMethodDescriptor xX5_knowers.1.desc).map (fun d => d.parameters.length) = some 1 := by decide +kernel
theorem ivX5_knowers : Cond.instanceMethod xX5_knowers.1 ∈ zT ∧ Cond.selects xX5_knowers.1.cls xX5_knowers.1 xX5_knowers.1 ∈ zT := have h : zChk [1365, 51] [Cond.instanceMethod xX5_knowers.1, Cond.selects xX5_knowers.1.cls xX5_knowers.1 xX5_knowers.1] = true := by decide +kernel
  ⟨zChk_ok h _ (.head _), zChk_ok h _ (.tail _ (.head _))⟩
theorem lkX5_251 : zLk RX5 251 xX5_knowers 1 := zLk_of [1363, 76] (by decide +kernel) wcX5_knowers pdX5_knowers
set_option maxRecDepth 100000 in
theorem wcX5_knowersTogether : Cond.code xX5_knowersTogether.1 xX5_knowersTogether.2.1 xX5_knowersTogether.2.2.1 xX5_knowersTogether.2.2.2.1 ∈ zT := zT_of (i := 1498) rfl rfl
theorem pdX5_knowersTogether : xX5_knowersTogether.1.cls ≠ "java/lang/invoke/MethodHandle" ∧ xX5_knowersTogether.1.cls ≠ "java/lang/invoke/VarHandle" ∧ (parseMethodDescriptor xX5_knowersTogether.1.desc).map (fun d => d.parameters.length) = some 0 := by decide +kernel
theorem ivX5_knowersTogether : Cond.instanceMethod xX5_knowersTogether.1 ∈ zT ∧ Cond.selects xX5_knowersTogether.1.cls xX5_knowersTogether.1 xX5_knowersTogether.1 ∈ zT := have h : zChk [1497, 58] [Cond.instanceMethod xX5_knowersTogether.1, Cond.selects xX5_knowersTogether.1.cls xX5_knowersTogether.1 xX5_knowersTogether.1] = true := by decide +kernel
  ⟨zChk_ok h _ (.head _), zChk_ok h _ (.tail _ (.head _))⟩
theorem lkX5_281 : zLk RX5 281 xX5_knowersTogether 0 := zLk_of [1495, 76] (by decide +kernel) wcX5_knowersTogether pdX5_knowersTogether
set_option maxRecDepth 100000 in
theorem wcX5_knownAt : Cond.code xX5_knownAt.1 xX5_knownAt.2.1 xX5_knownAt.2.2.1 xX5_knownAt.2.2.2.1 ∈ zT := zT_of (i := 1378) rfl rfl
theorem pdX5_knownAt : xX5_knownAt.1.cls ≠ "java/lang/invoke/MethodHandle" ∧ xX5_knownAt.1.cls ≠ "java/lang/invoke/VarHandle" ∧ (parseMethodDescriptor xX5_knownAt.1.desc).map (fun d => d.parameters.length) = some 1 := by decide +kernel
theorem ivX5_knownAt : Cond.instanceMethod xX5_knownAt.1 ∈ zT ∧ Cond.selects xX5_knownAt.1.cls xX5_knownAt.1 xX5_knownAt.1 ∈ zT := have h : zChk [1377, 53] [Cond.instanceMethod xX5_knownAt.1, Cond.selects xX5_knownAt.1.cls xX5_knownAt.1 xX5_knownAt.1] = true := by decide +kernel
  ⟨zChk_ok h _ (.head _), zChk_ok h _ (.tail _ (.head _))⟩
theorem lkX5_254 : zLk RX5 254 xX5_knownAt 1 := zLk_of [1375, 76] (by decide +kernel) wcX5_knownAt pdX5_knownAt
set_option maxRecDepth 100000 in
theorem wcX5_knows : Cond.code xX5_knows.1 xX5_knows.2.1 xX5_knows.2.2.1 xX5_knows.2.2.2.1 ∈ zT := zT_of (i := 1374) rfl rfl
theorem pdX5_knows : xX5_knows.1.cls ≠ "java/lang/invoke/MethodHandle" ∧ xX5_knows.1.cls ≠ "java/lang/invoke/VarHandle" ∧ (parseMethodDescriptor xX5_knows.1.desc).map (fun d => d.parameters.length) = some 1 := by decide +kernel
theorem ivX5_knows : Cond.instanceMethod xX5_knows.1 ∈ zT ∧ Cond.selects xX5_knows.1.cls xX5_knows.1 xX5_knows.1 ∈ zT := have h : zChk [1372, 1373] [Cond.instanceMethod xX5_knows.1, Cond.selects xX5_knows.1.cls xX5_knows.1 xX5_knows.1] = true := by decide +kernel
  ⟨zChk_ok h _ (.head _), zChk_ok h _ (.tail _ (.head _))⟩
theorem lkL_116 : zLk RL 116 xX5_knows 1 := zLk_of [1371, 76] (by decide +kernel) wcX5_knows pdX5_knows
set_option maxRecDepth 100000 in
theorem wcX5_knowsBy : Cond.code xX5_knowsBy.1 xX5_knowsBy.2.1 xX5_knowsBy.2.2.1 xX5_knowsBy.2.2.2.1 ∈ zT := zT_of (i := 1563) rfl rfl
theorem pdX5_knowsBy : xX5_knowsBy.1.cls ≠ "java/lang/invoke/MethodHandle" ∧ xX5_knowsBy.1.cls ≠ "java/lang/invoke/VarHandle" ∧ (parseMethodDescriptor xX5_knowsBy.1.desc).map (fun d => d.parameters.length) = some 2 := by decide +kernel
theorem ivX5_knowsBy : Cond.instanceMethod xX5_knowsBy.1 ∈ zT ∧ Cond.selects xX5_knowsBy.1.cls xX5_knowsBy.1 xX5_knowsBy.1 ∈ zT := have h : zChk [1562, 65] [Cond.instanceMethod xX5_knowsBy.1, Cond.selects xX5_knowsBy.1.cls xX5_knowsBy.1 xX5_knowsBy.1] = true := by decide +kernel
  ⟨zChk_ok h _ (.head _), zChk_ok h _ (.tail _ (.head _))⟩
theorem lkX5_319 : zLk RX5 319 xX5_knowsBy 2 := zLk_of [1560, 76] (by decide +kernel) wcX5_knowsBy pdX5_knowsBy
set_option maxRecDepth 100000 in
theorem wcX5_knowsOf : Cond.code xX5_knowsOf.1 xX5_knowsOf.2.1 xX5_knowsOf.2.2.1 xX5_knowsOf.2.2.2.1 ∈ zT := zT_of (i := 1370) rfl rfl
theorem pdX5_knowsOf : xX5_knowsOf.1.cls ≠ "java/lang/invoke/MethodHandle" ∧ xX5_knowsOf.1.cls ≠ "java/lang/invoke/VarHandle" ∧ (parseMethodDescriptor xX5_knowsOf.1.desc).map (fun d => d.parameters.length) = some 2 := by decide +kernel
theorem ivX5_knowsOf : Cond.instanceMethod xX5_knowsOf.1 ∈ zT ∧ Cond.selects xX5_knowsOf.1.cls xX5_knowsOf.1 xX5_knowsOf.1 ∈ zT := have h : zChk [1369, 52] [Cond.instanceMethod xX5_knowsOf.1, Cond.selects xX5_knowsOf.1.cls xX5_knowsOf.1 xX5_knowsOf.1] = true := by decide +kernel
  ⟨zChk_ok h _ (.head _), zChk_ok h _ (.tail _ (.head _))⟩
theorem lkX5_245 : zLk RX5 245 xX5_knowsOf 2 := zLk_of [1367, 76] (by decide +kernel) wcX5_knowsOf pdX5_knowsOf
set_option maxRecDepth 100000 in
theorem wcX5_lacks : Cond.code xX5_lacks.1 xX5_lacks.2.1 xX5_lacks.2.2.1 xX5_lacks.2.2.2.1 ∈ zT := zT_of (i := 1402) rfl rfl
theorem pdX5_lacks : xX5_lacks.1.cls ≠ "java/lang/invoke/MethodHandle" ∧ xX5_lacks.1.cls ≠ "java/lang/invoke/VarHandle" ∧ (parseMethodDescriptor xX5_lacks.1.desc).map (fun d => d.parameters.length) = some 2 := by decide +kernel
theorem ivX5_lacks : Cond.instanceMethod xX5_lacks.1 ∈ zT ∧ Cond.selects xX5_lacks.1.cls xX5_lacks.1 xX5_lacks.1 ∈ zT := have h : zChk [1400, 1401] [Cond.instanceMethod xX5_lacks.1, Cond.selects xX5_lacks.1.cls xX5_lacks.1 xX5_lacks.1] = true := by decide +kernel
  ⟨zChk_ok h _ (.head _), zChk_ok h _ (.tail _ (.head _))⟩
theorem lkL_216 : zLk RL 216 xX5_lacks 2 := zLk_of [1399, 76] (by decide +kernel) wcX5_lacks pdX5_lacks
set_option maxRecDepth 100000 in
theorem wcX5_lane : Cond.code xX5_lane.1 xX5_lane.2.1 xX5_lane.2.2.1 xX5_lane.2.2.2.1 ∈ zT := zT_of (i := 1276) rfl rfl
theorem pdX5_lane : xX5_lane.1.cls ≠ "java/lang/invoke/MethodHandle" ∧ xX5_lane.1.cls ≠ "java/lang/invoke/VarHandle" ∧ (parseMethodDescriptor xX5_lane.1.desc).map (fun d => d.parameters.length) = some 0 := by decide +kernel
theorem ivX5_lane : Cond.instanceMethod xX5_lane.1 ∈ zT ∧ Cond.selects xX5_lane.1.cls xX5_lane.1 xX5_lane.1 ∈ zT := have h : zChk [1274, 1275] [Cond.instanceMethod xX5_lane.1, Cond.selects xX5_lane.1.cls xX5_lane.1 xX5_lane.1] = true := by decide +kernel
  ⟨zChk_ok h _ (.head _), zChk_ok h _ (.tail _ (.head _))⟩
theorem lkL_92 : zLk RL 92 xX5_lane 0 := zLk_of [1273, 76] (by decide +kernel) wcX5_lane pdX5_lane
set_option maxRecDepth 100000 in
theorem wcX5_leastHeard : Cond.code xX5_leastHeard.1 xX5_leastHeard.2.1 xX5_leastHeard.2.2.1 xX5_leastHeard.2.2.2.1 ∈ zT := zT_of (i := 1550) rfl rfl
theorem pdX5_leastHeard : xX5_leastHeard.1.cls ≠ "java/lang/invoke/MethodHandle" ∧ xX5_leastHeard.1.cls ≠ "java/lang/invoke/VarHandle" ∧ (parseMethodDescriptor xX5_leastHeard.1.desc).map (fun d => d.parameters.length) = some 3 := by decide +kernel
theorem ivX5_leastHeard : Cond.instanceMethod xX5_leastHeard.1 ∈ zT ∧ Cond.selects xX5_leastHeard.1.cls xX5_leastHeard.1 xX5_leastHeard.1 ∈ zT := have h : zChk [1549, 64] [Cond.instanceMethod xX5_leastHeard.1, Cond.selects xX5_leastHeard.1.cls xX5_leastHeard.1 xX5_leastHeard.1] = true := by decide +kernel
  ⟨zChk_ok h _ (.head _), zChk_ok h _ (.tail _ (.head _))⟩
theorem lkX5_314 : zLk RX5 314 xX5_leastHeard 3 := zLk_of [1547, 76] (by decide +kernel) wcX5_leastHeard pdX5_leastHeard
set_option maxRecDepth 100000 in
theorem wcX5_leftOut : Cond.code xX5_leftOut.1 xX5_leftOut.2.1 xX5_leftOut.2.2.1 xX5_leftOut.2.2.2.1 ∈ zT := zT_of (i := 1213) rfl rfl
theorem pdX5_leftOut : xX5_leftOut.1.cls ≠ "java/lang/invoke/MethodHandle" ∧ xX5_leftOut.1.cls ≠ "java/lang/invoke/VarHandle" ∧ (parseMethodDescriptor xX5_leftOut.1.desc).map (fun d => d.parameters.length) = some 1 := by decide +kernel
theorem ivX5_leftOut : Cond.instanceMethod xX5_leftOut.1 ∈ zT ∧ Cond.selects xX5_leftOut.1.cls xX5_leftOut.1 xX5_leftOut.1 ∈ zT := have h : zChk [1212, 34] [Cond.instanceMethod xX5_leftOut.1, Cond.selects xX5_leftOut.1.cls xX5_leftOut.1 xX5_leftOut.1] = true := by decide +kernel
  ⟨zChk_ok h _ (.head _), zChk_ok h _ (.tail _ (.head _))⟩
theorem lkX5_239 : zLk RX5 239 xX5_leftOut 1 := zLk_of [1210, 76] (by decide +kernel) wcX5_leftOut pdX5_leftOut
set_option maxRecDepth 100000 in
theorem wcX5_lengths : Cond.code xX5_lengths.1 xX5_lengths.2.1 xX5_lengths.2.2.1 xX5_lengths.2.2.2.1 ∈ zT := zT_of (i := 1510) rfl rfl
theorem pdX5_lengths : xX5_lengths.1.cls ≠ "java/lang/invoke/MethodHandle" ∧ xX5_lengths.1.cls ≠ "java/lang/invoke/VarHandle" ∧ (parseMethodDescriptor xX5_lengths.1.desc).map (fun d => d.parameters.length) = some 4 := by decide +kernel
theorem ivX5_lengths : Cond.instanceMethod xX5_lengths.1 ∈ zT ∧ Cond.selects xX5_lengths.1.cls xX5_lengths.1 xX5_lengths.1 ∈ zT := have h : zChk [1508, 1509] [Cond.instanceMethod xX5_lengths.1, Cond.selects xX5_lengths.1.cls xX5_lengths.1 xX5_lengths.1] = true := by decide +kernel
  ⟨zChk_ok h _ (.head _), zChk_ok h _ (.tail _ (.head _))⟩
theorem lkL_152 : zLk RL 152 xX5_lengths 4 := zLk_of [1507, 76] (by decide +kernel) wcX5_lengths pdX5_lengths
set_option maxRecDepth 100000 in
theorem wcX5_letter : Cond.code xX5_letter.1 xX5_letter.2.1 xX5_letter.2.2.1 xX5_letter.2.2.2.1 ∈ zT := zT_of (i := 1230) rfl rfl
theorem pdX5_letter : xX5_letter.1.cls ≠ "java/lang/invoke/MethodHandle" ∧ xX5_letter.1.cls ≠ "java/lang/invoke/VarHandle" ∧ (parseMethodDescriptor xX5_letter.1.desc).map (fun d => d.parameters.length) = some 4 := by decide +kernel
theorem ivX5_letter : Cond.instanceMethod xX5_letter.1 ∈ zT ∧ Cond.selects xX5_letter.1.cls xX5_letter.1 xX5_letter.1 ∈ zT := have h : zChk [1228, 1229] [Cond.instanceMethod xX5_letter.1, Cond.selects xX5_letter.1.cls xX5_letter.1 xX5_letter.1] = true := by decide +kernel
  ⟨zChk_ok h _ (.head _), zChk_ok h _ (.tail _ (.head _))⟩
theorem lkL_57 : zLk RL 57 xX5_letter 4 := zLk_of [1227, 76] (by decide +kernel) wcX5_letter pdX5_letter
set_option maxRecDepth 100000 in
theorem wcX5_letterOf : Cond.code xX5_letterOf.1 xX5_letterOf.2.1 xX5_letterOf.2.2.1 xX5_letterOf.2.2.2.1 ∈ zT := zT_of (i := 1341) rfl rfl
theorem pdX5_letterOf : xX5_letterOf.1.cls ≠ "java/lang/invoke/MethodHandle" ∧ xX5_letterOf.1.cls ≠ "java/lang/invoke/VarHandle" ∧ (parseMethodDescriptor xX5_letterOf.1.desc).map (fun d => d.parameters.length) = some 2 := by decide +kernel
theorem ivX5_letterOf : Cond.instanceMethod xX5_letterOf.1 ∈ zT ∧ Cond.selects xX5_letterOf.1.cls xX5_letterOf.1 xX5_letterOf.1 ∈ zT := have h : zChk [1339, 1340] [Cond.instanceMethod xX5_letterOf.1, Cond.selects xX5_letterOf.1.cls xX5_letterOf.1 xX5_letterOf.1] = true := by decide +kernel
  ⟨zChk_ok h _ (.head _), zChk_ok h _ (.tail _ (.head _))⟩
theorem lkL_96 : zLk RL 96 xX5_letterOf 2 := zLk_of [1338, 76] (by decide +kernel) wcX5_letterOf pdX5_letterOf
set_option maxRecDepth 100000 in
theorem wcX5_look : Cond.code xX5_look.1 xX5_look.2.1 xX5_look.2.2.1 xX5_look.2.2.2.1 ∈ zT := zT_of (i := 1293) rfl rfl
theorem pdX5_look : xX5_look.1.cls ≠ "java/lang/invoke/MethodHandle" ∧ xX5_look.1.cls ≠ "java/lang/invoke/VarHandle" ∧ (parseMethodDescriptor xX5_look.1.desc).map (fun d => d.parameters.length) = some 0 := by decide +kernel
theorem ivX5_look : Cond.instanceMethod xX5_look.1 ∈ zT ∧ Cond.selects xX5_look.1.cls xX5_look.1 xX5_look.1 ∈ zT := have h : zChk [1292, 42] [Cond.instanceMethod xX5_look.1, Cond.selects xX5_look.1.cls xX5_look.1 xX5_look.1] = true := by decide +kernel
  ⟨zChk_ok h _ (.head _), zChk_ok h _ (.tail _ (.head _))⟩
theorem lkX5_181 : zLk RX5 181 xX5_look 0 := zLk_of [1290, 76] (by decide +kernel) wcX5_look pdX5_look
set_option maxRecDepth 100000 in
theorem wcX5_lost : Cond.code xX5_lost.1 xX5_lost.2.1 xX5_lost.2.2.1 xX5_lost.2.2.2.1 ∈ zT := zT_of (i := 1435) rfl rfl
theorem pdX5_lost : xX5_lost.1.cls ≠ "java/lang/invoke/MethodHandle" ∧ xX5_lost.1.cls ≠ "java/lang/invoke/VarHandle" ∧ (parseMethodDescriptor xX5_lost.1.desc).map (fun d => d.parameters.length) = some 0 := by decide +kernel
theorem ivX5_lost : Cond.instanceMethod xX5_lost.1 ∈ zT ∧ Cond.selects xX5_lost.1.cls xX5_lost.1 xX5_lost.1 ∈ zT := have h : zChk [1433, 1434] [Cond.instanceMethod xX5_lost.1, Cond.selects xX5_lost.1.cls xX5_lost.1 xX5_lost.1] = true := by decide +kernel
  ⟨zChk_ok h _ (.head _), zChk_ok h _ (.tail _ (.head _))⟩
theorem lkL_208 : zLk RL 208 xX5_lost 0 := zLk_of [1432, 76] (by decide +kernel) wcX5_lost pdX5_lost
set_option maxRecDepth 100000 in
theorem wcX5_loudest : Cond.code xX5_loudest.1 xX5_loudest.2.1 xX5_loudest.2.2.1 xX5_loudest.2.2.2.1 ∈ zT := zT_of (i := 1418) rfl rfl
theorem pdX5_loudest : xX5_loudest.1.cls ≠ "java/lang/invoke/MethodHandle" ∧ xX5_loudest.1.cls ≠ "java/lang/invoke/VarHandle" ∧ (parseMethodDescriptor xX5_loudest.1.desc).map (fun d => d.parameters.length) = some 1 := by decide +kernel
theorem ivX5_loudest : Cond.instanceMethod xX5_loudest.1 ∈ zT ∧ Cond.selects xX5_loudest.1.cls xX5_loudest.1 xX5_loudest.1 ∈ zT := have h : zChk [1416, 1417] [Cond.instanceMethod xX5_loudest.1, Cond.selects xX5_loudest.1.cls xX5_loudest.1 xX5_loudest.1] = true := by decide +kernel
  ⟨zChk_ok h _ (.head _), zChk_ok h _ (.tail _ (.head _))⟩
theorem lkL_124 : zLk RL 124 xX5_loudest 1 := zLk_of [1415, 76] (by decide +kernel) wcX5_loudest pdX5_loudest
set_option maxRecDepth 100000 in
theorem wcX5_mayPour : Cond.code xX5_mayPour.1 xX5_mayPour.2.1 xX5_mayPour.2.2.1 xX5_mayPour.2.2.2.1 ∈ zT := zT_of (i := 1546) rfl rfl
theorem pdX5_mayPour : xX5_mayPour.1.cls ≠ "java/lang/invoke/MethodHandle" ∧ xX5_mayPour.1.cls ≠ "java/lang/invoke/VarHandle" ∧ (parseMethodDescriptor xX5_mayPour.1.desc).map (fun d => d.parameters.length) = some 4 := by decide +kernel
theorem ivX5_mayPour : Cond.instanceMethod xX5_mayPour.1 ∈ zT ∧ Cond.selects xX5_mayPour.1.cls xX5_mayPour.1 xX5_mayPour.1 ∈ zT := have h : zChk [1545, 63] [Cond.instanceMethod xX5_mayPour.1, Cond.selects xX5_mayPour.1.cls xX5_mayPour.1 xX5_mayPour.1] = true := by decide +kernel
  ⟨zChk_ok h _ (.head _), zChk_ok h _ (.tail _ (.head _))⟩
theorem lkX5_310 : zLk RX5 310 xX5_mayPour 4 := zLk_of [1543, 76] (by decide +kernel) wcX5_mayPour pdX5_mayPour
set_option maxRecDepth 100000 in
theorem wcX5_mend : Cond.code xX5_mend.1 xX5_mend.2.1 xX5_mend.2.2.1 xX5_mend.2.2.2.1 ∈ zT := zT_of (i := 1243) rfl rfl
theorem pdX5_mend : xX5_mend.1.cls ≠ "java/lang/invoke/MethodHandle" ∧ xX5_mend.1.cls ≠ "java/lang/invoke/VarHandle" ∧ (parseMethodDescriptor xX5_mend.1.desc).map (fun d => d.parameters.length) = some 3 := by decide +kernel
theorem ivX5_mend : Cond.instanceMethod xX5_mend.1 ∈ zT ∧ Cond.selects xX5_mend.1.cls xX5_mend.1 xX5_mend.1 ∈ zT := have h : zChk [1241, 1242] [Cond.instanceMethod xX5_mend.1, Cond.selects xX5_mend.1.cls xX5_mend.1 xX5_mend.1] = true := by decide +kernel
  ⟨zChk_ok h _ (.head _), zChk_ok h _ (.tail _ (.head _))⟩
theorem lkL_61 : zLk RL 61 xX5_mend 3 := zLk_of [1240, 76] (by decide +kernel) wcX5_mend pdX5_mend
set_option maxRecDepth 100000 in
theorem wcX5_merry : Cond.code xX5_merry.1 xX5_merry.2.1 xX5_merry.2.2.1 xX5_merry.2.2.2.1 ∈ zT := zT_of (i := 1506) rfl rfl
theorem pdX5_merry : xX5_merry.1.cls ≠ "java/lang/invoke/MethodHandle" ∧ xX5_merry.1.cls ≠ "java/lang/invoke/VarHandle" ∧ (parseMethodDescriptor xX5_merry.1.desc).map (fun d => d.parameters.length) = some 1 := by decide +kernel
theorem ivX5_merry : Cond.instanceMethod xX5_merry.1 ∈ zT ∧ Cond.selects xX5_merry.1.cls xX5_merry.1 xX5_merry.1 ∈ zT := have h : zChk [1504, 1505] [Cond.instanceMethod xX5_merry.1, Cond.selects xX5_merry.1.cls xX5_merry.1 xX5_merry.1] = true := by decide +kernel
  ⟨zChk_ok h _ (.head _), zChk_ok h _ (.tail _ (.head _))⟩
theorem lkL_240 : zLk RL 240 xX5_merry 1 := zLk_of [1503, 76] (by decide +kernel) wcX5_merry pdX5_merry
set_option maxRecDepth 100000 in
theorem wcX5_noRow : Cond.code xX5_noRow.1 xX5_noRow.2.1 xX5_noRow.2.2.1 xX5_noRow.2.2.2.1 ∈ zT := zT_of (i := 1170) rfl rfl
theorem pdX5_noRow : xX5_noRow.1.cls ≠ "java/lang/invoke/MethodHandle" ∧ xX5_noRow.1.cls ≠ "java/lang/invoke/VarHandle" ∧ (parseMethodDescriptor xX5_noRow.1.desc).map (fun d => d.parameters.length) = some 1 := by decide +kernel
theorem ivX5_noRow : Cond.instanceMethod xX5_noRow.1 ∈ zT ∧ Cond.selects xX5_noRow.1.cls xX5_noRow.1 xX5_noRow.1 ∈ zT := have h : zChk [1169, 30] [Cond.instanceMethod xX5_noRow.1, Cond.selects xX5_noRow.1.cls xX5_noRow.1 xX5_noRow.1] = true := by decide +kernel
  ⟨zChk_ok h _ (.head _), zChk_ok h _ (.tail _ (.head _))⟩
theorem lkX5_98 : zLk RX5 98 xX5_noRow 1 := zLk_of [1167, 76] (by decide +kernel) wcX5_noRow pdX5_noRow
set_option maxRecDepth 100000 in
theorem wcX5_noSounds : Cond.code xX5_noSounds.1 xX5_noSounds.2.1 xX5_noSounds.2.2.1 xX5_noSounds.2.2.2.1 ∈ zT := zT_of (i := 1514) rfl rfl
theorem pdX5_noSounds : xX5_noSounds.1.cls ≠ "java/lang/invoke/MethodHandle" ∧ xX5_noSounds.1.cls ≠ "java/lang/invoke/VarHandle" ∧ (parseMethodDescriptor xX5_noSounds.1.desc).map (fun d => d.parameters.length) = some 4 := by decide +kernel
theorem ivX5_noSounds : Cond.instanceMethod xX5_noSounds.1 ∈ zT ∧ Cond.selects xX5_noSounds.1.cls xX5_noSounds.1 xX5_noSounds.1 ∈ zT := have h : zChk [1513, 59] [Cond.instanceMethod xX5_noSounds.1, Cond.selects xX5_noSounds.1.cls xX5_noSounds.1 xX5_noSounds.1] = true := by decide +kernel
  ⟨zChk_ok h _ (.head _), zChk_ok h _ (.tail _ (.head _))⟩
theorem lkX5_296 : zLk RX5 296 xX5_noSounds 4 := zLk_of [1511, 76] (by decide +kernel) wcX5_noSounds pdX5_noSounds
set_option maxRecDepth 100000 in
theorem wcX5_number : Cond.code xX5_number.1 xX5_number.2.1 xX5_number.2.2.1 xX5_number.2.2.2.1 ∈ zT := zT_of (i := 1318) rfl rfl
theorem pdX5_number : xX5_number.1.cls ≠ "java/lang/invoke/MethodHandle" ∧ xX5_number.1.cls ≠ "java/lang/invoke/VarHandle" ∧ (parseMethodDescriptor xX5_number.1.desc).map (fun d => d.parameters.length) = some 3 := by decide +kernel
theorem ivX5_number : Cond.instanceMethod xX5_number.1 ∈ zT ∧ Cond.selects xX5_number.1.cls xX5_number.1 xX5_number.1 ∈ zT := have h : zChk [1317, 46] [Cond.instanceMethod xX5_number.1, Cond.selects xX5_number.1.cls xX5_number.1 xX5_number.1] = true := by decide +kernel
  ⟨zChk_ok h _ (.head _), zChk_ok h _ (.tail _ (.head _))⟩
theorem lkX5_184 : zLk RX5 184 xX5_number 3 := zLk_of [1315, 76] (by decide +kernel) wcX5_number pdX5_number
set_option maxRecDepth 100000 in
theorem wcX5_ofKind : Cond.code xX5_ofKind.1 xX5_ofKind.2.1 xX5_ofKind.2.2.1 xX5_ofKind.2.2.2.1 ∈ zT := zT_of (i := 1398) rfl rfl
theorem pdX5_ofKind : xX5_ofKind.1.cls ≠ "java/lang/invoke/MethodHandle" ∧ xX5_ofKind.1.cls ≠ "java/lang/invoke/VarHandle" ∧ (parseMethodDescriptor xX5_ofKind.1.desc).map (fun d => d.parameters.length) = some 1 := by decide +kernel
theorem ivX5_ofKind : Cond.instanceMethod xX5_ofKind.1 ∈ zT ∧ Cond.selects xX5_ofKind.1.cls xX5_ofKind.1 xX5_ofKind.1 ∈ zT := have h : zChk [1396, 1397] [Cond.instanceMethod xX5_ofKind.1, Cond.selects xX5_ofKind.1.cls xX5_ofKind.1 xX5_ofKind.1] = true := by decide +kernel
  ⟨zChk_ok h _ (.head _), zChk_ok h _ (.tail _ (.head _))⟩
theorem lkL_252 : zLk RL 252 xX5_ofKind 1 := zLk_of [1395, 76] (by decide +kernel) wcX5_ofKind pdX5_ofKind
set_option maxRecDepth 100000 in
theorem wcX5_pour : Cond.code xX5_pour.1 xX5_pour.2.1 xX5_pour.2.2.1 xX5_pour.2.2.2.1 ∈ zT := zT_of (i := 1542) rfl rfl
theorem pdX5_pour : xX5_pour.1.cls ≠ "java/lang/invoke/MethodHandle" ∧ xX5_pour.1.cls ≠ "java/lang/invoke/VarHandle" ∧ (parseMethodDescriptor xX5_pour.1.desc).map (fun d => d.parameters.length) = some 5 := by decide +kernel
theorem ivX5_pour : Cond.instanceMethod xX5_pour.1 ∈ zT ∧ Cond.selects xX5_pour.1.cls xX5_pour.1 xX5_pour.1 ∈ zT := have h : zChk [1540, 1541] [Cond.instanceMethod xX5_pour.1, Cond.selects xX5_pour.1.cls xX5_pour.1 xX5_pour.1] = true := by decide +kernel
  ⟨zChk_ok h _ (.head _), zChk_ok h _ (.tail _ (.head _))⟩
theorem lkL_168 : zLk RL 168 xX5_pour 5 := zLk_of [1539, 76] (by decide +kernel) wcX5_pour pdX5_pour
set_option maxRecDepth 100000 in
theorem wcX5_quiet : Cond.code xX5_quiet.1 xX5_quiet.2.1 xX5_quiet.2.2.1 xX5_quiet.2.2.2.1 ∈ zT := zT_of (i := 1486) rfl rfl
theorem pdX5_quiet : xX5_quiet.1.cls ≠ "java/lang/invoke/MethodHandle" ∧ xX5_quiet.1.cls ≠ "java/lang/invoke/VarHandle" ∧ (parseMethodDescriptor xX5_quiet.1.desc).map (fun d => d.parameters.length) = some 1 := by decide +kernel
theorem ivX5_quiet : Cond.instanceMethod xX5_quiet.1 ∈ zT ∧ Cond.selects xX5_quiet.1.cls xX5_quiet.1 xX5_quiet.1 ∈ zT := have h : zChk [1484, 1485] [Cond.instanceMethod xX5_quiet.1, Cond.selects xX5_quiet.1.cls xX5_quiet.1 xX5_quiet.1] = true := by decide +kernel
  ⟨zChk_ok h _ (.head _), zChk_ok h _ (.tail _ (.head _))⟩
theorem lkL_224 : zLk RL 224 xX5_quiet 1 := zLk_of [1483, 76] (by decide +kernel) wcX5_quiet pdX5_quiet
set_option maxRecDepth 100000 in
theorem wcX5_reach : Cond.code xX5_reach.1 xX5_reach.2.1 xX5_reach.2.2.1 xX5_reach.2.2.2.1 ∈ zT := zT_of (i := 1410) rfl rfl
theorem pdX5_reach : xX5_reach.1.cls ≠ "java/lang/invoke/MethodHandle" ∧ xX5_reach.1.cls ≠ "java/lang/invoke/VarHandle" ∧ (parseMethodDescriptor xX5_reach.1.desc).map (fun d => d.parameters.length) = some 2 := by decide +kernel
theorem ivX5_reach : Cond.instanceMethod xX5_reach.1 ∈ zT ∧ Cond.selects xX5_reach.1.cls xX5_reach.1 xX5_reach.1 ∈ zT := have h : zChk [1408, 1409] [Cond.instanceMethod xX5_reach.1, Cond.selects xX5_reach.1.cls xX5_reach.1 xX5_reach.1] = true := by decide +kernel
  ⟨zChk_ok h _ (.head _), zChk_ok h _ (.tail _ (.head _))⟩
theorem lkL_212 : zLk RL 212 xX5_reach 2 := zLk_of [1407, 76] (by decide +kernel) wcX5_reach pdX5_reach
set_option maxRecDepth 100000 in
theorem wcX5_readAll : Cond.code xX5_readAll.1 xX5_readAll.2.1 xX5_readAll.2.2.1 xX5_readAll.2.2.2.1 ∈ zT := zT_of (i := 1289) rfl rfl
theorem pdX5_readAll : xX5_readAll.1.cls ≠ "java/lang/invoke/MethodHandle" ∧ xX5_readAll.1.cls ≠ "java/lang/invoke/VarHandle" ∧ (parseMethodDescriptor xX5_readAll.1.desc).map (fun d => d.parameters.length) = some 0 := by decide +kernel
theorem ivX5_readAll : Cond.instanceMethod xX5_readAll.1 ∈ zT ∧ Cond.selects xX5_readAll.1.cls xX5_readAll.1 xX5_readAll.1 ∈ zT := have h : zChk [1288, 41] [Cond.instanceMethod xX5_readAll.1, Cond.selects xX5_readAll.1.cls xX5_readAll.1 xX5_readAll.1] = true := by decide +kernel
  ⟨zChk_ok h _ (.head _), zChk_ok h _ (.tail _ (.head _))⟩
theorem lkX5_228 : zLk RX5 228 xX5_readAll 0 := zLk_of [1286, 76] (by decide +kernel) wcX5_readAll pdX5_readAll
set_option maxRecDepth 100000 in
theorem wcX5_readAt : Cond.code xX5_readAt.1 xX5_readAt.2.1 xX5_readAt.2.2.1 xX5_readAt.2.2.2.1 ∈ zT := zT_of (i := 1209) rfl rfl
theorem pdX5_readAt : xX5_readAt.1.cls ≠ "java/lang/invoke/MethodHandle" ∧ xX5_readAt.1.cls ≠ "java/lang/invoke/VarHandle" ∧ (parseMethodDescriptor xX5_readAt.1.desc).map (fun d => d.parameters.length) = some 2 := by decide +kernel
theorem ivX5_readAt : Cond.instanceMethod xX5_readAt.1 ∈ zT ∧ Cond.selects xX5_readAt.1.cls xX5_readAt.1 xX5_readAt.1 ∈ zT := have h : zChk [1208, 33] [Cond.instanceMethod xX5_readAt.1, Cond.selects xX5_readAt.1.cls xX5_readAt.1 xX5_readAt.1] = true := by decide +kernel
  ⟨zChk_ok h _ (.head _), zChk_ok h _ (.tail _ (.head _))⟩
theorem lkX5_236 : zLk RX5 236 xX5_readAt 2 := zLk_of [1206, 76] (by decide +kernel) wcX5_readAt pdX5_readAt
set_option maxRecDepth 100000 in
theorem wcX5_refuse : Cond.code xX5_refuse.1 xX5_refuse.2.1 xX5_refuse.2.2.1 xX5_refuse.2.2.2.1 ∈ zT := zT_of (i := 1162) rfl rfl
theorem pdX5_refuse : xX5_refuse.1.cls ≠ "java/lang/invoke/MethodHandle" ∧ xX5_refuse.1.cls ≠ "java/lang/invoke/VarHandle" ∧ (parseMethodDescriptor xX5_refuse.1.desc).map (fun d => d.parameters.length) = some 1 := by decide +kernel
theorem ivX5_refuse : Cond.instanceMethod xX5_refuse.1 ∈ zT ∧ Cond.selects xX5_refuse.1.cls xX5_refuse.1 xX5_refuse.1 ∈ zT := have h : zChk [1161, 29] [Cond.instanceMethod xX5_refuse.1, Cond.selects xX5_refuse.1.cls xX5_refuse.1 xX5_refuse.1] = true := by decide +kernel
  ⟨zChk_ok h _ (.head _), zChk_ok h _ (.tail _ (.head _))⟩
theorem lkX5_94 : zLk RX5 94 xX5_refuse 1 := zLk_of [1159, 76] (by decide +kernel) wcX5_refuse pdX5_refuse
set_option maxRecDepth 100000 in
theorem wcX5_round : Cond.code xX5_round.1 xX5_round.2.1 xX5_round.2.2.1 xX5_round.2.2.2.1 ∈ zT := zT_of (i := 1575) rfl rfl
theorem pdX5_round : xX5_round.1.cls ≠ "java/lang/invoke/MethodHandle" ∧ xX5_round.1.cls ≠ "java/lang/invoke/VarHandle" ∧ (parseMethodDescriptor xX5_round.1.desc).map (fun d => d.parameters.length) = some 1 := by decide +kernel
theorem ivX5_round : Cond.instanceMethod xX5_round.1 ∈ zT ∧ Cond.selects xX5_round.1.cls xX5_round.1 xX5_round.1 ∈ zT := have h : zChk [1573, 1574] [Cond.instanceMethod xX5_round.1, Cond.selects xX5_round.1.cls xX5_round.1 xX5_round.1] = true := by decide +kernel
  ⟨zChk_ok h _ (.head _), zChk_ok h _ (.tail _ (.head _))⟩
theorem lkL_260 : zLk RL 260 xX5_round 1 := zLk_of [1572, 76] (by decide +kernel) wcX5_round pdX5_round
set_option maxRecDepth 100000 in
theorem wcX5_row : Cond.code xX5_row.1 xX5_row.2.1 xX5_row.2.2.1 xX5_row.2.2.2.1 ∈ zT := zT_of (i := 1152) rfl rfl
theorem pdX5_row : xX5_row.1.cls ≠ "java/lang/invoke/MethodHandle" ∧ xX5_row.1.cls ≠ "java/lang/invoke/VarHandle" ∧ (parseMethodDescriptor xX5_row.1.desc).map (fun d => d.parameters.length) = some 3 := by decide +kernel
theorem ivX5_row : Cond.instanceMethod xX5_row.1 ∈ zT ∧ Cond.selects xX5_row.1.cls xX5_row.1 xX5_row.1 ∈ zT := have h : zChk [1150, 1151] [Cond.instanceMethod xX5_row.1, Cond.selects xX5_row.1.cls xX5_row.1 xX5_row.1] = true := by decide +kernel
  ⟨zChk_ok h _ (.head _), zChk_ok h _ (.tail _ (.head _))⟩
theorem lkL_17 : zLk RL 17 xX5_row 3 := zLk_of [1149, 76] (by decide +kernel) wcX5_row pdX5_row
set_option maxRecDepth 100000 in
theorem wcX5_says : Cond.code xX5_says.1 xX5_says.2.1 xX5_says.2.2.1 xX5_says.2.2.2.1 ∈ zT := zT_of (i := 1197) rfl rfl
theorem pdX5_says : xX5_says.1.cls ≠ "java/lang/invoke/MethodHandle" ∧ xX5_says.1.cls ≠ "java/lang/invoke/VarHandle" ∧ (parseMethodDescriptor xX5_says.1.desc).map (fun d => d.parameters.length) = some 2 := by decide +kernel
theorem ivX5_says : Cond.instanceMethod xX5_says.1 ∈ zT ∧ Cond.selects xX5_says.1.cls xX5_says.1 xX5_says.1 ∈ zT := have h : zChk [1195, 1196] [Cond.instanceMethod xX5_says.1, Cond.selects xX5_says.1.cls xX5_says.1 xX5_says.1] = true := by decide +kernel
  ⟨zChk_ok h _ (.head _), zChk_ok h _ (.tail _ (.head _))⟩
theorem lkL_48 : zLk RL 48 xX5_says 2 := zLk_of [1194, 76] (by decide +kernel) wcX5_says pdX5_says
set_option maxRecDepth 100000 in
theorem wcX5_seal : Cond.code xX5_seal.1 xX5_seal.2.1 xX5_seal.2.2.1 xX5_seal.2.2.2.1 ∈ zT := zT_of (i := 1458) rfl rfl
theorem pdX5_seal : xX5_seal.1.cls ≠ "java/lang/invoke/MethodHandle" ∧ xX5_seal.1.cls ≠ "java/lang/invoke/VarHandle" ∧ (parseMethodDescriptor xX5_seal.1.desc).map (fun d => d.parameters.length) = some 2 := by decide +kernel
theorem ivX5_seal : Cond.instanceMethod xX5_seal.1 ∈ zT ∧ Cond.selects xX5_seal.1.cls xX5_seal.1 xX5_seal.1 ∈ zT := have h : zChk [1456, 1457] [Cond.instanceMethod xX5_seal.1, Cond.selects xX5_seal.1.cls xX5_seal.1 xX5_seal.1] = true := by decide +kernel
  ⟨zChk_ok h _ (.head _), zChk_ok h _ (.tail _ (.head _))⟩
theorem lkL_144 : zLk RL 144 xX5_seal 2 := zLk_of [1455, 76] (by decide +kernel) wcX5_seal pdX5_seal
set_option maxRecDepth 100000 in
theorem wcX5_secret : Cond.code xX5_secret.1 xX5_secret.2.1 xX5_secret.2.2.1 xX5_secret.2.2.2.1 ∈ zT := zT_of (i := 1431) rfl rfl
theorem pdX5_secret : xX5_secret.1.cls ≠ "java/lang/invoke/MethodHandle" ∧ xX5_secret.1.cls ≠ "java/lang/invoke/VarHandle" ∧ (parseMethodDescriptor xX5_secret.1.desc).map (fun d => d.parameters.length) = some 0 := by decide +kernel
theorem ivX5_secret : Cond.instanceMethod xX5_secret.1 ∈ zT ∧ Cond.selects xX5_secret.1.cls xX5_secret.1 xX5_secret.1 ∈ zT := have h : zChk [1429, 1430] [Cond.instanceMethod xX5_secret.1, Cond.selects xX5_secret.1.cls xX5_secret.1 xX5_secret.1] = true := by decide +kernel
  ⟨zChk_ok h _ (.head _), zChk_ok h _ (.tail _ (.head _))⟩
theorem lkL_204 : zLk RL 204 xX5_secret 0 := zLk_of [1428, 76] (by decide +kernel) wcX5_secret pdX5_secret
set_option maxRecDepth 100000 in
theorem wcX5_seed : Cond.code xX5_seed.1 xX5_seed.2.1 xX5_seed.2.2.1 xX5_seed.2.2.2.1 ∈ zT := zT_of (i := 1601) rfl rfl
theorem pdX5_seed : xX5_seed.1.cls ≠ "java/lang/invoke/MethodHandle" ∧ xX5_seed.1.cls ≠ "java/lang/invoke/VarHandle" ∧ (parseMethodDescriptor xX5_seed.1.desc).map (fun d => d.parameters.length) = some 1 := by decide +kernel
theorem ivX5_seed : Cond.instanceMethod xX5_seed.1 ∈ zT ∧ Cond.selects xX5_seed.1.cls xX5_seed.1 xX5_seed.1 ∈ zT := have h : zChk [1599, 1600] [Cond.instanceMethod xX5_seed.1, Cond.selects xX5_seed.1.cls xX5_seed.1 xX5_seed.1] = true := by decide +kernel
  ⟨zChk_ok h _ (.head _), zChk_ok h _ (.tail _ (.head _))⟩
theorem lkL_268 : zLk RL 268 xX5_seed 1 := zLk_of [1598, 76] (by decide +kernel) wcX5_seed pdX5_seed
set_option maxRecDepth 100000 in
theorem wcX5_set : Cond.code xX5_set.1 xX5_set.2.1 xX5_set.2.2.1 xX5_set.2.2.2.1 ∈ zT := zT_of (i := 1166) rfl rfl
theorem pdX5_set : xX5_set.1.cls ≠ "java/lang/invoke/MethodHandle" ∧ xX5_set.1.cls ≠ "java/lang/invoke/VarHandle" ∧ (parseMethodDescriptor xX5_set.1.desc).map (fun d => d.parameters.length) = some 3 := by decide +kernel
theorem ivX5_set : Cond.instanceMethod xX5_set.1 ∈ zT ∧ Cond.selects xX5_set.1.cls xX5_set.1 xX5_set.1 ∈ zT := have h : zChk [1164, 1165] [Cond.instanceMethod xX5_set.1, Cond.selects xX5_set.1.cls xX5_set.1 xX5_set.1] = true := by decide +kernel
  ⟨zChk_ok h _ (.head _), zChk_ok h _ (.tail _ (.head _))⟩
theorem lkL_24 : zLk RL 24 xX5_set 3 := zLk_of [1163, 76] (by decide +kernel) wcX5_set pdX5_set
set_option maxRecDepth 100000 in
theorem wcX5_setCode : Cond.code xX5_setCode.1 xX5_setCode.2.1 xX5_setCode.2.2.1 xX5_setCode.2.2.2.1 ∈ zT := zT_of (i := 1255) rfl rfl
theorem pdX5_setCode : xX5_setCode.1.cls ≠ "java/lang/invoke/MethodHandle" ∧ xX5_setCode.1.cls ≠ "java/lang/invoke/VarHandle" ∧ (parseMethodDescriptor xX5_setCode.1.desc).map (fun d => d.parameters.length) = some 3 := by decide +kernel
theorem ivX5_setCode : Cond.instanceMethod xX5_setCode.1 ∈ zT ∧ Cond.selects xX5_setCode.1.cls xX5_setCode.1 xX5_setCode.1 ∈ zT := have h : zChk [1254, 39] [Cond.instanceMethod xX5_setCode.1, Cond.selects xX5_setCode.1.cls xX5_setCode.1 xX5_setCode.1] = true := by decide +kernel
  ⟨zChk_ok h _ (.head _), zChk_ok h _ (.tail _ (.head _))⟩
theorem lkX5_131 : zLk RX5 131 xX5_setCode 3 := zLk_of [1252, 76] (by decide +kernel) wcX5_setCode pdX5_setCode
set_option maxRecDepth 100000 in
theorem wcX5_shelvesFollow : Cond.code xX5_shelvesFollow.1 xX5_shelvesFollow.2.1 xX5_shelvesFollow.2.2.1 xX5_shelvesFollow.2.2.2.1 ∈ zT := zT_of (i := 1583) rfl rfl
theorem pdX5_shelvesFollow : xX5_shelvesFollow.1.cls ≠ "java/lang/invoke/MethodHandle" ∧ xX5_shelvesFollow.1.cls ≠ "java/lang/invoke/VarHandle" ∧ (parseMethodDescriptor xX5_shelvesFollow.1.desc).map (fun d => d.parameters.length) = some 0 := by decide +kernel
theorem ivX5_shelvesFollow : Cond.instanceMethod xX5_shelvesFollow.1 ∈ zT ∧ Cond.selects xX5_shelvesFollow.1.cls xX5_shelvesFollow.1 xX5_shelvesFollow.1 ∈ zT := have h : zChk [1582, 67] [Cond.instanceMethod xX5_shelvesFollow.1, Cond.selects xX5_shelvesFollow.1.cls xX5_shelvesFollow.1 xX5_shelvesFollow.1] = true := by decide +kernel
  ⟨zChk_ok h _ (.head _), zChk_ok h _ (.tail _ (.head _))⟩
theorem lkX5_328 : zLk RX5 328 xX5_shelvesFollow 0 := zLk_of [1580, 76] (by decide +kernel) wcX5_shelvesFollow pdX5_shelvesFollow
set_option maxRecDepth 100000 in
theorem wcX5_shout : Cond.code xX5_shout.1 xX5_shout.2.1 xX5_shout.2.2.1 xX5_shout.2.2.2.1 ∈ zT := zT_of (i := 1462) rfl rfl
theorem pdX5_shout : xX5_shout.1.cls ≠ "java/lang/invoke/MethodHandle" ∧ xX5_shout.1.cls ≠ "java/lang/invoke/VarHandle" ∧ (parseMethodDescriptor xX5_shout.1.desc).map (fun d => d.parameters.length) = some 2 := by decide +kernel
theorem ivX5_shout : Cond.instanceMethod xX5_shout.1 ∈ zT ∧ Cond.selects xX5_shout.1.cls xX5_shout.1 xX5_shout.1 ∈ zT := have h : zChk [1460, 1461] [Cond.instanceMethod xX5_shout.1, Cond.selects xX5_shout.1.cls xX5_shout.1 xX5_shout.1] = true := by decide +kernel
  ⟨zChk_ok h _ (.head _), zChk_ok h _ (.tail _ (.head _))⟩
theorem lkL_148 : zLk RL 148 xX5_shout 2 := zLk_of [1459, 76] (by decide +kernel) wcX5_shout pdX5_shout
set_option maxRecDepth 100000 in
theorem wcX5_show : Cond.code xX5_show.1 xX5_show.2.1 xX5_show.2.2.1 xX5_show.2.2.2.1 ∈ zT := zT_of (i := 1189) rfl rfl
theorem pdX5_show : xX5_show.1.cls ≠ "java/lang/invoke/MethodHandle" ∧ xX5_show.1.cls ≠ "java/lang/invoke/VarHandle" ∧ (parseMethodDescriptor xX5_show.1.desc).map (fun d => d.parameters.length) = some 2 := by decide +kernel
theorem ivX5_show : Cond.instanceMethod xX5_show.1 ∈ zT ∧ Cond.selects xX5_show.1.cls xX5_show.1 xX5_show.1 ∈ zT := have h : zChk [1187, 1188] [Cond.instanceMethod xX5_show.1, Cond.selects xX5_show.1.cls xX5_show.1 xX5_show.1] = true := by decide +kernel
  ⟨zChk_ok h _ (.head _), zChk_ok h _ (.tail _ (.head _))⟩
theorem lkL_44 : zLk RL 44 xX5_show 2 := zLk_of [1186, 76] (by decide +kernel) wcX5_show pdX5_show
set_option maxRecDepth 100000 in
theorem wcX5_sober : Cond.code xX5_sober.1 xX5_sober.2.1 xX5_sober.2.2.1 xX5_sober.2.2.2.1 ∈ zT := zT_of (i := 1490) rfl rfl
theorem pdX5_sober : xX5_sober.1.cls ≠ "java/lang/invoke/MethodHandle" ∧ xX5_sober.1.cls ≠ "java/lang/invoke/VarHandle" ∧ (parseMethodDescriptor xX5_sober.1.desc).map (fun d => d.parameters.length) = some 1 := by decide +kernel
theorem ivX5_sober : Cond.instanceMethod xX5_sober.1 ∈ zT ∧ Cond.selects xX5_sober.1.cls xX5_sober.1 xX5_sober.1 ∈ zT := have h : zChk [1488, 1489] [Cond.instanceMethod xX5_sober.1, Cond.selects xX5_sober.1.cls xX5_sober.1 xX5_sober.1] = true := by decide +kernel
  ⟨zChk_ok h _ (.head _), zChk_ok h _ (.tail _ (.head _))⟩
theorem lkL_228 : zLk RL 228 xX5_sober 1 := zLk_of [1487, 76] (by decide +kernel) wcX5_sober pdX5_sober
set_option maxRecDepth 100000 in
theorem wcX5_sounds : Cond.code xX5_sounds.1 xX5_sounds.2.1 xX5_sounds.2.2.1 xX5_sounds.2.2.2.1 ∈ zT := zT_of (i := 1522) rfl rfl
theorem pdX5_sounds : xX5_sounds.1.cls ≠ "java/lang/invoke/MethodHandle" ∧ xX5_sounds.1.cls ≠ "java/lang/invoke/VarHandle" ∧ (parseMethodDescriptor xX5_sounds.1.desc).map (fun d => d.parameters.length) = some 3 := by decide +kernel
theorem ivX5_sounds : Cond.instanceMethod xX5_sounds.1 ∈ zT ∧ Cond.selects xX5_sounds.1.cls xX5_sounds.1 xX5_sounds.1 ∈ zT := have h : zChk [1521, 61] [Cond.instanceMethod xX5_sounds.1, Cond.selects xX5_sounds.1.cls xX5_sounds.1 xX5_sounds.1] = true := by decide +kernel
  ⟨zChk_ok h _ (.head _), zChk_ok h _ (.tail _ (.head _))⟩
theorem lkX5_293 : zLk RX5 293 xX5_sounds 3 := zLk_of [1519, 76] (by decide +kernel) wcX5_sounds pdX5_sounds
set_option maxRecDepth 100000 in
theorem wcX5_statement : Cond.code xX5_statement.1 xX5_statement.2.1 xX5_statement.2.2.1 xX5_statement.2.2.2.1 ∈ zT := zT_of (i := 1303) rfl rfl
theorem pdX5_statement : xX5_statement.1.cls ≠ "java/lang/invoke/MethodHandle" ∧ xX5_statement.1.cls ≠ "java/lang/invoke/VarHandle" ∧ (parseMethodDescriptor xX5_statement.1.desc).map (fun d => d.parameters.length) = some 0 := by decide +kernel
theorem ivX5_statement : Cond.instanceMethod xX5_statement.1 ∈ zT ∧ Cond.selects xX5_statement.1.cls xX5_statement.1 xX5_statement.1 ∈ zT := have h : zChk [1302, 43] [Cond.instanceMethod xX5_statement.1, Cond.selects xX5_statement.1.cls xX5_statement.1 xX5_statement.1] = true := by decide +kernel
  ⟨zChk_ok h _ (.head _), zChk_ok h _ (.tail _ (.head _))⟩
theorem lkX5_216 : zLk RX5 216 xX5_statement 0 := zLk_of [1300, 76] (by decide +kernel) wcX5_statement pdX5_statement
set_option maxRecDepth 100000 in
theorem wcX5_status : Cond.code xX5_status.1 xX5_status.2.1 xX5_status.2.2.1 xX5_status.2.2.2.1 ∈ zT := zT_of (i := 1613) rfl rfl
theorem pdX5_status : xX5_status.1.cls ≠ "java/lang/invoke/MethodHandle" ∧ xX5_status.1.cls ≠ "java/lang/invoke/VarHandle" ∧ (parseMethodDescriptor xX5_status.1.desc).map (fun d => d.parameters.length) = some 1 := by decide +kernel
theorem ivX5_status : Cond.instanceMethod xX5_status.1 ∈ zT ∧ Cond.selects xX5_status.1.cls xX5_status.1 xX5_status.1 ∈ zT := have h : zChk [1611, 1612] [Cond.instanceMethod xX5_status.1, Cond.selects xX5_status.1.cls xX5_status.1 xX5_status.1] = true := by decide +kernel
  ⟨zChk_ok h _ (.head _), zChk_ok h _ (.tail _ (.head _))⟩
theorem lkL_280 : zLk RL 280 xX5_status 1 := zLk_of [1610, 76] (by decide +kernel) wcX5_status pdX5_status
set_option maxRecDepth 100000 in
theorem wcX5_sure : Cond.code xX5_sure.1 xX5_sure.2.1 xX5_sure.2.2.1 xX5_sure.2.2.2.1 ∈ zT := zT_of (i := 1567) rfl rfl
theorem pdX5_sure : xX5_sure.1.cls ≠ "java/lang/invoke/MethodHandle" ∧ xX5_sure.1.cls ≠ "java/lang/invoke/VarHandle" ∧ (parseMethodDescriptor xX5_sure.1.desc).map (fun d => d.parameters.length) = some 1 := by decide +kernel
theorem ivX5_sure : Cond.instanceMethod xX5_sure.1 ∈ zT ∧ Cond.selects xX5_sure.1.cls xX5_sure.1 xX5_sure.1 ∈ zT := have h : zChk [1565, 1566] [Cond.instanceMethod xX5_sure.1, Cond.selects xX5_sure.1.cls xX5_sure.1 xX5_sure.1] = true := by decide +kernel
  ⟨zChk_ok h _ (.head _), zChk_ok h _ (.tail _ (.head _))⟩
theorem lkL_180 : zLk RL 180 xX5_sure 1 := zLk_of [1564, 76] (by decide +kernel) wcX5_sure pdX5_sure
set_option maxRecDepth 100000 in
theorem wcX5_takeFrom : Cond.code xX5_takeFrom.1 xX5_takeFrom.2.1 xX5_takeFrom.2.2.1 xX5_takeFrom.2.2.2.1 ∈ zT := zT_of (i := 1282) rfl rfl
theorem pdX5_takeFrom : xX5_takeFrom.1.cls ≠ "java/lang/invoke/MethodHandle" ∧ xX5_takeFrom.1.cls ≠ "java/lang/invoke/VarHandle" ∧ (parseMethodDescriptor xX5_takeFrom.1.desc).map (fun d => d.parameters.length) = some 1 := by decide +kernel
theorem ivX5_takeFrom : Cond.instanceMethod xX5_takeFrom.1 ∈ zT ∧ Cond.selects xX5_takeFrom.1.cls xX5_takeFrom.1 xX5_takeFrom.1 ∈ zT := have h : zChk [1281, 40] [Cond.instanceMethod xX5_takeFrom.1, Cond.selects xX5_takeFrom.1.cls xX5_takeFrom.1 xX5_takeFrom.1] = true := by decide +kernel
  ⟨zChk_ok h _ (.head _), zChk_ok h _ (.tail _ (.head _))⟩
theorem lkX5_224 : zLk RX5 224 xX5_takeFrom 1 := zLk_of [1279, 76] (by decide +kernel) wcX5_takeFrom pdX5_takeFrom
set_option maxRecDepth 100000 in
theorem wcX5_taught : Cond.code xX5_taught.1 xX5_taught.2.1 xX5_taught.2.2.1 xX5_taught.2.2.2.1 ∈ zT := zT_of (i := 1502) rfl rfl
theorem pdX5_taught : xX5_taught.1.cls ≠ "java/lang/invoke/MethodHandle" ∧ xX5_taught.1.cls ≠ "java/lang/invoke/VarHandle" ∧ (parseMethodDescriptor xX5_taught.1.desc).map (fun d => d.parameters.length) = some 2 := by decide +kernel
theorem ivX5_taught : Cond.instanceMethod xX5_taught.1 ∈ zT ∧ Cond.selects xX5_taught.1.cls xX5_taught.1 xX5_taught.1 ∈ zT := have h : zChk [1500, 1501] [Cond.instanceMethod xX5_taught.1, Cond.selects xX5_taught.1.cls xX5_taught.1 xX5_taught.1] = true := by decide +kernel
  ⟨zChk_ok h _ (.head _), zChk_ok h _ (.tail _ (.head _))⟩
theorem lkL_236 : zLk RL 236 xX5_taught 2 := zLk_of [1499, 76] (by decide +kernel) wcX5_taught pdX5_taught
set_option maxRecDepth 100000 in
theorem wcX5_tell : Cond.code xX5_tell.1 xX5_tell.2.1 xX5_tell.2.2.1 xX5_tell.2.2.2.1 ∈ zT := zT_of (i := 1247) rfl rfl
theorem pdX5_tell : xX5_tell.1.cls ≠ "java/lang/invoke/MethodHandle" ∧ xX5_tell.1.cls ≠ "java/lang/invoke/VarHandle" ∧ (parseMethodDescriptor xX5_tell.1.desc).map (fun d => d.parameters.length) = some 3 := by decide +kernel
theorem ivX5_tell : Cond.instanceMethod xX5_tell.1 ∈ zT ∧ Cond.selects xX5_tell.1.cls xX5_tell.1 xX5_tell.1 ∈ zT := have h : zChk [1245, 1246] [Cond.instanceMethod xX5_tell.1, Cond.selects xX5_tell.1.cls xX5_tell.1 xX5_tell.1] = true := by decide +kernel
  ⟨zChk_ok h _ (.head _), zChk_ok h _ (.tail _ (.head _))⟩
theorem lkL_65 : zLk RL 65 xX5_tell 3 := zLk_of [1244, 76] (by decide +kernel) wcX5_tell pdX5_tell
set_option maxRecDepth 100000 in
theorem wcX5_tells : Cond.code xX5_tells.1 xX5_tells.2.1 xX5_tells.2.2.1 xX5_tells.2.2.2.1 ∈ zT := zT_of (i := 1314) rfl rfl
theorem pdX5_tells : xX5_tells.1.cls ≠ "java/lang/invoke/MethodHandle" ∧ xX5_tells.1.cls ≠ "java/lang/invoke/VarHandle" ∧ (parseMethodDescriptor xX5_tells.1.desc).map (fun d => d.parameters.length) = some 2 := by decide +kernel
theorem ivX5_tells : Cond.instanceMethod xX5_tells.1 ∈ zT ∧ Cond.selects xX5_tells.1.cls xX5_tells.1 xX5_tells.1 ∈ zT := have h : zChk [1313, 45] [Cond.instanceMethod xX5_tells.1, Cond.selects xX5_tells.1.cls xX5_tells.1 xX5_tells.1] = true := by decide +kernel
  ⟨zChk_ok h _ (.head _), zChk_ok h _ (.tail _ (.head _))⟩
theorem lkX5_188 : zLk RX5 188 xX5_tells 2 := zLk_of [1311, 76] (by decide +kernel) wcX5_tells pdX5_tells
set_option maxRecDepth 100000 in
theorem wcX5_tellsHouse : Cond.code xX5_tellsHouse.1 xX5_tellsHouse.2.1 xX5_tellsHouse.2.2.1 xX5_tellsHouse.2.2.2.1 ∈ zT := zT_of (i := 1334) rfl rfl
theorem pdX5_tellsHouse : xX5_tellsHouse.1.cls ≠ "java/lang/invoke/MethodHandle" ∧ xX5_tellsHouse.1.cls ≠ "java/lang/invoke/VarHandle" ∧ (parseMethodDescriptor xX5_tellsHouse.1.desc).map (fun d => d.parameters.length) = some 0 := by decide +kernel
theorem ivX5_tellsHouse : Cond.instanceMethod xX5_tellsHouse.1 ∈ zT ∧ Cond.selects xX5_tellsHouse.1.cls xX5_tellsHouse.1 xX5_tellsHouse.1 ∈ zT := have h : zChk [1333, 49] [Cond.instanceMethod xX5_tellsHouse.1, Cond.selects xX5_tellsHouse.1.cls xX5_tellsHouse.1 xX5_tellsHouse.1] = true := by decide +kernel
  ⟨zChk_ok h _ (.head _), zChk_ok h _ (.tail _ (.head _))⟩
theorem lkX5_205 : zLk RX5 205 xX5_tellsHouse 0 := zLk_of [1331, 76] (by decide +kernel) wcX5_tellsHouse pdX5_tellsHouse
set_option maxRecDepth 100000 in
theorem wcX5_tellsLetter : Cond.code xX5_tellsLetter.1 xX5_tellsLetter.2.1 xX5_tellsLetter.2.2.1 xX5_tellsLetter.2.2.2.1 ∈ zT := zT_of (i := 1327) rfl rfl
theorem pdX5_tellsLetter : xX5_tellsLetter.1.cls ≠ "java/lang/invoke/MethodHandle" ∧ xX5_tellsLetter.1.cls ≠ "java/lang/invoke/VarHandle" ∧ (parseMethodDescriptor xX5_tellsLetter.1.desc).map (fun d => d.parameters.length) = some 0 := by decide +kernel
theorem ivX5_tellsLetter : Cond.instanceMethod xX5_tellsLetter.1 ∈ zT ∧ Cond.selects xX5_tellsLetter.1.cls xX5_tellsLetter.1 xX5_tellsLetter.1 ∈ zT := have h : zChk [1326, 48] [Cond.instanceMethod xX5_tellsLetter.1, Cond.selects xX5_tellsLetter.1.cls xX5_tellsLetter.1 xX5_tellsLetter.1] = true := by decide +kernel
  ⟨zChk_ok h _ (.head _), zChk_ok h _ (.tail _ (.head _))⟩
theorem lkX5_201 : zLk RX5 201 xX5_tellsLetter 0 := zLk_of [1324, 76] (by decide +kernel) wcX5_tellsLetter pdX5_tellsLetter
set_option maxRecDepth 100000 in
theorem wcX5_thirst : Cond.code xX5_thirst.1 xX5_thirst.2.1 xX5_thirst.2.2.1 xX5_thirst.2.2.2.1 ∈ zT := zT_of (i := 1494) rfl rfl
theorem pdX5_thirst : xX5_thirst.1.cls ≠ "java/lang/invoke/MethodHandle" ∧ xX5_thirst.1.cls ≠ "java/lang/invoke/VarHandle" ∧ (parseMethodDescriptor xX5_thirst.1.desc).map (fun d => d.parameters.length) = some 1 := by decide +kernel
theorem ivX5_thirst : Cond.instanceMethod xX5_thirst.1 ∈ zT ∧ Cond.selects xX5_thirst.1.cls xX5_thirst.1 xX5_thirst.1 ∈ zT := have h : zChk [1492, 1493] [Cond.instanceMethod xX5_thirst.1, Cond.selects xX5_thirst.1.cls xX5_thirst.1 xX5_thirst.1] = true := by decide +kernel
  ⟨zChk_ok h _ (.head _), zChk_ok h _ (.tail _ (.head _))⟩
theorem lkL_232 : zLk RL 232 xX5_thirst 1 := zLk_of [1491, 76] (by decide +kernel) wcX5_thirst pdX5_thirst
set_option maxRecDepth 100000 in
theorem wcX5_tipsy : Cond.code xX5_tipsy.1 xX5_tipsy.2.1 xX5_tipsy.2.2.1 xX5_tipsy.2.2.2.1 ∈ zT := zT_of (i := 1217) rfl rfl
theorem pdX5_tipsy : xX5_tipsy.1.cls ≠ "java/lang/invoke/MethodHandle" ∧ xX5_tipsy.1.cls ≠ "java/lang/invoke/VarHandle" ∧ (parseMethodDescriptor xX5_tipsy.1.desc).map (fun d => d.parameters.length) = some 1 := by decide +kernel
theorem ivX5_tipsy : Cond.instanceMethod xX5_tipsy.1 ∈ zT ∧ Cond.selects xX5_tipsy.1.cls xX5_tipsy.1 xX5_tipsy.1 ∈ zT := have h : zChk [1216, 35] [Cond.instanceMethod xX5_tipsy.1, Cond.selects xX5_tipsy.1.cls xX5_tipsy.1 xX5_tipsy.1] = true := by decide +kernel
  ⟨zChk_ok h _ (.head _), zChk_ok h _ (.tail _ (.head _))⟩
theorem lkX5_233 : zLk RX5 233 xX5_tipsy 1 := zLk_of [1214, 76] (by decide +kernel) wcX5_tipsy pdX5_tipsy
set_option maxRecDepth 100000 in
theorem wcX5_turned : Cond.code xX5_turned.1 xX5_turned.2.1 xX5_turned.2.2.1 xX5_turned.2.2.2.1 ∈ zT := zT_of (i := 1478) rfl rfl
theorem pdX5_turned : xX5_turned.1.cls ≠ "java/lang/invoke/MethodHandle" ∧ xX5_turned.1.cls ≠ "java/lang/invoke/VarHandle" ∧ (parseMethodDescriptor xX5_turned.1.desc).map (fun d => d.parameters.length) = some 1 := by decide +kernel
theorem ivX5_turned : Cond.instanceMethod xX5_turned.1 ∈ zT ∧ Cond.selects xX5_turned.1.cls xX5_turned.1 xX5_turned.1 ∈ zT := have h : zChk [1476, 1477] [Cond.instanceMethod xX5_turned.1, Cond.selects xX5_turned.1.cls xX5_turned.1 xX5_turned.1] = true := by decide +kernel
  ⟨zChk_ok h _ (.head _), zChk_ok h _ (.tail _ (.head _))⟩
theorem lkL_184 : zLk RL 184 xX5_turned 1 := zLk_of [1475, 76] (by decide +kernel) wcX5_turned pdX5_turned
set_option maxRecDepth 100000 in
theorem wcX5_way : Cond.code xX5_way.1 xX5_way.2.1 xX5_way.2.2.1 xX5_way.2.2.2.1 ∈ zT := zT_of (i := 1263) rfl rfl
theorem pdX5_way : xX5_way.1.cls ≠ "java/lang/invoke/MethodHandle" ∧ xX5_way.1.cls ≠ "java/lang/invoke/VarHandle" ∧ (parseMethodDescriptor xX5_way.1.desc).map (fun d => d.parameters.length) = some 1 := by decide +kernel
theorem ivX5_way : Cond.instanceMethod xX5_way.1 ∈ zT ∧ Cond.selects xX5_way.1.cls xX5_way.1 xX5_way.1 ∈ zT := have h : zChk [1261, 1262] [Cond.instanceMethod xX5_way.1, Cond.selects xX5_way.1.cls xX5_way.1 xX5_way.1] = true := by decide +kernel
  ⟨zChk_ok h _ (.head _), zChk_ok h _ (.tail _ (.head _))⟩
theorem lkL_79 : zLk RL 79 xX5_way 1 := zLk_of [1260, 76] (by decide +kernel) wcX5_way pdX5_way
set_option maxRecDepth 100000 in
theorem wcX5_whoKnows : Cond.code xX5_whoKnows.1 xX5_whoKnows.2.1 xX5_whoKnows.2.2.1 xX5_whoKnows.2.2.2.1 ∈ zT := zT_of (i := 1362) rfl rfl
theorem pdX5_whoKnows : xX5_whoKnows.1.cls ≠ "java/lang/invoke/MethodHandle" ∧ xX5_whoKnows.1.cls ≠ "java/lang/invoke/VarHandle" ∧ (parseMethodDescriptor xX5_whoKnows.1.desc).map (fun d => d.parameters.length) = some 1 := by decide +kernel
theorem ivX5_whoKnows : Cond.instanceMethod xX5_whoKnows.1 ∈ zT ∧ Cond.selects xX5_whoKnows.1.cls xX5_whoKnows.1 xX5_whoKnows.1 ∈ zT := have h : zChk [1360, 1361] [Cond.instanceMethod xX5_whoKnows.1, Cond.selects xX5_whoKnows.1.cls xX5_whoKnows.1 xX5_whoKnows.1] = true := by decide +kernel
  ⟨zChk_ok h _ (.head _), zChk_ok h _ (.tail _ (.head _))⟩
theorem lkL_112 : zLk RL 112 xX5_whoKnows 1 := zLk_of [1359, 76] (by decide +kernel) wcX5_whoKnows pdX5_whoKnows
set_option maxRecDepth 100000 in
theorem wcX5_widest : Cond.code xX5_widest.1 xX5_widest.2.1 xX5_widest.2.2.1 xX5_widest.2.2.2.1 ∈ zT := zT_of (i := 1454) rfl rfl
theorem pdX5_widest : xX5_widest.1.cls ≠ "java/lang/invoke/MethodHandle" ∧ xX5_widest.1.cls ≠ "java/lang/invoke/VarHandle" ∧ (parseMethodDescriptor xX5_widest.1.desc).map (fun d => d.parameters.length) = some 2 := by decide +kernel
theorem ivX5_widest : Cond.instanceMethod xX5_widest.1 ∈ zT ∧ Cond.selects xX5_widest.1.cls xX5_widest.1 xX5_widest.1 ∈ zT := have h : zChk [1452, 1453] [Cond.instanceMethod xX5_widest.1, Cond.selects xX5_widest.1.cls xX5_widest.1 xX5_widest.1] = true := by decide +kernel
  ⟨zChk_ok h _ (.head _), zChk_ok h _ (.tail _ (.head _))⟩
theorem lkL_196 : zLk RL 196 xX5_widest 2 := zLk_of [1451, 76] (by decide +kernel) wcX5_widest pdX5_widest
set_option maxRecDepth 100000 in
theorem wcX5_winds : Cond.code xX5_winds.1 xX5_winds.2.1 xX5_winds.2.2.1 xX5_winds.2.2.2.1 ∈ zT := zT_of (i := 1538) rfl rfl
theorem pdX5_winds : xX5_winds.1.cls ≠ "java/lang/invoke/MethodHandle" ∧ xX5_winds.1.cls ≠ "java/lang/invoke/VarHandle" ∧ (parseMethodDescriptor xX5_winds.1.desc).map (fun d => d.parameters.length) = some 3 := by decide +kernel
theorem ivX5_winds : Cond.instanceMethod xX5_winds.1 ∈ zT ∧ Cond.selects xX5_winds.1.cls xX5_winds.1 xX5_winds.1 ∈ zT := have h : zChk [1536, 1537] [Cond.instanceMethod xX5_winds.1, Cond.selects xX5_winds.1.cls xX5_winds.1 xX5_winds.1] = true := by decide +kernel
  ⟨zChk_ok h _ (.head _), zChk_ok h _ (.tail _ (.head _))⟩
theorem lkL_164 : zLk RL 164 xX5_winds 3 := zLk_of [1535, 76] (by decide +kernel) wcX5_winds pdX5_winds
set_option maxRecDepth 100000 in
theorem wcX5_wipe : Cond.code xX5_wipe.1 xX5_wipe.2.1 xX5_wipe.2.2.1 xX5_wipe.2.2.2.1 ∈ zT := zT_of (i := 1272) rfl rfl
theorem pdX5_wipe : xX5_wipe.1.cls ≠ "java/lang/invoke/MethodHandle" ∧ xX5_wipe.1.cls ≠ "java/lang/invoke/VarHandle" ∧ (parseMethodDescriptor xX5_wipe.1.desc).map (fun d => d.parameters.length) = some 0 := by decide +kernel
theorem ivX5_wipe : Cond.instanceMethod xX5_wipe.1 ∈ zT ∧ Cond.selects xX5_wipe.1.cls xX5_wipe.1 xX5_wipe.1 ∈ zT := have h : zChk [1270, 1271] [Cond.instanceMethod xX5_wipe.1, Cond.selects xX5_wipe.1.cls xX5_wipe.1 xX5_wipe.1] = true := by decide +kernel
  ⟨zChk_ok h _ (.head _), zChk_ok h _ (.tail _ (.head _))⟩
theorem lkL_88 : zLk RL 88 xX5_wipe 0 := zLk_of [1269, 76] (by decide +kernel) wcX5_wipe pdX5_wipe
set_option maxRecDepth 100000 in
theorem wcX5_wise : Cond.code xX5_wise.1 xX5_wise.2.1 xX5_wise.2.2.1 xX5_wise.2.2.2.1 ∈ zT := zT_of (i := 1427) rfl rfl
theorem pdX5_wise : xX5_wise.1.cls ≠ "java/lang/invoke/MethodHandle" ∧ xX5_wise.1.cls ≠ "java/lang/invoke/VarHandle" ∧ (parseMethodDescriptor xX5_wise.1.desc).map (fun d => d.parameters.length) = some 0 := by decide +kernel
theorem ivX5_wise : Cond.instanceMethod xX5_wise.1 ∈ zT ∧ Cond.selects xX5_wise.1.cls xX5_wise.1 xX5_wise.1 ∈ zT := have h : zChk [1425, 1426] [Cond.instanceMethod xX5_wise.1, Cond.selects xX5_wise.1.cls xX5_wise.1 xX5_wise.1] = true := by decide +kernel
  ⟨zChk_ok h _ (.head _), zChk_ok h _ (.tail _ (.head _))⟩
theorem lkL_200 : zLk RL 200 xX5_wise 0 := zLk_of [1424, 76] (by decide +kernel) wcX5_wise pdX5_wise
set_option maxRecDepth 100000 in
theorem wcX5_words : Cond.code xX5_words.1 xX5_words.2.1 xX5_words.2.2.1 xX5_words.2.2.2.1 ∈ zT := zT_of (i := 1382) rfl rfl
theorem pdX5_words : xX5_words.1.cls ≠ "java/lang/invoke/MethodHandle" ∧ xX5_words.1.cls ≠ "java/lang/invoke/VarHandle" ∧ (parseMethodDescriptor xX5_words.1.desc).map (fun d => d.parameters.length) = some 1 := by decide +kernel
theorem ivX5_words : Cond.instanceMethod xX5_words.1 ∈ zT ∧ Cond.selects xX5_words.1.cls xX5_words.1 xX5_words.1 ∈ zT := have h : zChk [1380, 1381] [Cond.instanceMethod xX5_words.1, Cond.selects xX5_words.1.cls xX5_words.1 xX5_words.1] = true := by decide +kernel
  ⟨zChk_ok h _ (.head _), zChk_ok h _ (.tail _ (.head _))⟩
theorem lkL_128 : zLk RL 128 xX5_words 1 := zLk_of [1379, 76] (by decide +kernel) wcX5_words pdX5_words
set_option maxRecDepth 100000 in
theorem wcX5_wordsAt : Cond.code xX5_wordsAt.1 xX5_wordsAt.2.1 xX5_wordsAt.2.2.1 xX5_wordsAt.2.2.2.1 ∈ zT := zT_of (i := 1386) rfl rfl
theorem pdX5_wordsAt : xX5_wordsAt.1.cls ≠ "java/lang/invoke/MethodHandle" ∧ xX5_wordsAt.1.cls ≠ "java/lang/invoke/VarHandle" ∧ (parseMethodDescriptor xX5_wordsAt.1.desc).map (fun d => d.parameters.length) = some 1 := by decide +kernel
theorem ivX5_wordsAt : Cond.instanceMethod xX5_wordsAt.1 ∈ zT ∧ Cond.selects xX5_wordsAt.1.cls xX5_wordsAt.1 xX5_wordsAt.1 ∈ zT := have h : zChk [1385, 54] [Cond.instanceMethod xX5_wordsAt.1, Cond.selects xX5_wordsAt.1.cls xX5_wordsAt.1 xX5_wordsAt.1] = true := by decide +kernel
  ⟨zChk_ok h _ (.head _), zChk_ok h _ (.tail _ (.head _))⟩
theorem lkX5_257 : zLk RX5 257 xX5_wordsAt 1 := zLk_of [1383, 76] (by decide +kernel) wcX5_wordsAt pdX5_wordsAt
set_option maxRecDepth 100000 in
theorem wcX5_worstAt : Cond.code xX5_worstAt.1 xX5_worstAt.2.1 xX5_worstAt.2.2.1 xX5_worstAt.2.2.2.1 ∈ zT := zT_of (i := 1534) rfl rfl
theorem pdX5_worstAt : xX5_worstAt.1.cls ≠ "java/lang/invoke/MethodHandle" ∧ xX5_worstAt.1.cls ≠ "java/lang/invoke/VarHandle" ∧ (parseMethodDescriptor xX5_worstAt.1.desc).map (fun d => d.parameters.length) = some 2 := by decide +kernel
theorem ivX5_worstAt : Cond.instanceMethod xX5_worstAt.1 ∈ zT ∧ Cond.selects xX5_worstAt.1.cls xX5_worstAt.1 xX5_worstAt.1 ∈ zT := have h : zChk [1533, 62] [Cond.instanceMethod xX5_worstAt.1, Cond.selects xX5_worstAt.1.cls xX5_worstAt.1 xX5_worstAt.1] = true := by decide +kernel
  ⟨zChk_ok h _ (.head _), zChk_ok h _ (.tail _ (.head _))⟩
theorem lkX5_304 : zLk RX5 304 xX5_worstAt 2 := zLk_of [1531, 76] (by decide +kernel) wcX5_worstAt pdX5_worstAt
set_option maxRecDepth 100000 in
theorem wcX5_wrong : Cond.code xX5_wrong.1 xX5_wrong.2.1 xX5_wrong.2.2.1 xX5_wrong.2.2.2.1 ∈ zT := zT_of (i := 1322) rfl rfl
theorem pdX5_wrong : xX5_wrong.1.cls ≠ "java/lang/invoke/MethodHandle" ∧ xX5_wrong.1.cls ≠ "java/lang/invoke/VarHandle" ∧ (parseMethodDescriptor xX5_wrong.1.desc).map (fun d => d.parameters.length) = some 0 := by decide +kernel
theorem ivX5_wrong : Cond.instanceMethod xX5_wrong.1 ∈ zT ∧ Cond.selects xX5_wrong.1.cls xX5_wrong.1 xX5_wrong.1 ∈ zT := have h : zChk [1321, 47] [Cond.instanceMethod xX5_wrong.1, Cond.selects xX5_wrong.1.cls xX5_wrong.1 xX5_wrong.1] = true := by decide +kernel
  ⟨zChk_ok h _ (.head _), zChk_ok h _ (.tail _ (.head _))⟩
theorem lkX5_177 : zLk RX5 177 xX5_wrong 0 := zLk_of [1319, 76] (by decide +kernel) wcX5_wrong pdX5_wrong
theorem flX4_10 : zFl RX4 10 4 0 true := ⟨(RX4, TX4, 7), rfl, by decide, zChk_ok (ps := [236]) (ws := [Cond.fieldLink RX4 10 "ReadOutAlongTheWay" "now" "LReadOutAlongTheWay$Lane;"]) (by decide +kernel) _ (.head _), rfl, rfl⟩
theorem flX4_16 : zFl RX4 16 4 1 true := ⟨(RX4, TX4, 7), rfl, by decide, zChk_ok (ps := [237]) (ws := [Cond.fieldLink RX4 16 "ReadOutAlongTheWay" "kept" "LReadOutAlongTheWay$Lane;"]) (by decide +kernel) _ (.head _), rfl, rfl⟩
theorem flX4_22 : zFl RX4 22 4 2 true := ⟨(RX4, TX4, 7), rfl, by decide, zChk_ok (ps := [238]) (ws := [Cond.fieldLink RX4 22 "ReadOutAlongTheWay" "guess" "LReadOutAlongTheWay$Guess;"]) (by decide +kernel) _ (.head _), rfl, rfl⟩
theorem flX4_28 : zFl RX4 28 4 3 true := ⟨(RX4, TX4, 7), rfl, by decide, zChk_ok (ps := [239]) (ws := [Cond.fieldLink RX4 28 "ReadOutAlongTheWay" "shelves" "[LReadOutAlongTheWay$Shelf;"]) (by decide +kernel) _ (.head _), rfl, rfl⟩
theorem flX4_36 : zFl RX4 36 4 4 true := ⟨(RX4, TX4, 7), rfl, by decide, zChk_ok (ps := [240]) (ws := [Cond.fieldLink RX4 36 "ReadOutAlongTheWay" "tape" "LReadOutAlongTheWay$Tape;"]) (by decide +kernel) _ (.head _), rfl, rfl⟩
theorem flX4_40 : zFl RX4 40 4 5 true := ⟨(RX4, TX4, 7), rfl, by decide, zChk_ok (ps := [241]) (ws := [Cond.fieldLink RX4 40 "ReadOutAlongTheWay" "refusals" "[I"]) (by decide +kernel) _ (.head _), rfl, rfl⟩
theorem flX4_44 : zFl RX4 44 4 6 false := ⟨(RX4, TX4, 7), rfl, by decide, zChk_ok (ps := [242]) (ws := [Cond.fieldLink RX4 44 "ReadOutAlongTheWay" "isKept" "Z"]) (by decide +kernel) _ (.head _), rfl, rfl⟩
theorem flX4_81 : zFl RX4 81 2 0 false := ⟨(RX2, TX2, 3), rfl, by decide, zChk_ok (ps := [198]) (ws := [Cond.fieldLink RX4 81 "ReadOutAlongTheWay$Shelf" "held" "I"]) (by decide +kernel) _ (.head _), rfl, rfl⟩
theorem flX4_89 : zFl RX4 89 2 2 true := ⟨(RX2, TX2, 3), rfl, by decide, zChk_ok (ps := [201]) (ws := [Cond.fieldLink RX4 89 "ReadOutAlongTheWay$Shelf" "elements" "[J"]) (by decide +kernel) _ (.head _), rfl, rfl⟩
theorem flX4_116 : zFl RX4 116 1 10 true := ⟨(RX1, TX1, 14), rfl, by decide, zChk_ok (ps := [130]) (ws := [Cond.fieldLink RX4 116 "ReadOutAlongTheWay$Lane" "kind" "[I"]) (by decide +kernel) _ (.head _), rfl, rfl⟩
theorem flX4_122 : zFl RX4 122 1 11 true := ⟨(RX1, TX1, 14), rfl, by decide, zChk_ok (ps := [132]) (ws := [Cond.fieldLink RX4 122 "ReadOutAlongTheWay$Lane" "a" "[I"]) (by decide +kernel) _ (.head _), rfl, rfl⟩
theorem flX4_129 : zFl RX4 129 1 0 false := ⟨(RX1, TX1, 14), rfl, by decide, zChk_ok (ps := [100]) (ws := [Cond.fieldLink RX4 129 "ReadOutAlongTheWay$Lane" "houses" "I"]) (by decide +kernel) _ (.head _), rfl, rfl⟩
theorem flX4_142 : zFl RX4 142 1 12 true := ⟨(RX1, TX1, 14), rfl, by decide, zChk_ok (ps := [136]) (ws := [Cond.fieldLink RX4 142 "ReadOutAlongTheWay$Lane" "to" "[I"]) (by decide +kernel) _ (.head _), rfl, rfl⟩
theorem flX4_145 : zFl RX4 145 1 13 true := ⟨(RX1, TX1, 14), rfl, by decide, zChk_ok (ps := [139]) (ws := [Cond.fieldLink RX4 145 "ReadOutAlongTheWay$Lane" "length" "[I"]) (by decide +kernel) _ (.head _), rfl, rfl⟩
theorem flX4_148 : zFl RX4 148 1 1 true := ⟨(RX1, TX1, 14), rfl, by decide, zChk_ok (ps := [104]) (ws := [Cond.fieldLink RX4 148 "ReadOutAlongTheWay$Lane" "wind" "[I"]) (by decide +kernel) _ (.head _), rfl, rfl⟩
theorem flX4_151 : zFl RX4 151 1 2 true := ⟨(RX1, TX1, 14), rfl, by decide, zChk_ok (ps := [109]) (ws := [Cond.fieldLink RX4 151 "ReadOutAlongTheWay$Lane" "drink" "[I"]) (by decide +kernel) _ (.head _), rfl, rfl⟩
theorem flX4_154 : zFl RX4 154 1 3 true := ⟨(RX1, TX1, 14), rfl, by decide, zChk_ok (ps := [111]) (ws := [Cond.fieldLink RX4 154 "ReadOutAlongTheWay$Lane" "codes" "[I"]) (by decide +kernel) _ (.head _), rfl, rfl⟩
theorem flX4_160 : zFl RX4 160 1 5 false := ⟨(RX1, TX1, 14), rfl, by decide, zChk_ok (ps := [116]) (ws := [Cond.fieldLink RX4 160 "ReadOutAlongTheWay$Lane" "cold" "I"]) (by decide +kernel) _ (.head _), rfl, rfl⟩
theorem flX4_163 : zFl RX4 163 1 6 false := ⟨(RX1, TX1, 14), rfl, by decide, zChk_ok (ps := [120]) (ws := [Cond.fieldLink RX4 163 "ReadOutAlongTheWay$Lane" "back" "Z"]) (by decide +kernel) _ (.head _), rfl, rfl⟩
theorem flX4_188 : zFl RX4 188 0 0 true := ⟨(RX0, TX0, 3), rfl, by decide, zChk_ok (ps := [179]) (ws := [Cond.fieldLink RX4 188 "ReadOutAlongTheWay$Guess" "lane" "LReadOutAlongTheWay$Lane;"]) (by decide +kernel) _ (.head _), rfl, rfl⟩
theorem flX4_195 : zFl RX4 195 1 4 true := ⟨(RX1, TX1, 14), rfl, by decide, zChk_ok (ps := [113]) (ws := [Cond.fieldLink RX4 195 "ReadOutAlongTheWay$Lane" "ears" "[I"]) (by decide +kernel) _ (.head _), rfl, rfl⟩
theorem flX4_272 : zFl RX4 272 1 9 false := ⟨(RX1, TX1, 14), rfl, by decide, zChk_ok (ps := [127]) (ws := [Cond.fieldLink RX4 272 "ReadOutAlongTheWay$Lane" "letters" "I"]) (by decide +kernel) _ (.head _), rfl, rfl⟩
theorem flX4_360 : zFl RX4 360 1 8 false := ⟨(RX1, TX1, 14), rfl, by decide, zChk_ok (ps := [125]) (ws := [Cond.fieldLink RX4 360 "ReadOutAlongTheWay$Lane" "seed" "I"]) (by decide +kernel) _ (.head _), rfl, rfl⟩
theorem flX4_366 : zFl RX4 366 1 7 false := ⟨(RX1, TX1, 14), rfl, by decide, zChk_ok (ps := [123]) (ws := [Cond.fieldLink RX4 366 "ReadOutAlongTheWay$Lane" "days" "I"]) (by decide +kernel) _ (.head _), rfl, rfl⟩
theorem fsX4_375 : Cond.fieldLink RX4 375 "ReadOutAlongTheWay" "UNDER" "[I" ∈ zT := zChk_ok (ps := [356]) (ws := [Cond.fieldLink RX4 375 "ReadOutAlongTheWay" "UNDER" "[I"]) (by decide +kernel) _ (.head _)
theorem flX0_12 : zFl RX0 12 0 0 true := ⟨(RX0, TX0, 3), rfl, by decide, zChk_ok (ps := [178]) (ws := [Cond.fieldLink RX0 12 "ReadOutAlongTheWay$Guess" "lane" "LReadOutAlongTheWay$Lane;"]) (by decide +kernel) _ (.head _), rfl, rfl⟩
theorem flX0_18 : zFl RX0 18 0 1 true := ⟨(RX0, TX0, 3), rfl, by decide, zChk_ok (ps := [180]) (ws := [Cond.fieldLink RX0 18 "ReadOutAlongTheWay$Guess" "marked" "[Z"]) (by decide +kernel) _ (.head _), rfl, rfl⟩
theorem flX0_22 : zFl RX0 22 0 2 true := ⟨(RX0, TX0, 3), rfl, by decide, zChk_ok (ps := [181]) (ws := [Cond.fieldLink RX0 22 "ReadOutAlongTheWay$Guess" "tally" "[I"]) (by decide +kernel) _ (.head _), rfl, rfl⟩
theorem flX0_34 : zFl RX0 34 1 0 false := ⟨(RX1, TX1, 14), rfl, by decide, zChk_ok (ps := [99]) (ws := [Cond.fieldLink RX0 34 "ReadOutAlongTheWay$Lane" "houses" "I"]) (by decide +kernel) _ (.head _), rfl, rfl⟩
theorem flX0_38 : zFl RX0 38 1 12 true := ⟨(RX1, TX1, 14), rfl, by decide, zChk_ok (ps := [135]) (ws := [Cond.fieldLink RX0 38 "ReadOutAlongTheWay$Lane" "to" "[I"]) (by decide +kernel) _ (.head _), rfl, rfl⟩
theorem flX0_53 : zFl RX0 53 1 2 true := ⟨(RX1, TX1, 14), rfl, by decide, zChk_ok (ps := [107]) (ws := [Cond.fieldLink RX0 53 "ReadOutAlongTheWay$Lane" "drink" "[I"]) (by decide +kernel) _ (.head _), rfl, rfl⟩
theorem flX0_56 : zFl RX0 56 1 10 true := ⟨(RX1, TX1, 14), rfl, by decide, zChk_ok (ps := [129]) (ws := [Cond.fieldLink RX0 56 "ReadOutAlongTheWay$Lane" "kind" "[I"]) (by decide +kernel) _ (.head _), rfl, rfl⟩
theorem flX0_59 : zFl RX0 59 1 13 true := ⟨(RX1, TX1, 14), rfl, by decide, zChk_ok (ps := [138]) (ws := [Cond.fieldLink RX0 59 "ReadOutAlongTheWay$Lane" "length" "[I"]) (by decide +kernel) _ (.head _), rfl, rfl⟩
theorem flX0_69 : zFl RX0 69 2 2 true := ⟨(RX2, TX2, 3), rfl, by decide, zChk_ok (ps := [202]) (ws := [Cond.fieldLink RX0 69 "ReadOutAlongTheWay$Shelf" "elements" "[J"]) (by decide +kernel) _ (.head _), rfl, rfl⟩
theorem flX0_91 : zFl RX0 91 1 1 true := ⟨(RX1, TX1, 14), rfl, by decide, zChk_ok (ps := [105]) (ws := [Cond.fieldLink RX0 91 "ReadOutAlongTheWay$Lane" "wind" "[I"]) (by decide +kernel) _ (.head _), rfl, rfl⟩
theorem flX0_108 : zFl RX0 108 1 6 false := ⟨(RX1, TX1, 14), rfl, by decide, zChk_ok (ps := [121]) (ws := [Cond.fieldLink RX0 108 "ReadOutAlongTheWay$Lane" "back" "Z"]) (by decide +kernel) _ (.head _), rfl, rfl⟩
theorem flX0_117 : zFl RX0 117 1 5 false := ⟨(RX1, TX1, 14), rfl, by decide, zChk_ok (ps := [117]) (ws := [Cond.fieldLink RX0 117 "ReadOutAlongTheWay$Lane" "cold" "I"]) (by decide +kernel) _ (.head _), rfl, rfl⟩
theorem flX0_130 : zFl RX0 130 1 11 true := ⟨(RX1, TX1, 14), rfl, by decide, zChk_ok (ps := [133]) (ws := [Cond.fieldLink RX0 130 "ReadOutAlongTheWay$Lane" "a" "[I"]) (by decide +kernel) _ (.head _), rfl, rfl⟩
theorem flX1_9 : zFl RX1 9 1 0 false := ⟨(RX1, TX1, 14), rfl, by decide, zChk_ok (ps := [98]) (ws := [Cond.fieldLink RX1 9 "ReadOutAlongTheWay$Lane" "houses" "I"]) (by decide +kernel) _ (.head _), rfl, rfl⟩
theorem flX1_15 : zFl RX1 15 1 1 true := ⟨(RX1, TX1, 14), rfl, by decide, zChk_ok (ps := [102]) (ws := [Cond.fieldLink RX1 15 "ReadOutAlongTheWay$Lane" "wind" "[I"]) (by decide +kernel) _ (.head _), rfl, rfl⟩
theorem flX1_19 : zFl RX1 19 1 2 true := ⟨(RX1, TX1, 14), rfl, by decide, zChk_ok (ps := [106]) (ws := [Cond.fieldLink RX1 19 "ReadOutAlongTheWay$Lane" "drink" "[I"]) (by decide +kernel) _ (.head _), rfl, rfl⟩
theorem flX1_22 : zFl RX1 22 1 3 true := ⟨(RX1, TX1, 14), rfl, by decide, zChk_ok (ps := [110]) (ws := [Cond.fieldLink RX1 22 "ReadOutAlongTheWay$Lane" "codes" "[I"]) (by decide +kernel) _ (.head _), rfl, rfl⟩
theorem flX1_25 : zFl RX1 25 1 4 true := ⟨(RX1, TX1, 14), rfl, by decide, zChk_ok (ps := [112]) (ws := [Cond.fieldLink RX1 25 "ReadOutAlongTheWay$Lane" "ears" "[I"]) (by decide +kernel) _ (.head _), rfl, rfl⟩
theorem flX1_28 : zFl RX1 28 1 5 false := ⟨(RX1, TX1, 14), rfl, by decide, zChk_ok (ps := [114]) (ws := [Cond.fieldLink RX1 28 "ReadOutAlongTheWay$Lane" "cold" "I"]) (by decide +kernel) _ (.head _), rfl, rfl⟩
theorem flX1_31 : zFl RX1 31 1 6 false := ⟨(RX1, TX1, 14), rfl, by decide, zChk_ok (ps := [118]) (ws := [Cond.fieldLink RX1 31 "ReadOutAlongTheWay$Lane" "back" "Z"]) (by decide +kernel) _ (.head _), rfl, rfl⟩
theorem flX1_35 : zFl RX1 35 1 7 false := ⟨(RX1, TX1, 14), rfl, by decide, zChk_ok (ps := [122]) (ws := [Cond.fieldLink RX1 35 "ReadOutAlongTheWay$Lane" "days" "I"]) (by decide +kernel) _ (.head _), rfl, rfl⟩
theorem flX1_38 : zFl RX1 38 1 8 false := ⟨(RX1, TX1, 14), rfl, by decide, zChk_ok (ps := [124]) (ws := [Cond.fieldLink RX1 38 "ReadOutAlongTheWay$Lane" "seed" "I"]) (by decide +kernel) _ (.head _), rfl, rfl⟩
theorem flX1_41 : zFl RX1 41 1 9 false := ⟨(RX1, TX1, 14), rfl, by decide, zChk_ok (ps := [126]) (ws := [Cond.fieldLink RX1 41 "ReadOutAlongTheWay$Lane" "letters" "I"]) (by decide +kernel) _ (.head _), rfl, rfl⟩
theorem flX1_44 : zFl RX1 44 1 10 true := ⟨(RX1, TX1, 14), rfl, by decide, zChk_ok (ps := [128]) (ws := [Cond.fieldLink RX1 44 "ReadOutAlongTheWay$Lane" "kind" "[I"]) (by decide +kernel) _ (.head _), rfl, rfl⟩
theorem flX1_47 : zFl RX1 47 1 11 true := ⟨(RX1, TX1, 14), rfl, by decide, zChk_ok (ps := [131]) (ws := [Cond.fieldLink RX1 47 "ReadOutAlongTheWay$Lane" "a" "[I"]) (by decide +kernel) _ (.head _), rfl, rfl⟩
theorem flX1_50 : zFl RX1 50 1 12 true := ⟨(RX1, TX1, 14), rfl, by decide, zChk_ok (ps := [134]) (ws := [Cond.fieldLink RX1 50 "ReadOutAlongTheWay$Lane" "to" "[I"]) (by decide +kernel) _ (.head _), rfl, rfl⟩
theorem flX1_53 : zFl RX1 53 1 13 true := ⟨(RX1, TX1, 14), rfl, by decide, zChk_ok (ps := [137]) (ws := [Cond.fieldLink RX1 53 "ReadOutAlongTheWay$Lane" "length" "[I"]) (by decide +kernel) _ (.head _), rfl, rfl⟩
theorem flX2_9 : zFl RX2 9 2 0 false := ⟨(RX2, TX2, 3), rfl, by decide, zChk_ok (ps := [197]) (ws := [Cond.fieldLink RX2 9 "ReadOutAlongTheWay$Shelf" "held" "I"]) (by decide +kernel) _ (.head _), rfl, rfl⟩
theorem flX2_15 : zFl RX2 15 2 1 false := ⟨(RX2, TX2, 3), rfl, by decide, zChk_ok (ps := [199]) (ws := [Cond.fieldLink RX2 15 "ReadOutAlongTheWay$Shelf" "size" "I"]) (by decide +kernel) _ (.head _), rfl, rfl⟩
theorem flX2_18 : zFl RX2 18 2 2 true := ⟨(RX2, TX2, 3), rfl, by decide, zChk_ok (ps := [200]) (ws := [Cond.fieldLink RX2 18 "ReadOutAlongTheWay$Shelf" "elements" "[J"]) (by decide +kernel) _ (.head _), rfl, rfl⟩
theorem flX3_9 : zFl RX3 9 3 0 true := ⟨(RX3, TX3, 6), rfl, by decide, zChk_ok (ps := [217]) (ws := [Cond.fieldLink RX3 9 "ReadOutAlongTheWay$Tape" "bytes" "[I"]) (by decide +kernel) _ (.head _), rfl, rfl⟩
theorem flX3_15 : zFl RX3 15 3 1 false := ⟨(RX3, TX3, 6), rfl, by decide, zChk_ok (ps := [218]) (ws := [Cond.fieldLink RX3 15 "ReadOutAlongTheWay$Tape" "size" "I"]) (by decide +kernel) _ (.head _), rfl, rfl⟩
theorem flX3_19 : zFl RX3 19 3 2 false := ⟨(RX3, TX3, 6), rfl, by decide, zChk_ok (ps := [219]) (ws := [Cond.fieldLink RX3 19 "ReadOutAlongTheWay$Tape" "token" "I"]) (by decide +kernel) _ (.head _), rfl, rfl⟩
theorem flX3_22 : zFl RX3 22 3 3 false := ⟨(RX3, TX3, 6), rfl, by decide, zChk_ok (ps := [220]) (ws := [Cond.fieldLink RX3 22 "ReadOutAlongTheWay$Tape" "start" "I"]) (by decide +kernel) _ (.head _), rfl, rfl⟩
theorem flX3_25 : zFl RX3 25 3 4 false := ⟨(RX3, TX3, 6), rfl, by decide, zChk_ok (ps := [221]) (ws := [Cond.fieldLink RX3 25 "ReadOutAlongTheWay$Tape" "end" "I"]) (by decide +kernel) _ (.head _), rfl, rfl⟩
theorem flX3_28 : zFl RX3 28 3 5 false := ⟨(RX3, TX3, 6), rfl, by decide, zChk_ok (ps := [222]) (ws := [Cond.fieldLink RX3 28 "ReadOutAlongTheWay$Tape" "fault" "I"]) (by decide +kernel) _ (.head _), rfl, rfl⟩
theorem flX3_62 : zFl RX3 62 1 1 true := ⟨(RX1, TX1, 14), rfl, by decide, zChk_ok (ps := [103]) (ws := [Cond.fieldLink RX3 62 "ReadOutAlongTheWay$Lane" "wind" "[I"]) (by decide +kernel) _ (.head _), rfl, rfl⟩
theorem flX3_72 : zFl RX3 72 1 2 true := ⟨(RX1, TX1, 14), rfl, by decide, zChk_ok (ps := [108]) (ws := [Cond.fieldLink RX3 72 "ReadOutAlongTheWay$Lane" "drink" "[I"]) (by decide +kernel) _ (.head _), rfl, rfl⟩
theorem flX3_86 : zFl RX3 86 1 6 false := ⟨(RX1, TX1, 14), rfl, by decide, zChk_ok (ps := [119]) (ws := [Cond.fieldLink RX3 86 "ReadOutAlongTheWay$Lane" "back" "Z"]) (by decide +kernel) _ (.head _), rfl, rfl⟩
theorem flX3_91 : zFl RX3 91 1 0 false := ⟨(RX1, TX1, 14), rfl, by decide, zChk_ok (ps := [101]) (ws := [Cond.fieldLink RX3 91 "ReadOutAlongTheWay$Lane" "houses" "I"]) (by decide +kernel) _ (.head _), rfl, rfl⟩
theorem flX3_106 : zFl RX3 106 1 5 false := ⟨(RX1, TX1, 14), rfl, by decide, zChk_ok (ps := [115]) (ws := [Cond.fieldLink RX3 106 "ReadOutAlongTheWay$Lane" "cold" "I"]) (by decide +kernel) _ (.head _), rfl, rfl⟩
theorem flX5_7 : zFl RX5 7 5 0 true := ⟨(RX5, TX5, 41), rfl, by decide, zChk_ok (ps := [1025]) (ws := [Cond.fieldLink RX5 7 "ReadOutAlongTheWayModel" "shelf" "[I"]) (by decide +kernel) _ (.head _), rfl, rfl⟩
theorem flX5_13 : zFl RX5 13 5 1 true := ⟨(RX5, TX5, 41), rfl, by decide, zChk_ok (ps := [1026]) (ws := [Cond.fieldLink RX5 13 "ReadOutAlongTheWayModel" "rowSort" "[I"]) (by decide +kernel) _ (.head _), rfl, rfl⟩
theorem flX5_16 : zFl RX5 16 5 2 true := ⟨(RX5, TX5, 41), rfl, by decide, zChk_ok (ps := [1027]) (ws := [Cond.fieldLink RX5 16 "ReadOutAlongTheWayModel" "rowSize" "[I"]) (by decide +kernel) _ (.head _), rfl, rfl⟩
theorem flX5_21 : zFl RX5 21 5 3 true := ⟨(RX5, TX5, 41), rfl, by decide, zChk_ok (ps := [1028]) (ws := [Cond.fieldLink RX5 21 "ReadOutAlongTheWayModel" "rows" "[[J"]) (by decide +kernel) _ (.head _), rfl, rfl⟩
theorem flX5_24 : zFl RX5 24 5 4 true := ⟨(RX5, TX5, 41), rfl, by decide, zChk_ok (ps := [1029]) (ws := [Cond.fieldLink RX5 24 "ReadOutAlongTheWayModel" "moved" "[J"]) (by decide +kernel) _ (.head _), rfl, rfl⟩
theorem flX5_28 : zFl RX5 28 5 5 true := ⟨(RX5, TX5, 41), rfl, by decide, zChk_ok (ps := [1030]) (ws := [Cond.fieldLink RX5 28 "ReadOutAlongTheWayModel" "shown" "[I"]) (by decide +kernel) _ (.head _), rfl, rfl⟩
theorem flX5_31 : zFl RX5 31 5 6 true := ⟨(RX5, TX5, 41), rfl, by decide, zChk_ok (ps := [1031]) (ws := [Cond.fieldLink RX5 31 "ReadOutAlongTheWayModel" "tape" "[I"]) (by decide +kernel) _ (.head _), rfl, rfl⟩
theorem flX5_34 : zFl RX5 34 5 8 true := ⟨(RX5, TX5, 41), rfl, by decide, zChk_ok (ps := [1033]) (ws := [Cond.fieldLink RX5 34 "ReadOutAlongTheWayModel" "refused" "[I"]) (by decide +kernel) _ (.head _), rfl, rfl⟩
theorem flX5_37 : zFl RX5 37 5 9 false := ⟨(RX5, TX5, 41), rfl, by decide, zChk_ok (ps := [1034]) (ws := [Cond.fieldLink RX5 37 "ReadOutAlongTheWayModel" "houses" "I"]) (by decide +kernel) _ (.head _), rfl, rfl⟩
theorem flX5_41 : zFl RX5 41 5 10 true := ⟨(RX5, TX5, 41), rfl, by decide, zChk_ok (ps := [1035]) (ws := [Cond.fieldLink RX5 41 "ReadOutAlongTheWayModel" "wind" "[I"]) (by decide +kernel) _ (.head _), rfl, rfl⟩
theorem flX5_44 : zFl RX5 44 5 11 true := ⟨(RX5, TX5, 41), rfl, by decide, zChk_ok (ps := [1036]) (ws := [Cond.fieldLink RX5 44 "ReadOutAlongTheWayModel" "drink" "[I"]) (by decide +kernel) _ (.head _), rfl, rfl⟩
theorem flX5_47 : zFl RX5 47 5 12 true := ⟨(RX5, TX5, 41), rfl, by decide, zChk_ok (ps := [1037]) (ws := [Cond.fieldLink RX5 47 "ReadOutAlongTheWayModel" "codes" "[I"]) (by decide +kernel) _ (.head _), rfl, rfl⟩
theorem flX5_50 : zFl RX5 50 5 13 true := ⟨(RX5, TX5, 41), rfl, by decide, zChk_ok (ps := [1038]) (ws := [Cond.fieldLink RX5 50 "ReadOutAlongTheWayModel" "ears" "[I"]) (by decide +kernel) _ (.head _), rfl, rfl⟩
theorem flX5_53 : zFl RX5 53 5 18 true := ⟨(RX5, TX5, 41), rfl, by decide, zChk_ok (ps := [1043]) (ws := [Cond.fieldLink RX5 53 "ReadOutAlongTheWayModel" "kind" "[I"]) (by decide +kernel) _ (.head _), rfl, rfl⟩
theorem flX5_56 : zFl RX5 56 5 19 true := ⟨(RX5, TX5, 41), rfl, by decide, zChk_ok (ps := [1044]) (ws := [Cond.fieldLink RX5 56 "ReadOutAlongTheWayModel" "by" "[I"]) (by decide +kernel) _ (.head _), rfl, rfl⟩
theorem flX5_59 : zFl RX5 59 5 20 true := ⟨(RX5, TX5, 41), rfl, by decide, zChk_ok (ps := [1045]) (ws := [Cond.fieldLink RX5 59 "ReadOutAlongTheWayModel" "to" "[I"]) (by decide +kernel) _ (.head _), rfl, rfl⟩
theorem flX5_62 : zFl RX5 62 5 21 true := ⟨(RX5, TX5, 41), rfl, by decide, zChk_ok (ps := [1046]) (ws := [Cond.fieldLink RX5 62 "ReadOutAlongTheWayModel" "length" "[I"]) (by decide +kernel) _ (.head _), rfl, rfl⟩
theorem flX5_65 : zFl RX5 65 5 22 false := ⟨(RX5, TX5, 41), rfl, by decide, zChk_ok (ps := [1047]) (ws := [Cond.fieldLink RX5 65 "ReadOutAlongTheWayModel" "seed" "I"]) (by decide +kernel) _ (.head _), rfl, rfl⟩
theorem flX5_68 : zFl RX5 68 5 30 true := ⟨(RX5, TX5, 41), rfl, by decide, zChk_ok (ps := [1055]) (ws := [Cond.fieldLink RX5 68 "ReadOutAlongTheWayModel" "told" "[I"]) (by decide +kernel) _ (.head _), rfl, rfl⟩
theorem flX5_71 : zFl RX5 71 5 34 true := ⟨(RX5, TX5, 41), rfl, by decide, zChk_ok (ps := [1059]) (ws := [Cond.fieldLink RX5 71 "ReadOutAlongTheWayModel" "poured" "[I"]) (by decide +kernel) _ (.head _), rfl, rfl⟩
theorem flX5_74 : zFl RX5 74 5 35 true := ⟨(RX5, TX5, 41), rfl, by decide, zChk_ok (ps := [1060]) (ws := [Cond.fieldLink RX5 74 "ReadOutAlongTheWayModel" "may" "[Z"]) (by decide +kernel) _ (.head _), rfl, rfl⟩
theorem flX5_78 : zFl RX5 78 5 39 true := ⟨(RX5, TX5, 41), rfl, by decide, zChk_ok (ps := [1064]) (ws := [Cond.fieldLink RX5 78 "ReadOutAlongTheWayModel" "heardBy" "[I"]) (by decide +kernel) _ (.head _), rfl, rfl⟩
theorem flX5_85 : zFl RX5 85 5 17 false := ⟨(RX5, TX5, 41), rfl, by decide, zChk_ok (ps := [1042]) (ws := [Cond.fieldLink RX5 85 "ReadOutAlongTheWayModel" "letters" "I"]) (by decide +kernel) _ (.head _), rfl, rfl⟩
theorem flX5_135 : zFl RX5 135 5 14 false := ⟨(RX5, TX5, 41), rfl, by decide, zChk_ok (ps := [1039]) (ws := [Cond.fieldLink RX5 135 "ReadOutAlongTheWayModel" "cold" "I"]) (by decide +kernel) _ (.head _), rfl, rfl⟩
theorem flX5_138 : zFl RX5 138 5 15 false := ⟨(RX5, TX5, 41), rfl, by decide, zChk_ok (ps := [1040]) (ws := [Cond.fieldLink RX5 138 "ReadOutAlongTheWayModel" "backward" "Z"]) (by decide +kernel) _ (.head _), rfl, rfl⟩
theorem flX5_144 : zFl RX5 144 5 7 false := ⟨(RX5, TX5, 41), rfl, by decide, zChk_ok (ps := [1032]) (ws := [Cond.fieldLink RX5 144 "ReadOutAlongTheWayModel" "tapeSize" "I"]) (by decide +kernel) _ (.head _), rfl, rfl⟩
theorem flX5_147 : zFl RX5 147 5 25 false := ⟨(RX5, TX5, 41), rfl, by decide, zChk_ok (ps := [1050]) (ws := [Cond.fieldLink RX5 147 "ReadOutAlongTheWayModel" "at" "I"]) (by decide +kernel) _ (.head _), rfl, rfl⟩
theorem flX5_150 : zFl RX5 150 5 27 false := ⟨(RX5, TX5, 41), rfl, by decide, zChk_ok (ps := [1052]) (ws := [Cond.fieldLink RX5 150 "ReadOutAlongTheWayModel" "from" "I"]) (by decide +kernel) _ (.head _), rfl, rfl⟩
theorem flX5_153 : zFl RX5 153 5 28 false := ⟨(RX5, TX5, 41), rfl, by decide, zChk_ok (ps := [1053]) (ws := [Cond.fieldLink RX5 153 "ReadOutAlongTheWayModel" "figures" "I"]) (by decide +kernel) _ (.head _), rfl, rfl⟩
theorem flX5_156 : zFl RX5 156 5 26 false := ⟨(RX5, TX5, 41), rfl, by decide, zChk_ok (ps := [1051]) (ws := [Cond.fieldLink RX5 156 "ReadOutAlongTheWayModel" "token" "I"]) (by decide +kernel) _ (.head _), rfl, rfl⟩
theorem flX5_165 : zFl RX5 165 5 29 false := ⟨(RX5, TX5, 41), rfl, by decide, zChk_ok (ps := [1054]) (ws := [Cond.fieldLink RX5 165 "ReadOutAlongTheWayModel" "fault" "I"]) (by decide +kernel) _ (.head _), rfl, rfl⟩
theorem flX5_213 : zFl RX5 213 5 31 false := ⟨(RX5, TX5, 41), rfl, by decide, zChk_ok (ps := [1056]) (ws := [Cond.fieldLink RX5 213 "ReadOutAlongTheWayModel" "statements" "I"]) (by decide +kernel) _ (.head _), rfl, rfl⟩
theorem flX5_219 : zFl RX5 219 5 24 false := ⟨(RX5, TX5, 41), rfl, by decide, zChk_ok (ps := [1049]) (ws := [Cond.fieldLink RX5 219 "ReadOutAlongTheWayModel" "tried" "LReadOutAlongTheWayModel;"]) (by decide +kernel) _ (.head _), rfl, rfl⟩
theorem flX5_271 : zFl RX5 271 5 32 false := ⟨(RX5, TX5, 41), rfl, by decide, zChk_ok (ps := [1057]) (ws := [Cond.fieldLink RX5 271 "ReadOutAlongTheWayModel" "hushMore" "I"]) (by decide +kernel) _ (.head _), rfl, rfl⟩
theorem flX5_274 : zFl RX5 274 5 33 false := ⟨(RX5, TX5, 41), rfl, by decide, zChk_ok (ps := [1058]) (ws := [Cond.fieldLink RX5 274 "ReadOutAlongTheWayModel" "hushWhere" "I"]) (by decide +kernel) _ (.head _), rfl, rfl⟩
theorem flX5_284 : zFl RX5 284 5 36 false := ⟨(RX5, TX5, 41), rfl, by decide, zChk_ok (ps := [1061]) (ws := [Cond.fieldLink RX5 284 "ReadOutAlongTheWayModel" "mayBe" "I"]) (by decide +kernel) _ (.head _), rfl, rfl⟩
theorem flX5_287 : zFl RX5 287 5 37 false := ⟨(RX5, TX5, 41), rfl, by decide, zChk_ok (ps := [1062]) (ws := [Cond.fieldLink RX5 287 "ReadOutAlongTheWayModel" "least" "I"]) (by decide +kernel) _ (.head _), rfl, rfl⟩
theorem flX5_290 : zFl RX5 290 5 38 false := ⟨(RX5, TX5, 41), rfl, by decide, zChk_ok (ps := [1063]) (ws := [Cond.fieldLink RX5 290 "ReadOutAlongTheWayModel" "greatest" "I"]) (by decide +kernel) _ (.head _), rfl, rfl⟩
theorem flX5_307 : zFl RX5 307 5 40 false := ⟨(RX5, TX5, 41), rfl, by decide, zChk_ok (ps := [1065]) (ws := [Cond.fieldLink RX5 307 "ReadOutAlongTheWayModel" "answered" "I"]) (by decide +kernel) _ (.head _), rfl, rfl⟩
theorem flX5_322 : zFl RX5 322 5 16 false := ⟨(RX5, TX5, 41), rfl, by decide, zChk_ok (ps := [1041]) (ws := [Cond.fieldLink RX5 322 "ReadOutAlongTheWayModel" "gone" "I"]) (by decide +kernel) _ (.head _), rfl, rfl⟩
theorem flX5_344 : zFl RX5 344 5 23 false := ⟨(RX5, TX5, 41), rfl, by decide, zChk_ok (ps := [1048]) (ws := [Cond.fieldLink RX5 344 "ReadOutAlongTheWayModel" "kept" "LReadOutAlongTheWayModel;"]) (by decide +kernel) _ (.head _), rfl, rfl⟩
theorem fsJ0_9 : Cond.fieldLink RJ0 9 "java/lang/String" "value" "[B" ∈ zT := zChk_ok (ps := [1616]) (ws := [Cond.fieldLink RJ0 9 "java/lang/String" "value" "[B"]) (by decide +kernel) _ (.head _)
theorem fsJ0_15 : Cond.fieldLink RJ0 15 "java/lang/String" "coder" "B" ∈ zT := zChk_ok (ps := [1617]) (ws := [Cond.fieldLink RJ0 15 "java/lang/String" "coder" "B"]) (by decide +kernel) _ (.head _)
theorem fsJ0_38 : Cond.fieldLink RJ0 38 "java/lang/String" "COMPACT_STRINGS" "Z" ∈ zT := zChk_ok (ps := [507]) (ws := [Cond.fieldLink RJ0 38 "java/lang/String" "COMPACT_STRINGS" "Z"]) (by decide +kernel) _ (.head _)
theorem fsJ0_1053 : Cond.fieldLink RJ0 1053 "jdk/internal/util/Preconditions" "SIOOBE_FORMATTER" "Ljava/util/function/BiFunction;" ∈ zT := zChk_ok (ps := [523]) (ws := [Cond.fieldLink RJ0 1053 "jdk/internal/util/Preconditions" "SIOOBE_FORMATTER" "Ljava/util/function/BiFunction;"]) (by decide +kernel) _ (.head _)
theorem fsJ2_44 : Cond.fieldLink RJ2 44 "java/lang/StringUTF16" "$assertionsDisabled" "Z" ∈ zT := zChk_ok (ps := [541]) (ws := [Cond.fieldLink RJ2 44 "java/lang/StringUTF16" "$assertionsDisabled" "Z"]) (by decide +kernel) _ (.head _)
theorem fsJ2_59 : Cond.fieldLink RJ2 59 "java/lang/StringUTF16" "HI_BYTE_SHIFT" "I" ∈ zT := zChk_ok (ps := [543]) (ws := [Cond.fieldLink RJ2 59 "java/lang/StringUTF16" "HI_BYTE_SHIFT" "I"]) (by decide +kernel) _ (.head _)
theorem fsJ2_63 : Cond.fieldLink RJ2 63 "java/lang/StringUTF16" "LO_BYTE_SHIFT" "I" ∈ zT := zChk_ok (ps := [545]) (ws := [Cond.fieldLink RJ2 63 "java/lang/StringUTF16" "LO_BYTE_SHIFT" "I"]) (by decide +kernel) _ (.head _)
theorem kcX4_296 : Cond.constant RX4 296 100000 ∈ zT := zChk_ok (ps := [815]) (ws := [Cond.constant RX4 296 100000]) (by decide +kernel) _ (.head _)
theorem kcX1_119 : Cond.constant RX1 119 1103515245 ∈ zT := zChk_ok (ps := [987]) (ws := [Cond.constant RX1 119 1103515245]) (by decide +kernel) _ (.head _)
theorem kcX5_318 : Cond.constant RX5 318 100000 ∈ zT := zChk_ok (ps := [1559]) (ws := [Cond.constant RX5 318 100000]) (by decide +kernel) _ (.head _)
theorem kcX5_334 : Cond.constant RX5 334 1103515245 ∈ zT := zChk_ok (ps := [1597]) (ws := [Cond.constant RX5 334 1103515245]) (by decide +kernel) _ (.head _)
theorem kcJ6_265 : Cond.constant RJ6 265 1431655765 ∈ zT := zChk_ok (ps := [836]) (ws := [Cond.constant RJ6 265 1431655765]) (by decide +kernel) _ (.head _)
theorem kcJ6_266 : Cond.constant RJ6 266 858993459 ∈ zT := zChk_ok (ps := [837]) (ws := [Cond.constant RJ6 266 858993459]) (by decide +kernel) _ (.head _)
theorem kcJ6_267 : Cond.constant RJ6 267 252645135 ∈ zT := zChk_ok (ps := [838]) (ws := [Cond.constant RJ6 267 252645135]) (by decide +kernel) _ (.head _)
theorem klL_18 : Cond.constantLong RL 18 4294967295 ∈ zT := zChk_ok (ps := [1615]) (ws := [Cond.constantLong RL 18 4294967295]) (by decide +kernel) _ (.head _)
theorem klX5_88 : Cond.constantLong RX5 88 7 ∈ zT := zChk_ok (ps := [1153]) (ws := [Cond.constantLong RX5 88 7]) (by decide +kernel) _ (.head _)
theorem klX5_90 : Cond.constantLong RX5 90 4 ∈ zT := zChk_ok (ps := [1157]) (ws := [Cond.constantLong RX5 90 4]) (by decide +kernel) _ (.head _)
theorem klX5_92 : Cond.constantLong RX5 92 40 ∈ zT := zChk_ok (ps := [1158]) (ws := [Cond.constantLong RX5 92 40]) (by decide +kernel) _ (.head _)
theorem klX5_109 : Cond.constantLong RX5 109 5 ∈ zT := zChk_ok (ps := [1198]) (ws := [Cond.constantLong RX5 109 5]) (by decide +kernel) _ (.head _)
theorem klX5_119 : Cond.constantLong RX5 119 12 ∈ zT := zChk_ok (ps := [1226]) (ws := [Cond.constantLong RX5 119 12]) (by decide +kernel) _ (.head _)
theorem klX5_121 : Cond.constantLong RX5 121 9 ∈ zT := zChk_ok (ps := [1231]) (ws := [Cond.constantLong RX5 121 9]) (by decide +kernel) _ (.head _)
theorem klX5_142 : Cond.constantLong RX5 142 255 ∈ zT := zChk_ok (ps := [1268]) (ws := [Cond.constantLong RX5 142 255]) (by decide +kernel) _ (.head _)
theorem klX5_231 : Cond.constantLong RX5 231 3 ∈ zT := zChk_ok (ps := [1342]) (ws := [Cond.constantLong RX5 231 3]) (by decide +kernel) _ (.head _)
theorem klX5_260 : Cond.constantLong RX5 260 2 ∈ zT := zChk_ok (ps := [1423]) (ws := [Cond.constantLong RX5 260 2]) (by decide +kernel) _ (.head _)
theorem klX5_335 : Cond.constantLong RX5 335 60 ∈ zT := zChk_ok (ps := [1592]) (ws := [Cond.constantLong RX5 335 60]) (by decide +kernel) _ (.head _)
theorem klX5_347 : Cond.constantLong RX5 347 16 ∈ zT := zChk_ok (ps := [1614]) (ws := [Cond.constantLong RX5 347 16]) (by decide +kernel) _ (.head _)
