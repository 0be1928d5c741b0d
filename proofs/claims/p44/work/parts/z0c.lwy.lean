/-! ALL WORDS OF THE LAW -/
theorem wsL_law_in0 : ∀ w ∈ wsL_law0, w ∈ lw_tbl := by
  unfold wsL_law0
  exact List.forall_mem_append.mpr ⟨List.forall_mem_append.mpr ⟨List.forall_mem_append.mpr ⟨List.forall_mem_append.mpr ⟨List.forall_mem_append.mpr ⟨List.forall_mem_append.mpr ⟨List.forall_mem_append.mpr ⟨List.forall_mem_append.mpr ⟨List.forall_mem_append.mpr ⟨List.forall_mem_append.mpr ⟨List.forall_mem_append.mpr ⟨List.forall_mem_append.mpr ⟨List.forall_mem_append.mpr ⟨List.forall_mem_append.mpr ⟨wl_all, wx_110⟩, wx_120⟩, wx_60⟩, wx_90⟩, wx_20⟩, wx_30⟩, wx_70⟩, wx_100⟩, wx_50⟩, wx_80⟩, wx_40⟩, wx_10⟩, wx_00⟩, fun w h => absurd h List.not_mem_nil⟩
set_option maxRecDepth 100000 in
theorem wsL_law_x0 : ∀ w ∈ (vy_at RX11 111 "java/lang/IllegalArgumentException" 7 prog_19_method_2_code ["java/lang/RuntimeException", "java/lang/Exception"]).filter goodWord, w ∈ lw_tbl := by decide +kernel
set_option maxRecDepth 100000 in
theorem wsL_law_x1 : ∀ w ∈ (vy_at RX11 122 "java/lang/IllegalStateException" 7 prog_20_method_2_code ["java/lang/RuntimeException", "java/lang/Exception"]).filter goodWord, w ∈ lw_tbl := by decide +kernel
set_option maxRecDepth 100000 in
theorem wsL_law_x2 : ∀ w ∈ (vy_at RX11 176 "java/lang/IndexOutOfBoundsException" 7 prog_21_method_2_code ["java/lang/RuntimeException", "java/lang/Exception"]).filter goodWord, w ∈ lw_tbl := by decide +kernel
set_option maxRecDepth 100000 in
theorem wsL_law_x3 : ∀ w ∈ (vy_at RX11 241 "java/util/NoSuchElementException" 13 prog_29_method_4_code ["java/lang/RuntimeException", "java/lang/Exception"]).filter goodWord, w ∈ lw_tbl := by decide +kernel
theorem wsL_law_in : ∀ w ∈ wsL_law, w ∈ lw_tbl := by
  unfold wsL_law
  exact List.forall_mem_append.mpr ⟨List.forall_mem_append.mpr ⟨List.forall_mem_append.mpr ⟨List.forall_mem_append.mpr ⟨wsL_law_in0, wsL_law_x0⟩, wsL_law_x1⟩, wsL_law_x2⟩, wsL_law_x3⟩
