/-! THE OTHER WORDS OF THE START -/
set_option maxRecDepth 100000 in
theorem sx_nest : ∀ w ∈ ab_nest, w ∈ lw_tbl := List.forall_mem_cons.mpr ⟨tb_1 (List.mem_of_getElem? (i := 36) rfl), List.forall_mem_cons.mpr ⟨tb_1 (List.mem_of_getElem? (i := 167) rfl), List.forall_mem_cons.mpr ⟨tb_2 (List.mem_of_getElem? (i := 33) rfl), List.forall_mem_cons.mpr ⟨tb_2 (List.mem_of_getElem? (i := 149) rfl), List.forall_mem_cons.mpr ⟨tb_2 (List.mem_of_getElem? (i := 190) rfl), List.forall_mem_cons.mpr ⟨tb_7 (List.mem_of_getElem? (i := 52) rfl), List.forall_mem_cons.mpr ⟨tb_7 (List.mem_of_getElem? (i := 57) rfl), List.forall_mem_cons.mpr ⟨tb_7 (List.mem_of_getElem? (i := 60) rfl), List.forall_mem_cons.mpr ⟨tb_7 (List.mem_of_getElem? (i := 64) rfl), List.forall_mem_cons.mpr ⟨tb_7 (List.mem_of_getElem? (i := 66) rfl), List.forall_mem_cons.mpr ⟨tb_7 (List.mem_of_getElem? (i := 69) rfl), List.forall_mem_cons.mpr ⟨tb_7 (List.mem_of_getElem? (i := 71) rfl), List.forall_mem_cons.mpr ⟨tb_7 (List.mem_of_getElem? (i := 73) rfl), List.forall_mem_cons.mpr ⟨tb_7 (List.mem_of_getElem? (i := 215) rfl), List.forall_mem_cons.mpr ⟨tb_7 (List.mem_of_getElem? (i := 218) rfl), List.forall_mem_cons.mpr ⟨tb_7 (List.mem_of_getElem? (i := 222) rfl), List.forall_mem_cons.mpr ⟨tb_7 (List.mem_of_getElem? (i := 226) rfl), List.forall_mem_cons.mpr ⟨tb_8 (List.mem_of_getElem? (i := 3) rfl), List.forall_mem_cons.mpr ⟨tb_8 (List.mem_of_getElem? (i := 7) rfl), List.forall_mem_cons.mpr ⟨tb_8 (List.mem_of_getElem? (i := 11) rfl), List.forall_mem_cons.mpr ⟨tb_8 (List.mem_of_getElem? (i := 20) rfl), List.forall_mem_cons.mpr ⟨tb_8 (List.mem_of_getElem? (i := 22) rfl), List.forall_mem_cons.mpr ⟨tb_8 (List.mem_of_getElem? (i := 27) rfl), List.forall_mem_cons.mpr ⟨tb_8 (List.mem_of_getElem? (i := 30) rfl), List.forall_mem_cons.mpr ⟨tb_8 (List.mem_of_getElem? (i := 32) rfl), List.forall_mem_cons.mpr ⟨tb_8 (List.mem_of_getElem? (i := 34) rfl), List.forall_mem_cons.mpr ⟨tb_8 (List.mem_of_getElem? (i := 36) rfl), List.forall_mem_cons.mpr ⟨tb_8 (List.mem_of_getElem? (i := 78) rfl), List.forall_mem_cons.mpr ⟨tb_8 (List.mem_of_getElem? (i := 79) rfl), List.forall_mem_cons.mpr ⟨tb_8 (List.mem_of_getElem? (i := 89) rfl), List.forall_mem_cons.mpr ⟨tb_8 (List.mem_of_getElem? (i := 127) rfl), List.forall_mem_cons.mpr ⟨tb_8 (List.mem_of_getElem? (i := 131) rfl), List.forall_mem_cons.mpr ⟨tb_8 (List.mem_of_getElem? (i := 136) rfl), List.forall_mem_cons.mpr ⟨tb_9 (List.mem_of_getElem? (i := 37) rfl), List.forall_mem_cons.mpr ⟨tb_9 (List.mem_of_getElem? (i := 39) rfl), List.forall_mem_cons.mpr ⟨tb_9 (List.mem_of_getElem? (i := 40) rfl), List.forall_mem_cons.mpr ⟨tb_9 (List.mem_of_getElem? (i := 88) rfl), List.forall_mem_cons.mpr ⟨tb_9 (List.mem_of_getElem? (i := 96) rfl), (fun w h => absurd h List.not_mem_nil)⟩⟩⟩⟩⟩⟩⟩⟩⟩⟩⟩⟩⟩⟩⟩⟩⟩⟩⟩⟩⟩⟩⟩⟩⟩⟩⟩⟩⟩⟩⟩⟩⟩⟩⟩⟩⟩⟩
set_option maxRecDepth 100000 in
theorem sx_str : ∀ q ∈ ab_strs, Cond.stringRef RX11 q.1 q.2 ∈ lw_tbl := List.forall_mem_cons.mpr ⟨tb_5 (List.mem_of_getElem? (i := 40) rfl), List.forall_mem_cons.mpr ⟨tb_5 (List.mem_of_getElem? (i := 79) rfl), List.forall_mem_cons.mpr ⟨tb_5 (List.mem_of_getElem? (i := 107) rfl), List.forall_mem_cons.mpr ⟨tb_5 (List.mem_of_getElem? (i := 114) rfl), List.forall_mem_cons.mpr ⟨tb_5 (List.mem_of_getElem? (i := 115) rfl), List.forall_mem_cons.mpr ⟨tb_5 (List.mem_of_getElem? (i := 123) rfl), List.forall_mem_cons.mpr ⟨tb_5 (List.mem_of_getElem? (i := 131) rfl), List.forall_mem_cons.mpr ⟨tb_5 (List.mem_of_getElem? (i := 132) rfl), List.forall_mem_cons.mpr ⟨tb_5 (List.mem_of_getElem? (i := 140) rfl), List.forall_mem_cons.mpr ⟨tb_5 (List.mem_of_getElem? (i := 145) rfl), List.forall_mem_cons.mpr ⟨tb_5 (List.mem_of_getElem? (i := 146) rfl), List.forall_mem_cons.mpr ⟨tb_5 (List.mem_of_getElem? (i := 147) rfl), List.forall_mem_cons.mpr ⟨tb_5 (List.mem_of_getElem? (i := 159) rfl), List.forall_mem_cons.mpr ⟨tb_5 (List.mem_of_getElem? (i := 160) rfl), List.forall_mem_cons.mpr ⟨tb_5 (List.mem_of_getElem? (i := 187) rfl), List.forall_mem_cons.mpr ⟨tb_5 (List.mem_of_getElem? (i := 206) rfl), List.forall_mem_cons.mpr ⟨tb_5 (List.mem_of_getElem? (i := 228) rfl), List.forall_mem_cons.mpr ⟨tb_6 (List.mem_of_getElem? (i := 14) rfl), List.forall_mem_cons.mpr ⟨tb_6 (List.mem_of_getElem? (i := 59) rfl), List.forall_mem_cons.mpr ⟨tb_6 (List.mem_of_getElem? (i := 64) rfl), List.forall_mem_cons.mpr ⟨tb_6 (List.mem_of_getElem? (i := 72) rfl), List.forall_mem_cons.mpr ⟨tb_6 (List.mem_of_getElem? (i := 73) rfl), List.forall_mem_cons.mpr ⟨tb_6 (List.mem_of_getElem? (i := 94) rfl), List.forall_mem_cons.mpr ⟨tb_6 (List.mem_of_getElem? (i := 144) rfl), List.forall_mem_cons.mpr ⟨tb_6 (List.mem_of_getElem? (i := 166) rfl), List.forall_mem_cons.mpr ⟨tb_6 (List.mem_of_getElem? (i := 198) rfl), List.forall_mem_cons.mpr ⟨tb_6 (List.mem_of_getElem? (i := 235) rfl), List.forall_mem_cons.mpr ⟨tb_7 (List.mem_of_getElem? (i := 17) rfl), List.forall_mem_cons.mpr ⟨tb_7 (List.mem_of_getElem? (i := 25) rfl), (fun w h => absurd h List.not_mem_nil)⟩⟩⟩⟩⟩⟩⟩⟩⟩⟩⟩⟩⟩⟩⟩⟩⟩⟩⟩⟩⟩⟩⟩⟩⟩⟩⟩⟩⟩
set_option maxRecDepth 100000 in
theorem sx_exa : ∀ q ∈ ab_strs, Cond.exactly (.string RX11 q.1) "java/lang/String" ∈ flatC (Jvm.Cond.and given_1 narrow_1) := List.forall_mem_cons.mpr ⟨(List.mem_of_getElem? (i := 84) (by decide +kernel)), List.forall_mem_cons.mpr ⟨(List.mem_of_getElem? (i := 127) (by decide +kernel)), List.forall_mem_cons.mpr ⟨(List.mem_of_getElem? (i := 150) (by decide +kernel)), List.forall_mem_cons.mpr ⟨(List.mem_of_getElem? (i := 166) (by decide +kernel)), List.forall_mem_cons.mpr ⟨(List.mem_of_getElem? (i := 196) (by decide +kernel)), List.forall_mem_cons.mpr ⟨(List.mem_of_getElem? (i := 219) (by decide +kernel)), List.forall_mem_cons.mpr ⟨(List.mem_of_getElem? (i := 243) (by decide +kernel)), List.forall_mem_cons.mpr ⟨(List.mem_of_getElem? (i := 271) (by decide +kernel)), List.forall_mem_cons.mpr ⟨(List.mem_of_getElem? (i := 292) (by decide +kernel)), List.forall_mem_cons.mpr ⟨(List.mem_of_getElem? (i := 309) (by decide +kernel)), List.forall_mem_cons.mpr ⟨(List.mem_of_getElem? (i := 328) (by decide +kernel)), List.forall_mem_cons.mpr ⟨(List.mem_of_getElem? (i := 357) (by decide +kernel)), List.forall_mem_cons.mpr ⟨(List.mem_of_getElem? (i := 380) (by decide +kernel)), List.forall_mem_cons.mpr ⟨(List.mem_of_getElem? (i := 396) (by decide +kernel)), List.forall_mem_cons.mpr ⟨(List.mem_of_getElem? (i := 418) (by decide +kernel)), List.forall_mem_cons.mpr ⟨(List.mem_of_getElem? (i := 436) (by decide +kernel)), List.forall_mem_cons.mpr ⟨(List.mem_of_getElem? (i := 461) (by decide +kernel)), List.forall_mem_cons.mpr ⟨(List.mem_of_getElem? (i := 486) (by decide +kernel)), List.forall_mem_cons.mpr ⟨(List.mem_of_getElem? (i := 502) (by decide +kernel)), List.forall_mem_cons.mpr ⟨(List.mem_of_getElem? (i := 531) (by decide +kernel)), List.forall_mem_cons.mpr ⟨(List.mem_of_getElem? (i := 579) (by decide +kernel)), List.forall_mem_cons.mpr ⟨(List.mem_of_getElem? (i := 615) (by decide +kernel)), List.forall_mem_cons.mpr ⟨(List.mem_of_getElem? (i := 649) (by decide +kernel)), List.forall_mem_cons.mpr ⟨(List.mem_of_getElem? (i := 673) (by decide +kernel)), List.forall_mem_cons.mpr ⟨(List.mem_of_getElem? (i := 695) (by decide +kernel)), List.forall_mem_cons.mpr ⟨(List.mem_of_getElem? (i := 724) (by decide +kernel)), List.forall_mem_cons.mpr ⟨(List.mem_of_getElem? (i := 739) (by decide +kernel)), List.forall_mem_cons.mpr ⟨(List.mem_of_getElem? (i := 763) (by decide +kernel)), List.forall_mem_cons.mpr ⟨(List.mem_of_getElem? (i := 801) (by decide +kernel)), (fun w h => absurd h List.not_mem_nil)⟩⟩⟩⟩⟩⟩⟩⟩⟩⟩⟩⟩⟩⟩⟩⟩⟩⟩⟩⟩⟩⟩⟩⟩⟩⟩⟩⟩⟩
set_option maxRecDepth 100000 in
theorem sx_nc : ∀ i, i < 4 → ∀ j, j < 4 → i ≠ j → Cond.not (.castable (ab_exn i) (ab_exn j)) ∈ flatC (Jvm.Cond.and given_1 narrow_1) := by
  intro i hi j hj h
  match i, j, h with
  | 0, 0, h => exact absurd rfl h
  | 0, 1, _ => exact (List.mem_of_getElem? (i := 46) (by decide +kernel))
  | 0, 2, _ => exact (List.mem_of_getElem? (i := 63) (by decide +kernel))
  | 0, 3, _ => exact (List.mem_of_getElem? (i := 80) (by decide +kernel))
  | 1, 0, _ => exact (List.mem_of_getElem? (i := 29) (by decide +kernel))
  | 1, 1, h => exact absurd rfl h
  | 1, 2, _ => exact (List.mem_of_getElem? (i := 64) (by decide +kernel))
  | 1, 3, _ => exact (List.mem_of_getElem? (i := 81) (by decide +kernel))
  | 2, 0, _ => exact (List.mem_of_getElem? (i := 30) (by decide +kernel))
  | 2, 1, _ => exact (List.mem_of_getElem? (i := 47) (by decide +kernel))
  | 2, 2, h => exact absurd rfl h
  | 2, 3, _ => exact (List.mem_of_getElem? (i := 82) (by decide +kernel))
  | 3, 0, _ => exact (List.mem_of_getElem? (i := 32) (by decide +kernel))
  | 3, 1, _ => exact (List.mem_of_getElem? (i := 49) (by decide +kernel))
  | 3, 2, _ => exact (List.mem_of_getElem? (i := 66) (by decide +kernel))
  | 3, 3, h => exact absurd rfl h
  | i + 4, _, _ => exact absurd hi (by omega)
  | _, j + 4, _ => exact absurd hj (by omega)
theorem sx_ao : Cond.arrayOver (.array .int) ∈ lw_tbl := tb_7 (List.mem_of_getElem? (i := 217) rfl)
theorem sx_l1 : Cond.laysStatic "Roomandhour$Search" "POWERS" "[I" ∈ lw_tbl ∧ Cond.initialized "Roomandhour$Search" ∈ lw_tbl ∧ Cond.laysStatic Bundle.tN "UNASSIGNED_STACK" Bundle.steD ∈ lw_tbl ∧ Cond.laysStatic Bundle.tN "SUPPRESSED_SENTINEL" Bundle.listD ∈ lw_tbl ∧ Cond.initialized Bundle.tN ∈ lw_tbl := ⟨tb_3 (List.mem_of_getElem? (i := 180) rfl), tb_1 (List.mem_of_getElem? (i := 6) rfl), tb_5 (List.mem_of_getElem? (i := 25) rfl), tb_5 (List.mem_of_getElem? (i := 27) rfl), tb_1 (List.mem_of_getElem? (i := 14) rfl)⟩
theorem sx_l2 : Cond.isRef (.static Bundle.tN "UNASSIGNED_STACK" Bundle.steD) ∈ flatC (Jvm.Cond.and given_1 narrow_1) ∧ Cond.isRef (.static Bundle.tN "SUPPRESSED_SENTINEL" Bundle.listD) ∈ flatC (Jvm.Cond.and given_1 narrow_1) ∧ Cond.arrayOf (.static "Roomandhour$Search" "POWERS" "[I") .int ∈ flatC (Jvm.Cond.and given_1 narrow_1) ∧ Cond.eq (.length (.static "Roomandhour$Search" "POWERS" "[I")) (.int 7) ∈ flatC (Jvm.Cond.and given_1 narrow_1) := ⟨(List.mem_of_getElem? (i := 14) (by decide +kernel)), (List.mem_of_getElem? (i := 15) (by decide +kernel)), (List.mem_of_getElem? (i := 5) (by decide +kernel)), (List.mem_of_getElem? (i := 6) (by decide +kernel))⟩
theorem sx_pw : ∀ j, j < 7 → Cond.eq (.elem (.static "Roomandhour$Search" "POWERS" "[I") (.int (Int32.ofNat j))) (.int (ab_pow.getD j 0)) ∈ flatC (Jvm.Cond.and given_1 narrow_1) := by
  intro j hj
  match j, hj with
  | 0, _ => exact (List.mem_of_getElem? (i := 7) (by decide +kernel))
  | 1, _ => exact (List.mem_of_getElem? (i := 8) (by decide +kernel))
  | 2, _ => exact (List.mem_of_getElem? (i := 9) (by decide +kernel))
  | 3, _ => exact (List.mem_of_getElem? (i := 10) (by decide +kernel))
  | 4, _ => exact (List.mem_of_getElem? (i := 11) (by decide +kernel))
  | 5, _ => exact (List.mem_of_getElem? (i := 12) (by decide +kernel))
  | 6, _ => exact (List.mem_of_getElem? (i := 13) (by decide +kernel))
  | j + 7, h => exact absurd h (by omega)
set_option maxRecDepth 100000 in
theorem sx_cls : ∀ k, k < 14 → Cond.instantiable ((ab_cl.getD k ("", TX0, 0)).1) ((ab_cl.getD k ("", TX0, 0)).2.2) ∈ lw_tbl := by
  intro k hk
  match k, hk with
  | 0, _ => exact tb_2 (List.mem_of_getElem? (i := 184) rfl)
  | 1, _ => exact tb_2 (List.mem_of_getElem? (i := 170) rfl)
  | 2, _ => exact tb_1 (List.mem_of_getElem? (i := 201) rfl)
  | 3, _ => exact tb_1 (List.mem_of_getElem? (i := 211) rfl)
  | 4, _ => exact tb_2 (List.mem_of_getElem? (i := 143) rfl)
  | 5, _ => exact tb_2 (List.mem_of_getElem? (i := 97) rfl)
  | 6, _ => exact tb_1 (List.mem_of_getElem? (i := 35) rfl)
  | 7, _ => exact tb_2 (List.mem_of_getElem? (i := 27) rfl)
  | 8, _ => exact tb_2 (List.mem_of_getElem? (i := 133) rfl)
  | 9, _ => exact tb_1 (List.mem_of_getElem? (i := 166) rfl)
  | 10, _ => exact tb_2 (List.mem_of_getElem? (i := 74) rfl)
  | 11, _ => exact tb_1 (List.mem_of_getElem? (i := 27) rfl)
  | 12, _ => exact tb_7 (List.mem_of_getElem? (i := 210) rfl)
  | 13, _ => exact tb_7 (List.mem_of_getElem? (i := 45) rfl)
  | k + 14, h => exact absurd h (by omega)
set_option maxRecDepth 100000 in
theorem sx_bad0 : ∀ w ∈ (vy_at RX11 111 "java/lang/IllegalArgumentException" 7 prog_18_method_2_code ["java/lang/RuntimeException", "java/lang/Exception"]).filter (fun w => !goodWord w), w ∈ lw_tbl := by decide +kernel
set_option maxRecDepth 100000 in
theorem sx_bad1 : ∀ w ∈ (vy_at RX11 122 "java/lang/IllegalStateException" 7 prog_19_method_2_code ["java/lang/RuntimeException", "java/lang/Exception"]).filter (fun w => !goodWord w), w ∈ lw_tbl := by decide +kernel
set_option maxRecDepth 100000 in
theorem sx_bad2 : ∀ w ∈ (vy_at RX11 176 "java/lang/IndexOutOfBoundsException" 7 prog_20_method_2_code ["java/lang/RuntimeException", "java/lang/Exception"]).filter (fun w => !goodWord w), w ∈ lw_tbl := by decide +kernel
set_option maxRecDepth 100000 in
theorem sx_bad3 : ∀ w ∈ (vy_at RX11 241 "java/util/NoSuchElementException" 13 prog_28_method_4_code ["java/lang/RuntimeException", "java/lang/Exception"]).filter (fun w => !goodWord w), w ∈ lw_tbl := by decide +kernel
theorem sx_bad : ∀ w ∈ ab_bad, w ∈ lw_tbl := by
  unfold ab_bad
  rw [List.filter_append, List.filter_append, List.filter_append]
  exact List.forall_mem_append.mpr ⟨List.forall_mem_append.mpr ⟨List.forall_mem_append.mpr ⟨sx_bad0, sx_bad1⟩, sx_bad2⟩, sx_bad3⟩
