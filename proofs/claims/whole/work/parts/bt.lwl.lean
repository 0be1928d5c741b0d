/-! THE LAW: from its start to its end -/
section Lwl
variable {xs : List Int32} {d n k i : Nat} {σ M : Nat → Nat → Nat} {μ : Nat → Nat} {ν : Nat → Value} {R h : ab_H} {hs : List (Nat × Nat)} {tt : ab_T} {rr : List ab_I} {qq : Nat × Nat × Nat} {Lc st : List Value} {m2 : Nat}
set_option maxRecDepth 100000 in
theorem nwl : rt xs d m2 hs tt ((.newarray .long, qq) :: rr) (Lc, .int (nI 1) :: st, h) = rt xs d m2 hs tt rr (Lc, .ref h.length :: st, h ++ [oJ [0]]) := rt_s rfl
set_option maxRecDepth 100000 in
theorem nwd : rt xs d m2 hs tt ((.newarray .double, qq) :: rr) (Lc, .int (nI 1) :: st, h) = rt xs d m2 hs tt rr (Lc, .ref h.length :: st, h ++ [oD [0]]) := rt_s rfl
set_option maxRecDepth 100000 in
theorem hc_62 : (hc σ M []).length = 62 := rfl
set_option maxRecDepth 100000 in
theorem mh_73 : (mh sg0 M_0 sg0 (fun _ => 0) nu0 [oI []]).length = 73 := rfl
set_option maxRecDepth 100000 in
theorem mh_74 : (mh sg0 M_0 sg0 (fun _ => 0) nu0 [oI []] ++ [oJ [0]]).length = 74 := rfl
set_option maxRecDepth 100000 in
theorem L_start : ev xs (d + 30) 312 0 (ab_in 9 [.retAddr 1] []) = ev xs (d + 30) 312 3 ([.retAddr 1, .ref 0, .ref 62, .ref 73, .ref 74, .int (nI 0), .retAddr 9, .retAddr 9, .retAddr 9], [], mh sg0 M_0 sg0 (fun _ => 0) nu0 (QH 0 0 [])) := by
  have e1 := m_121 (xs := xs) (d := d + 9)
  have e2 := m_185 (xs := xs) (d := d + 9)
  show ev xs (d + 30) 312 0 ([.retAddr 1, .retAddr 9, .retAddr 9, .retAddr 9, .retAddr 9, .retAddr 9, .retAddr 9, .retAddr 9, .retAddr 9], [], []) = _
  have e3 : (mh sg0 M_0 sg0 (fun _ => 0) nu0 [oI []] ++ [oJ [0]]) ++ [oD [0]] = mh sg0 M_0 sg0 (fun _ => 0) nu0 (QH 0 0 []) := rfl
  simp (disch := first | assumption | omega | exact st8_a (Nat.le_of_ble_eq_true rfl)) only [xr_232, xr_233, nwl, nwd, List.length_nil, List.nil_append, e1, hc_62, hc_app, e2, mh_73, mh_74, e3, eb_312_0, eb_312_1, eb_312_2, kl_a, kl_d, kl_f, kl_i, kl_l, kl_n, kl_r, xr_1, xr_10, xr_11, xr_115, xr_12, xr_120, xr_13, xr_135, xr_136, xr_137, xr_138, xr_139, xr_14, xr_146, xr_147, xr_148, xr_149, xr_15, xr_150, xr_158, xr_159, xr_16, xr_160, xr_161, xr_162, xr_17, xr_175, xr_176, xr_177, xr_178, xr_179, xr_18, xr_180, xr_184, xr_19, xr_2, xr_20, xr_21, xr_22, xr_23, xr_230, xr_231, xr_234, xr_235, xr_236, xr_237, xr_238, xr_239, xr_24, xr_240, xr_25, xr_27, xr_3, xr_35, xr_36, xr_38, xr_4, xr_44, xr_5, xr_56, xr_57, xr_61, xr_62, xr_65, xr_67, xr_71, xr_77, xr_8, xr_80, xr_81, xr_82, xr_83, xr_84, xr_9, af_0, af_1, xt_goto, xt_ib, xt_ic, xt_ic_eq, xt_ic_gt, xt_if_eq, xt_if_ne, xt_ir, xt_nop, xt_t0, xt_t2, sw_312_4_0, sw_312_4_1, sw_312_4_2, sw_312_4_3, sw_312_4_4, sw_312_4_5, sw_312_4_6, sw_312_4_7, sw_312_4_8, sw_312_4_9, sw_312_4_10, sw_312_4_11, sw_312_4_12, sw_312_4_13, sw_312_4_14, sw_312_4_15, sw_312_4_16, sw_312_4_17, sw_312_4_18, sw_312_4_19, sw_312_4_20, sw_312_4_21, sw_312_4_22, sw_312_4_23, sw_312_4_24, sw_312_4_25, sw_312_4_26, sw_312_4_27, sw_312_4_28, sw_312_4_29, sw_312_4_30, sw_312_4_31, sw_312_4_32, sw_312_4_33, sw_312_4_34, sw_312_4_35, sw_312_4_36, sw_312_4_37, sw_312_4_38, sw_312_4_39, sw_312_4_40, sw_312_4_41, sw_312_4_42, xq_121_100_special, xq_131_11_virtualc, xq_140_11_virtualc, xq_141_11_virtualc, xq_142_11_virtualc, xq_149_11_virtualc, xq_150_11_virtualc, xq_154_11_virtualc, xq_159_11_virtualc, xq_162_11_virtualc, xq_185_100_special, xq_186_13_virtualm mh_Mo, xq_223_13_virtualm mh_Mo, xq_224_13_virtualm mh_Mo, xq_225_13_virtualm mh_Mo, xq_226_13_virtualm mh_Mo, xq_227_13_virtualm mh_Mo, xq_229_13_virtualm mh_Mo, xq_230_13_virtualm mh_Mo, xq_231_13_virtualm mh_Mo, xq_232_13_virtualm mh_Mo, xq_233_13_virtualm mh_Mo, xq_235_13_virtualm mh_Mo, xq_236_13_virtualm mh_Mo, xq_237_13_virtualm mh_Mo, xq_238_13_virtualm mh_Mo, xq_239_13_virtualm mh_Mo, xq_240_13_virtualm mh_Mo, xq_241_13_virtualm mh_Mo, xq_242_13_virtualm mh_Mo, xq_243_13_virtualm mh_Mo, xq_246_13_virtualm mh_Mo, xq_248_13_virtualm mh_Mo, xq_249_13_virtualm mh_Mo, xq_250_13_virtualm mh_Mo, xq_253_13_virtualm mh_Mo, xq_254_13_virtualm mh_Mo, xq_255_13_virtualm mh_Mo, xq_256_13_virtualm mh_Mo, xq_257_13_virtualm mh_Mo, xq_258_13_virtualm mh_Mo, xq_260_13_virtualm mh_Mo, xq_262_13_virtualm mh_Mo, xq_263_13_virtualm mh_Mo, xq_264_13_virtualm mh_Mo, xq_265_13_virtualm mh_Mo, xq_269_13_virtualm mh_Mo, xq_270_13_virtualm mh_Mo, xq_271_13_virtualm mh_Mo, xq_272_13_virtualm mh_Mo, xq_273_13_virtualm mh_Mo, xq_274_13_virtualm mh_Mo, xq_275_13_virtualm mh_Mo, xq_279_201_static, xq_280_201_static, xq_281_201_static, xq_282_201_static, xq_283_201_static, xq_284_201_static, xq_285_201_static, xq_286_201_static, xq_287_201_static, xq_288_201_static, xq_289_201_static, xq_290_201_static, xq_291_201_static, xq_292_201_static, xq_293_201_static, xq_294_201_static, xq_295_201_static, xq_296_201_static, xq_297_201_static, xq_298_201_static, xq_299_201_static, xq_300_201_static, xq_301_201_static, xq_302_201_static, xq_303_201_static, xq_304_201_static, xq_305_201_static, xq_306_201_static, xq_307_201_static, xq_308_201_static, xq_309_201_static, xq_310_201_static, iN_add, iN_mul, iN_sub, iN_and, iN_or, iN_clr, iN_shl, iN_shr, tb_r1, b1_z, b1_or, b1_and, b1_or0, b1_or1, b1_0or, b1_t, b1_f, iN_lt, iN_inj, reduceIte, if_true, if_false, Nat.zero_add, Nat.add_zero, Bool.false_eq_true, Bool.true_eq_false, Nat.lt_irrefl, iN_az, not_true_eq_false, not_false_eq_true, Nat.reduceEqDiff, Nat.reduceLT, Nat.reduceAdd, Nat.reduceMul, Nat.reduceSub]
set_option maxRecDepth 100000 in
theorem Ok_0 : Ok sg0 := by
  refine ⟨by decide, by decide, by decide, by decide, fun l hl => absurd hl (Nat.not_lt_zero l), fun l hl => absurd hl (Nat.not_lt_zero l), fun l hl => absurd hl (Nat.not_lt_zero l), fun i hi => ?_, fun l hl => absurd hl (Nat.not_lt_zero l)⟩
  have : i = 0 ∨ i = 1 ∨ i = 2 := by omega
  rcases this with rfl | rfl | rfl <;> decide
set_option maxRecDepth 100000 in
theorem LST_start : LST 0 sg0 M_0 nu0 [] := by
  have hK : KI sg0 M_0 := ⟨by decide, .inl rfl, fun z => absurd z (by decide), fun j => (by show (0 : Nat) < 64; decide)⟩
  refine ⟨⟨Ok_0, ⟨⟨hK, .inl rfl, fun z => absurd z (by decide)⟩, ⟨hK, .inl rfl, fun z => absurd z (by decide)⟩, by decide, fun j => (by show (0 : Nat) < 4294967296; decide)⟩, .inl ⟨rfl, rfl⟩, .inl ⟨rfl, by decide, rfl⟩, ⟨by decide, fun k hk => absurd hk (Nat.not_lt_zero k), 0, rfl, rfl⟩, fun p hp => (by cases hp)⟩, by decide, Nat.le_refl _, Nat.le_refl _⟩
set_option maxRecDepth 100000 in
theorem hsz_c2 : ab_hsz (hc σ M []) ≤ 5000 := by
  have e : ab_hsz (hc σ M []) = ab_hsz (hc (fun _ _ => 0) (fun _ _ => 0) []) := rfl
  rw [e]
  decide +kernel
/-- what is left, with this claim's room -/
def ab_MainR : Prop := ∀ xs : List Int32, xs.length ≤ 2048 → ∃ (n d : Nat) (h' : ab_H), d ≤ 800 ∧ ab_go ab_mt (ab_fx xs) n d 312 0 (ab_in 9 [.retAddr 1] []) = some (.inl (some (.int 1)), h') ∧ h'.length ≤ 137388 ∧ ab_hsz h' ≤ 8683942
set_option maxRecDepth 100000 in
theorem ab_main : ab_MainR := by
  intro xs hl
  obtain ⟨n', σ', M', μ', ν', a', b', R', e, hn, hL⟩ := L_walk (d := 0) hl 600 0 rfl (Nat.zero_le _) sg0 M_0 (fun _ => 0) nu0 0 0 [] (.retAddr 9) (.retAddr 9) (.retAddr 9) LST_start
  have e2 : ev xs 30 312 0 (ab_in 9 [.retAddr 1] []) = some (.inl (some (.int (nI (1)))), mh σ' M' σ' μ' ν' (QH a' b' R')) := by
    have := L_start (xs := xs) (d := 0)
    rw [Nat.zero_add] at this
    rw [this]
    exact e
  obtain ⟨fuel, hf⟩ := ab_ev_iff.mp e2
  refine ⟨fuel, 30, _, by decide, hf, ?_, ?_⟩
  · rw [mh_len]
    have h2 : (QH a' b' R').length = R'.length + 3 := rfl
    have := hL.2.2.1
    omega
  · have h1 : mh σ' M' σ' μ' ν' (QH a' b' R') = hc σ' M' [] ++ (mc σ' μ' ν' ++ ([oI [], oJ [a'], oD [b']] ++ R')) := rfl
    have h2 : ab_hsz (mc σ' μ' ν') = 84 := by
      unfold ab_hsz mc
      simp only [List.map_cons, List.map_nil, List.sum_cons, List.sum_nil, ab_osz, ar_len]
      rfl
    have h3 : ab_hsz [oI [], oJ [a'], oD [b']] = 2 := rfl
    have h4 := hsz_c2 (σ := σ') (M := M')
    have h5 := hL.2.2.2
    rw [h1, hsz_a, hsz_a, hsz_a, h2, h3]
    omega
end Lwl
