/-! ENDS OF BLOCKS, CALLS -/
noncomputable def aft (xs : List Int32) (d m : Nat) (hs : List (Nat × Nat)) (rc k : Nat) (L st : List Value) (r : ab_R) : ab_R := match r with
  | none => none
  | some (.inl v, h) => ev xs d m k (L, v.toList ++ st, h)
  | some (.inr x, h) => if rc < 50 then
    match hs.find? (fun q => q.1 == x) with
    | some q => ev xs d m q.2 (L, [.retAddr 8], h)
    | none => if hs.isEmpty = true then some (.inr x, h) else none
    else none
/-- where a switch goes -/
def swt (lo : Nat) (tg : List Nat) (k : Nat) : Nat := if k < lo ∨ lo + (tg.length - 1) ≤ k then tg.getD (tg.length - 1) 0 else tg.getD (k - lo) 0
def lks (ks tg : List Nat) (k : Nat) : Nat := match ks.findIdx? (fun q => q == k) with
  | some i => tg.getD i 0
  | none => tg.getD (tg.length - 1) 0
section Xt
variable {xs : List Int32} {d m k k1 k2 n : Nat} {hs : List (Nat × Nat)} {c : Nat × Nat × Nat} {L st : List Value} {h : ab_H} {S : ab_S}
theorem af_0 {rc : Nat} : aft xs d m hs rc k L st (some (.inl none, h)) = ev xs d m k (L, st, h) := nrf rfl
theorem af_1 {rc : Nat} {v : Value} : aft xs d m hs rc k L st (some (.inl (some v), h)) = ev xs d m k (L, v :: st, h) := nrf rfl
theorem af_x {rc x : Nat} (hrc : rc < 50) : aft xs d m [] rc k L st (some (.inr x, h)) = some (.inr x, h) := by
  show (if rc < 50 then _ else none) = _
  rw [if_pos hrc]
  rfl
theorem ab_xq {cl na rc : Nat} {i : Instr} {Mm : ab_M} {as : List Value} (hM : ab_mt cl = some Mm) (hl : as.length = na) (hn : na ≤ Mm.1) (hc : (as.all fun v => v.category == 1) = true) (h8 : st8 st = true) (hr : 200 ≤ rc ∨ ab_rcv rc as.reverse h = true) : ab_call ab_mt (ev xs) (d + 1) m hs (i, n, (cl, na, rc), [k]) (L, as ++ st, h) = aft xs (d + 1) m hs rc k L st (ev xs d cl 0 (ab_in Mm.1 as.reverse h)) := by
  subst hl
  unfold ab_call
  dsimp only
  rw [hM]
  dsimp only
  rw [List.take_left' rfl, List.drop_left' rfl, if_pos ⟨by simp, hn, hc, st8_le h8, hr⟩]
  cases ev xs d cl 0 (ab_in Mm.1 as.reverse h) with
  | none => rfl
  | some q =>
    obtain ⟨r, h'⟩ := q
    cases r <;> rfl
theorem rcv_t {rc x : Nat} {as : List Value} (h1 : 100 ≤ rc) : ab_rcv rc (.ref x :: as) h = true := by
  unfold ab_rcv
  dsimp only
  rw [if_pos h1]
theorem rcv_c {rc x ci : Nat} {as : List Value} (h1 : cls h x = some ci) (h2 : rc % 50 = ci) : ab_rcv rc (.ref x :: as) h = true := by
  unfold ab_rcv
  dsimp only
  split
  · rfl
  · unfold cls at h1
    split at h1
    · rename_i e
      rw [e]
      cases h1
      simpa using h2.symm
    · cases h1
theorem xt_nop : rt xs d m hs (.nop, n, (0, 0, 0), [k]) [] S = ev xs d m k S := nrf rfl
theorem xt_goto {j : _} : rt xs d m hs (.goto j, n, c, [k]) [] S = ev xs d m k S := nrf rfl
theorem xt_ic_eq {j : _} {x y : Int32} : rt xs d m hs (.if_icmp .eq j, n, c, [k1, k2]) [] (L, .int y :: .int x :: st, h) = if x = y then ev xs d m k1 (L, st, h) else ev xs d m k2 (L, st, h) := nrf rfl
theorem xt_if_eq {j : _} {x : Int32} : rt xs d m hs (.ifCond .eq j, n, c, [k1, k2]) [] (L, .int x :: st, h) = if x = nI 0 then ev xs d m k1 (L, st, h) else ev xs d m k2 (L, st, h) := nrf rfl
theorem xt_ic_ne {j : _} {x y : Int32} : rt xs d m hs (.if_icmp .ne j, n, c, [k1, k2]) [] (L, .int y :: .int x :: st, h) = if x = y then ev xs d m k2 (L, st, h) else ev xs d m k1 (L, st, h) := nrf rfl
theorem xt_if_ne {j : _} {x : Int32} : rt xs d m hs (.ifCond .ne j, n, c, [k1, k2]) [] (L, .int x :: st, h) = if x = nI 0 then ev xs d m k2 (L, st, h) else ev xs d m k1 (L, st, h) := nrf rfl
theorem xt_ic_lt {j : _} {x y : Int32} : rt xs d m hs (.if_icmp .lt j, n, c, [k1, k2]) [] (L, .int y :: .int x :: st, h) = if x < y then ev xs d m k1 (L, st, h) else ev xs d m k2 (L, st, h) := nrf rfl
theorem xt_if_lt {j : _} {x : Int32} : rt xs d m hs (.ifCond .lt j, n, c, [k1, k2]) [] (L, .int x :: st, h) = if x < nI 0 then ev xs d m k1 (L, st, h) else ev xs d m k2 (L, st, h) := nrf rfl
theorem xt_ic_ge {j : _} {x y : Int32} : rt xs d m hs (.if_icmp .ge j, n, c, [k1, k2]) [] (L, .int y :: .int x :: st, h) = if x < y then ev xs d m k2 (L, st, h) else ev xs d m k1 (L, st, h) := nrf rfl
theorem xt_if_ge {j : _} {x : Int32} : rt xs d m hs (.ifCond .ge j, n, c, [k1, k2]) [] (L, .int x :: st, h) = if x < nI 0 then ev xs d m k2 (L, st, h) else ev xs d m k1 (L, st, h) := nrf rfl
theorem xt_ic_gt {j : _} {x y : Int32} : rt xs d m hs (.if_icmp .gt j, n, c, [k1, k2]) [] (L, .int y :: .int x :: st, h) = if y < x then ev xs d m k1 (L, st, h) else ev xs d m k2 (L, st, h) := nrf rfl
theorem xt_if_gt {j : _} {x : Int32} : rt xs d m hs (.ifCond .gt j, n, c, [k1, k2]) [] (L, .int x :: st, h) = if nI 0 < x then ev xs d m k1 (L, st, h) else ev xs d m k2 (L, st, h) := nrf rfl
theorem xt_ic_le {j : _} {x y : Int32} : rt xs d m hs (.if_icmp .le j, n, c, [k1, k2]) [] (L, .int y :: .int x :: st, h) = if y < x then ev xs d m k2 (L, st, h) else ev xs d m k1 (L, st, h) := nrf rfl
theorem xt_if_le {j : _} {x : Int32} : rt xs d m hs (.ifCond .le j, n, c, [k1, k2]) [] (L, .int x :: st, h) = if nI 0 < x then ev xs d m k2 (L, st, h) else ev xs d m k1 (L, st, h) := nrf rfl
theorem xt_nu_0 {j : _} : rt xs d m hs (.ifnull j, n, c, [k1, k2]) [] (L, .null :: st, h) = ev xs d m k1 (L, st, h) := nrf rfl
theorem xt_nu_1 {j : _} {a : Nat} : rt xs d m hs (.ifnull j, n, c, [k1, k2]) [] (L, .ref a :: st, h) = ev xs d m k2 (L, st, h) := nrf rfl
theorem xt_nn_0 {j : _} : rt xs d m hs (.ifnonnull j, n, c, [k1, k2]) [] (L, .null :: st, h) = ev xs d m k2 (L, st, h) := nrf rfl
theorem xt_nn_1 {j : _} {a : Nat} : rt xs d m hs (.ifnonnull j, n, c, [k1, k2]) [] (L, .ref a :: st, h) = ev xs d m k1 (L, st, h) := nrf rfl
theorem xt_ts {df hi : Int} {lo : Nat} {of : _} {tg : List Nat} {x : Nat} (hx : x < 2147483648) : rt xs d m hs (.tableswitch df (lo : Int) hi of, n, c, tg) [] (L, .int (nI x) :: st, h) = ev xs d m (swt lo tg x) (L, st, h) := by
  show (if (nI x).toInt < (lo : Int) ∨ (lo : Int) + (tg.length - 1 : Nat) ≤ (nI x).toInt then ev xs d m (tg.getD (tg.length - 1) 0) (L, st, h) else ev xs d m (tg.getD ((nI x).toInt - lo).toNat 0) (L, st, h)) = _
  rw [iN_tn hx]
  unfold swt
  by_cases h1 : x < lo ∨ lo + (tg.length - 1) ≤ x
  · rw [if_pos h1, if_pos (by omega)]
  · rw [if_neg h1, if_neg (by omega), show ((x : Int) - (lo : Int)).toNat = x - lo by omega]
theorem xt_t0 {df hi : Int} {of : _} {tg : List Nat} {x : Nat} (hx : x < 2147483648) : rt xs d m hs (.tableswitch df 0 hi of, n, c, tg) [] (L, .int (nI x) :: st, h) = ev xs d m (swt 0 tg x) (L, st, h) := xt_ts (lo := 0) hx
theorem xt_t2 {df hi : Int} {of : _} {tg : List Nat} {x : Nat} (hx : x < 2147483648) : rt xs d m hs (.tableswitch df 2 hi of, n, c, tg) [] (L, .int (nI x) :: st, h) = ev xs d m (swt 2 tg x) (L, st, h) := xt_ts (lo := 2) hx
theorem xt_ls {df : Int} {ps : Array (Int × Int)} {ks tg : List Nat} {x : Nat} (hx : x < 2147483648) (hk : ∀ y : Nat, (ps.toList.findIdx? fun q => q.1 == (y : Int)) = ks.findIdx? fun q => q == y) : rt xs d m hs (.lookupswitch df ps, n, c, tg) [] (L, .int (nI x) :: st, h) = ev xs d m (lks ks tg x) (L, st, h) := by
  show (match ps.toList.findIdx? (fun q => q.1 == (nI x).toInt) with
    | some i => ev xs d m (tg.getD i 0) (L, st, h)
    | none => ev xs d m (tg.getD (tg.length - 1) 0) (L, st, h)) = _
  rw [iN_tn hx, hk x]
  unfold lks
  cases ks.findIdx? fun q => q == x <;> rfl
theorem xt_ir {a b : Nat} {tg : List Nat} {v : Int32} : rt xs d m hs (.ireturn, n, (0, a, b), tg) [] (L, [.int v], h) = some (.inl (some (.int v)), h) := nrf rfl
theorem xt_ib {a b : Nat} {tg : List Nat} {v : Nat} (hv : v < 2) : rt xs d m hs (.ireturn, n, (1, a, b), tg) [] (L, [.int (nI v)], h) = some (.inl (some (.int (nI v))), h) := by
  have : v = 0 ∨ v = 1 := by omega
  rcases this with rfl | rfl <;> rfl
theorem xt_ic {a b : Nat} {tg : List Nat} {v : Bool} : rt xs d m hs (.ireturn, n, (1, a, b), tg) [] (L, [.int (nI (b1 v))], h) = some (.inl (some (.int (nI (b1 v)))), h) := xt_ib (b1_lt v)
theorem xt_lr {tg : List Nat} {v : Int64} : rt xs d m hs (.lreturn, n, c, tg) [] (L, [.long v], h) = some (.inl (some (.long v)), h) := nrf rfl
theorem xt_fr {tg : List Nat} {v : UInt32} : rt xs d m hs (.freturn, n, c, tg) [] (L, [.float v], h) = some (.inl (some (.float v)), h) := nrf rfl
theorem xt_dr {tg : List Nat} {v : UInt64} : rt xs d m hs (.dreturn, n, c, tg) [] (L, [.double v], h) = some (.inl (some (.double v)), h) := nrf rfl
theorem xt_ar {tg : List Nat} {v : Nat} : rt xs d m hs (.areturn, n, c, tg) [] (L, [.ref v], h) = some (.inl (some (.ref v)), h) := nrf rfl
theorem xt_re {tg : List Nat} : rt xs d m hs (.return_, n, c, tg) [] (L, [], h) = some (.inl none, h) := nrf rfl
theorem xt_th {x a b : Nat} {tg : List Nat} (h8 : st8 st = true) : rt xs d m hs (.athrow, n, (x, a, b), tg) [] (L, st, h) = some (.inr x, h ++ [.inl (99, [])]) := by
  show (if (st.map fun v => v.category).sum ≤ 8 then _ else none) = _
  rw [if_pos (st8_le h8)]
theorem em_0 : ab_mt 0 = some am_X0_init := rfl
theorem em_1 : ab_mt 1 = some am_X0_enumerate := rfl
theorem em_2 : ab_mt 2 = some am_X0_someKeeps := rfl
theorem em_3 : ab_mt 3 = some am_X0_countTimetables := rfl
theorem em_4 : ab_mt 4 = some am_X0_stands := rfl
theorem em_5 : ab_mt 5 = some am_X0_walk := rfl
theorem em_6 : ab_mt 6 = some am_X0_clashesWithNone := rfl
theorem em_7 : ab_mt 7 = some am_X0_look := rfl
theorem em_8 : ab_mt 8 = some am_X1_init := rfl
theorem em_9 : ab_mt 9 = some am_X1_spread := rfl
theorem em_10 : ab_mt 10 = some am_X1_fill := rfl
theorem em_11 : ab_mt 11 = some am_X1_isFree := rfl
theorem em_12 : ab_mt 12 = some am_X2_init := rfl
theorem em_13 : ab_mt 13 = some am_X2_faults := rfl
theorem em_14 : ab_mt 14 = some am_X2_pairFaults := rfl
theorem em_15 : ab_mt 15 = some am_X2_toldBroken := rfl
theorem em_16 : ab_mt 16 = some am_X2_isGood := rfl
theorem em_17 : ab_mt 17 = some am_X2_coverOfTeacher := rfl
theorem em_18 : ab_mt 18 = some am_X11_needDay := rfl
theorem em_19 : ab_mt 19 = some am_X2_longestDay := rfl
theorem em_20 : ab_mt 20 = some am_X2_lessonsIn := rfl
theorem em_21 : ab_mt 21 = some am_X11_needDay := rfl
theorem em_22 : ab_mt 22 = some am_X2_weightOf := rfl
theorem em_23 : ab_mt 23 = some am_X2_gapsIn := rfl
theorem em_24 : ab_mt 24 = some am_X11_needDay := rfl
theorem em_25 : ab_mt 25 = some am_X3_init := rfl
theorem em_26 : ab_mt 26 = some am_X3_ask := rfl
theorem em_27 : ab_mt 27 = some am_X3_pairIndex := rfl
theorem em_28 : ab_mt 28 = some am_X3_valueIndex := rfl
theorem em_29 : ab_mt 29 = some am_X3_learnGround := rfl
theorem em_30 : ab_mt 30 = some am_X3_groundPartners := rfl
theorem em_31 : ab_mt 31 = some am_X3_openLesson := rfl
theorem em_32 : ab_mt 32 = some am_X3_keep := rfl
theorem em_33 : ab_mt 33 = some am_X3_keepPair := rfl
theorem em_34 : ab_mt 34 = some am_X3_keepRooms := rfl
theorem em_35 : ab_mt 35 = some am_X3_dropLonelyStarts := rfl
theorem em_36 : ab_mt 36 = some am_X3_isLonelyStart := rfl
theorem em_37 : ab_mt 37 = some am_X3_barLesson := rfl
theorem em_38 : ab_mt 38 = some am_X3_barTeacher := rfl
theorem em_39 : ab_mt 39 = some am_X3_allow := rfl
theorem em_40 : ab_mt 40 = some am_X3_costWeights := rfl
theorem em_41 : ab_mt 41 = some am_X3_costChanges := rfl
theorem em_42 : ab_mt 42 = some am_X3_costShares := rfl
theorem em_43 : ab_mt 43 = some am_X3_price := rfl
theorem em_44 : ab_mt 44 = some am_X4_init := rfl
theorem em_45 : ab_mt 45 = some am_X4_moveOne := rfl
theorem em_46 : ab_mt 46 = some am_X4_extend := rfl
theorem em_47 : ab_mt 47 = some am_X4_isIn := rfl
theorem em_48 : ab_mt 48 = some am_X4_weigh := rfl
theorem em_49 : ab_mt 49 = some am_X5_init := rfl
theorem em_50 : ab_mt 50 = some am_X5_keepable := rfl
theorem em_51 : ab_mt 51 = some am_X5_stubborn := rfl
theorem em_52 : ab_mt 52 = some am_X5_refresh := rfl
theorem em_53 : ab_mt 53 = some am_X5_isKept := rfl
theorem em_54 : ab_mt 54 = some am_X6_init := rfl
theorem em_55 : ab_mt 55 = some am_X6_allSlots := rfl
theorem em_56 : ab_mt 56 = some am_X6_allRules := rfl
theorem em_57 : ab_mt 57 = some am_X6_areLessons := rfl
theorem em_58 : ab_mt 58 = some am_X6_dayOf := rfl
theorem em_59 : ab_mt 59 = some am_X6_hourOf := rfl
theorem em_60 : ab_mt 60 = some am_X6_dayMask := rfl
theorem em_61 : ab_mt 61 = some am_X6_lastHours := rfl
theorem em_62 : ab_mt 62 = some am_X6_lastSlot := rfl
theorem em_63 : ab_mt 63 = some am_X6_cover := rfl
theorem em_64 : ab_mt 64 = some am_X6_staysInDay := rfl
theorem em_65 : ab_mt 65 = some am_X6_hasSeats := rfl
theorem em_66 : ab_mt 66 = some am_X6_shareClass := rfl
theorem em_67 : ab_mt 67 = some am_X6_shareTeacher := rfl
theorem em_68 : ab_mt 68 = some am_X6_weightOfValue := rfl
theorem em_69 : ab_mt 69 = some am_X6_hasRuleWithSlot := rfl
theorem em_70 : ab_mt 70 = some am_X6_canBeRule := rfl
theorem em_71 : ab_mt 71 = some am_X11_needDay := rfl
theorem em_72 : ab_mt 72 = some am_X6_pairKept := rfl
theorem em_73 : ab_mt 73 = some am_X7_init := rfl
theorem em_74 : ab_mt 74 = some am_X7_seek := rfl
theorem em_75 : ab_mt 75 = some am_X7_cheapest := rfl
theorem em_76 : ab_mt 76 = some am_X7_behind := rfl
theorem em_77 : ab_mt 77 = some am_X7_existsBehind := rfl
theorem em_78 : ab_mt 78 = some am_X7_restrict := rfl
theorem em_79 : ab_mt 79 = some am_X7_lessen := rfl
theorem em_80 : ab_mt 80 = some am_X7_explore := rfl
theorem em_81 : ab_mt 81 = some am_X7_narrow := rfl
theorem em_82 : ab_mt 82 = some am_X7_withinDayLimit := rfl
theorem em_83 : ab_mt 83 = some am_X7_tightest := rfl
theorem em_84 : ab_mt 84 = some am_X7_seat := rfl
theorem em_85 : ab_mt 85 = some am_X7_takenRooms := rfl
theorem em_86 : ab_mt 86 = some am_X7_record := rfl
theorem em_87 : ab_mt 87 = some am_X7_lowest := rfl
theorem em_88 : ab_mt 88 = some am_X7_cheapestSlot := rfl
theorem em_89 : ab_mt 89 = some am_X7_sureGaps := rfl
theorem em_90 : ab_mt 90 = some am_X7_canFill := rfl
theorem em_91 : ab_mt 91 = some am_X7_lowestShares := rfl
theorem em_92 : ab_mt 92 = some am_X7_mustEndLast := rfl
theorem em_93 : ab_mt 93 = some am_X8_init := rfl
theorem em_94 : ab_mt 94 = some am_X8_mostSeated := rfl
theorem em_95 : ab_mt 95 = some am_X8_fewestUnseated := rfl
theorem em_96 : ab_mt 96 = some am_X8_roomsFor := rfl
theorem em_97 : ab_mt 97 = some am_X9_init := rfl
theorem em_98 : ab_mt 98 = some am_X9_begin := rfl
theorem em_99 : ab_mt 99 = some am_X9_copyFrom := rfl
theorem em_100 : ab_mt 100 = some am_X9_valueOf := rfl
theorem em_101 : ab_mt 101 = some am_X9_differences := rfl
theorem em_102 : ab_mt 102 = some am_X9_standsIn := rfl
theorem em_103 : ab_mt 103 = some am_X10_init := rfl
theorem em_104 : ab_mt 104 = some am_X10_refresh := rfl
theorem em_105 : ab_mt 105 = some am_X10_told := rfl
theorem em_106 : ab_mt 106 = some am_X10_isOpen := rfl
theorem em_107 : ab_mt 107 = some am_X10_leastWeight := rfl
theorem em_108 : ab_mt 108 = some am_X10_leastOf := rfl
theorem em_109 : ab_mt 109 = some am_X10_begin := rfl
theorem em_110 : ab_mt 110 = some am_X10_dropLonely := rfl
theorem em_111 : ab_mt 111 = some am_X10_isLonely := rfl
theorem em_112 : ab_mt 112 = some am_X10_hasPartner := rfl
theorem em_113 : ab_mt 113 = some am_X10_dropCrowded := rfl
theorem em_114 : ab_mt 114 = some am_X10_lessonsOf := rfl
theorem em_115 : ab_mt 115 = some am_X10_crowdGroup := rfl
theorem em_116 : ab_mt 116 = some am_X10_coverLeft := rfl
theorem em_117 : ab_mt 117 = some am_X10_coverOfSet := rfl
theorem em_118 : ab_mt 118 = some am_X10_lengthOfSet := rfl
theorem em_119 : ab_mt 119 = some am_X10_dropAll := rfl
theorem em_120 : ab_mt 120 = some am_X10_dropCovering := rfl
theorem em_121 : ab_mt 121 = some am_X11_init := rfl
theorem em_122 : ab_mt 122 = some am_X11_setGrid := rfl
theorem em_123 : ab_mt 123 = some am_X11_addClass := rfl
theorem em_124 : ab_mt 124 = some am_X11_addTeacher := rfl
theorem em_125 : ab_mt 125 = some am_X11_addRoom := rfl
theorem em_126 : ab_mt 126 = some am_X11_addLesson := rfl
theorem em_127 : ab_mt 127 = some am_X11_addRule := rfl
theorem em_128 : ab_mt 128 = some am_X11_needDay := rfl
theorem em_129 : ab_mt 129 = some am_X11_left := rfl
theorem em_130 : ab_mt 130 = some am_X11_leftAt := rfl
theorem em_131 : ab_mt 131 = some am_X11_first := rfl
theorem em_132 : ab_mt 132 = some am_X11_next := rfl
theorem em_133 : ab_mt 133 = some am_X11_place := rfl
theorem em_134 : ab_mt 134 = some am_X11_at := rfl
theorem em_135 : ab_mt 135 = some am_X11_broken := rfl
theorem em_136 : ab_mt 136 = some am_X11_groundFaults := rfl
theorem em_137 : ab_mt 137 = some am_X11_image := rfl
theorem em_138 : ab_mt 138 = some am_X11_restore := rfl
theorem em_139 : ab_mt 139 = some am_X11_needDay := rfl
theorem em_140 : ab_mt 140 = some am_X11_needDay := rfl
theorem em_141 : ab_mt 141 = some am_X11_core := rfl
theorem em_142 : ab_mt 142 = some am_X11_cores := rfl
theorem em_143 : ab_mt 143 = some am_X11_coreAt := rfl
theorem em_144 : ab_mt 144 = some am_X11_isNeeded := rfl
theorem em_145 : ab_mt 145 = some am_X11_matched := rfl
theorem em_146 : ab_mt 146 = some am_X11_unfit := rfl
theorem em_147 : ab_mt 147 = some am_X11_setWeights := rfl
theorem em_148 : ab_mt 148 = some am_X11_weight := rfl
theorem em_149 : ab_mt 149 = some am_X11_best := rfl
theorem em_150 : ab_mt 150 = some am_X11_bound := rfl
theorem em_151 : ab_mt 151 = some am_X11_improve := rfl
theorem em_152 : ab_mt 152 = some am_X11_away := rfl
theorem em_153 : ab_mt 153 = some am_X11_against := rfl
theorem em_154 : ab_mt 154 = some am_X11_fairest := rfl
theorem em_155 : ab_mt 155 = some am_X11_needDay := rfl
theorem em_156 : ab_mt 156 = some am_X11_examDays := rfl
theorem em_157 : ab_mt 157 = some am_X11_examDay := rfl
theorem em_158 : ab_mt 158 = some am_X11_needDay := rfl
theorem em_159 : ab_mt 159 = some am_X11_needDay := rfl
theorem em_160 : ab_mt 160 = some am_X11_needDay := rfl
theorem em_161 : ab_mt 161 = some am_X11_needDay := rfl
theorem em_162 : ab_mt 162 = some am_X11_errors := rfl
theorem em_163 : ab_mt 163 = some am_X11_take := rfl
theorem em_164 : ab_mt 164 = some am_X11_needDay := rfl
theorem em_165 : ab_mt 165 = some am_X11_needTimetable := rfl
theorem em_166 : ab_mt 166 = some am_X11_needLesson := rfl
theorem em_167 : ab_mt 167 = some am_X11_needTeacher := rfl
theorem em_168 : ab_mt 168 = some am_X11_needRoom := rfl
theorem em_169 : ab_mt 169 = some am_X11_needSlot := rfl
theorem em_170 : ab_mt 170 = some am_X11_needDay := rfl
theorem em_171 : ab_mt 171 = some am_X11_needRule := rfl
theorem em_172 : ab_mt 172 = some am_X11_needDay := rfl
theorem em_173 : ab_mt 173 = some am_X11_needDay := rfl
theorem em_174 : ab_mt 174 = some am_X11_needDay := rfl
theorem em_175 : ab_mt 175 = some am_X11_needDay := rfl
theorem em_176 : ab_mt 176 = some am_X11_needDay := rfl
theorem em_177 : ab_mt 177 = some am_X11_needDay := rfl
theorem em_178 : ab_mt 178 = some am_X11_needDay := rfl
theorem em_179 : ab_mt 179 = some am_X11_needDay := rfl
theorem em_180 : ab_mt 180 = some am_X11_needDay := rfl
theorem em_181 : ab_mt 181 = some am_X11_needDay := rfl
theorem em_182 : ab_mt 182 = some am_X11_needDay := rfl
theorem em_183 : ab_mt 183 = some am_X11_needDay := rfl
theorem em_184 : ab_mt 184 = some am_X11_needDay := rfl
theorem em_185 : ab_mt 185 = some am_X11_needDay := rfl
theorem em_186 : ab_mt 186 = some am_X11_needDay := rfl
theorem em_187 : ab_mt 187 = some am_X11_needDay := rfl
theorem em_188 : ab_mt 188 = some am_X11_needDay := rfl
theorem em_189 : ab_mt 189 = some am_X11_needDay := rfl
theorem em_190 : ab_mt 190 = some am_X11_needDay := rfl
theorem em_191 : ab_mt 191 = some am_X11_needDay := rfl
theorem em_192 : ab_mt 192 = some am_X11_needDay := rfl
theorem em_193 : ab_mt 193 = some am_X11_needDay := rfl
theorem em_194 : ab_mt 194 = some am_X11_needDay := rfl
theorem em_195 : ab_mt 195 = some am_X11_needDay := rfl
theorem em_196 : ab_mt 196 = some am_X11_needDay := rfl
theorem em_197 : ab_mt 197 = some am_X11_needDay := rfl
theorem em_198 : ab_mt 198 = some am_X11_needDay := rfl
theorem em_199 : ab_mt 199 = some am_X11_needDay := rfl
theorem em_200 : ab_mt 200 = some am_X11_needDay := rfl
theorem em_201 : ab_mt 201 = some am_X11_needDay := rfl
theorem em_202 : ab_mt 202 = some am_X11_needDay := rfl
theorem em_203 : ab_mt 203 = some am_X11_needDay := rfl
theorem em_204 : ab_mt 204 = some am_X11_needDay := rfl
theorem em_205 : ab_mt 205 = some am_X11_needDay := rfl
theorem em_206 : ab_mt 206 = some am_X11_needDay := rfl
theorem em_207 : ab_mt 207 = some am_X11_needDay := rfl
theorem em_208 : ab_mt 208 = some am_X11_needDay := rfl
theorem em_209 : ab_mt 209 = some am_X11_needDay := rfl
theorem em_210 : ab_mt 210 = some am_X11_needDay := rfl
theorem em_211 : ab_mt 211 = some am_X11_needDay := rfl
theorem em_212 : ab_mt 212 = some am_X11_needDay := rfl
theorem em_213 : ab_mt 213 = some am_X11_needDay := rfl
theorem em_214 : ab_mt 214 = some am_X11_needDay := rfl
theorem em_215 : ab_mt 215 = some am_X11_needDay := rfl
theorem em_216 : ab_mt 216 = some am_X11_needDay := rfl
theorem em_217 : ab_mt 217 = some am_X11_needDay := rfl
theorem em_218 : ab_mt 218 = some am_X11_needDay := rfl
theorem em_219 : ab_mt 219 = some am_X11_needDay := rfl
theorem em_220 : ab_mt 220 = some am_X11_needDay := rfl
theorem em_221 : ab_mt 221 = some am_X11_needDay := rfl
theorem em_222 : ab_mt 222 = some am_X11_needDay := rfl
theorem em_223 : ab_mt 223 = some am_X11_needDay := rfl
theorem em_224 : ab_mt 224 = some am_X11_needDay := rfl
theorem em_225 : ab_mt 225 = some am_X11_needDay := rfl
theorem em_226 : ab_mt 226 = some am_X11_needDay := rfl
theorem em_227 : ab_mt 227 = some am_X11_needDay := rfl
theorem em_228 : ab_mt 228 = some am_X11_needDay := rfl
theorem em_229 : ab_mt 229 = some am_X11_needDay := rfl
theorem em_230 : ab_mt 230 = some am_X11_needDay := rfl
theorem em_231 : ab_mt 231 = some am_X11_needDay := rfl
theorem em_232 : ab_mt 232 = some am_X11_needDay := rfl
theorem em_233 : ab_mt 233 = some am_X11_needDay := rfl
theorem em_234 : ab_mt 234 = some am_X11_needDay := rfl
theorem em_235 : ab_mt 235 = some am_X11_needDay := rfl
theorem em_236 : ab_mt 236 = some am_X11_needDay := rfl
theorem em_237 : ab_mt 237 = some am_X11_needDay := rfl
theorem em_238 : ab_mt 238 = some am_X11_needDay := rfl
theorem em_239 : ab_mt 239 = some am_X11_needDay := rfl
theorem em_240 : ab_mt 240 = some am_X11_needDay := rfl
theorem em_241 : ab_mt 241 = some am_X11_needDay := rfl
theorem em_242 : ab_mt 242 = some am_X11_needDay := rfl
theorem em_243 : ab_mt 243 = some am_X11_needDay := rfl
theorem em_244 : ab_mt 244 = some am_X11_needDay := rfl
theorem em_245 : ab_mt 245 = some am_X11_needDay := rfl
theorem em_246 : ab_mt 246 = some am_X11_needDay := rfl
theorem em_247 : ab_mt 247 = some am_X11_needDay := rfl
theorem em_248 : ab_mt 248 = some am_X11_needDay := rfl
theorem em_249 : ab_mt 249 = some am_X11_needDay := rfl
theorem em_250 : ab_mt 250 = some am_X11_needDay := rfl
theorem em_251 : ab_mt 251 = some am_X11_needDay := rfl
theorem em_252 : ab_mt 252 = some am_X11_needDay := rfl
theorem em_253 : ab_mt 253 = some am_X11_needDay := rfl
theorem em_254 : ab_mt 254 = some am_X11_needDay := rfl
theorem em_255 : ab_mt 255 = some am_X11_needDay := rfl
theorem em_256 : ab_mt 256 = some am_X11_needDay := rfl
theorem em_257 : ab_mt 257 = some am_X11_needDay := rfl
theorem em_258 : ab_mt 258 = some am_X11_needDay := rfl
theorem em_259 : ab_mt 259 = some am_X11_needDay := rfl
theorem em_260 : ab_mt 260 = some am_X11_needDay := rfl
theorem em_261 : ab_mt 261 = some am_X11_needDay := rfl
theorem em_262 : ab_mt 262 = some am_X11_needDay := rfl
theorem em_263 : ab_mt 263 = some am_X11_needDay := rfl
theorem em_264 : ab_mt 264 = some am_X11_needDay := rfl
theorem em_265 : ab_mt 265 = some am_X11_needDay := rfl
theorem em_266 : ab_mt 266 = some am_X11_needDay := rfl
theorem em_267 : ab_mt 267 = some am_X11_needDay := rfl
theorem em_268 : ab_mt 268 = some am_X11_needDay := rfl
theorem em_269 : ab_mt 269 = some am_X11_needDay := rfl
theorem em_270 : ab_mt 270 = some am_X11_needDay := rfl
theorem em_271 : ab_mt 271 = some am_X11_needDay := rfl
theorem em_272 : ab_mt 272 = some am_X11_needDay := rfl
theorem em_273 : ab_mt 273 = some am_X11_needDay := rfl
theorem em_274 : ab_mt 274 = some am_X11_needDay := rfl
theorem em_275 : ab_mt 275 = some am_X11_needDay := rfl
theorem em_276 : ab_mt 276 = some am_X11_needDay := rfl
theorem em_277 : ab_mt 277 = some am_J6_bitCount_0f7a4 := rfl
theorem em_278 : ab_mt 278 = some am_J7_fill_53178 := rfl
theorem em_279 : ab_mt 279 = some am_J6_numberOfLeadingZeros_0f7a4 := rfl
theorem em_280 : ab_mt 280 = some am_X12_init := rfl
theorem em_281 : ab_mt 281 = some am_X12_slots := rfl
theorem em_282 : ab_mt 282 = some am_X12_covers := rfl
theorem em_283 : ab_mt 283 = some am_X12_last := rfl
theorem em_284 : ab_mt 284 = some am_X12_fits := rfl
theorem em_285 : ab_mt 285 = some am_X12_busy := rfl
theorem em_286 : ab_mt 286 = some am_X12_keeps := rfl
theorem em_287 : ab_mt 287 = some am_X12_isGround := rfl
theorem em_288 : ab_mt 288 = some am_X12_lists := rfl
theorem em_289 : ab_mt 289 = some am_X12_canKeep := rfl
theorem em_290 : ab_mt 290 = some am_X12_weight := rfl
theorem em_291 : ab_mt 291 = some am_X12_shares := rfl
theorem em_292 : ab_mt 292 = some am_L_next := rfl
theorem em_293 : ab_mt 293 = some am_L_begin := rfl
theorem em_294 : ab_mt 294 = some am_L_isTable := rfl
theorem em_295 : ab_mt 295 = some am_L_tables := rfl
theorem em_296 : ab_mt 296 = some am_L_cores := rfl
theorem em_297 : ab_mt 297 = some am_L_moves := rfl
theorem em_298 : ab_mt 298 = some am_L_exams := rfl
theorem em_299 : ab_mt 299 = some am_X8_fitsSome := rfl
theorem em_300 : ab_mt 300 = some am_L_law := rfl
variable {σ M τ : Nat → Nat → Nat} {R : ab_H} {ρ : Int32} {N : Nat} {Ts : List (Option Nat)} {B : Nat → Nat} {Q : ab_H}
theorem xq_0_100_special {i : _} {a0 : Nat} {a1 : Nat} {a2 : Nat} {a3 : Nat} (h8 : st8 st = true) : rt xs (d + 1) m hs (.invokespecial i, n, (0, 4, 100), [k]) [] (L, .ref a3 :: .ref a2 :: .ref a1 :: .ref a0 :: st, h) = aft xs (d + 1) m hs 100 k L st (ev xs d 0 0 ([.ref a0, .ref a1, .ref a2, .ref a3], [], h)) := ab_xq (as := [.ref a3, .ref a2, .ref a1, .ref a0]) em_0 rfl (by decide) rfl h8 (Or.inr (rcv_t (by decide)))
theorem xq_1_0_virtual {i : _} {a0 : Nat} (hr : cls h a0 = some 0) (h8 : st8 st = true) : rt xs (d + 1) m hs (.invokevirtual i, n, (1, 1, 0), [k]) [] (L, .ref a0 :: st, h) = aft xs (d + 1) m hs 0 k L st (ev xs d 1 0 ([.ref a0], [], h)) := ab_xq (as := [.ref a0]) em_1 rfl (by decide) rfl h8 (Or.inr (rcv_c hr rfl))
theorem xq_1_0_virtualc {i : _}  (h8 : st8 st = true) : rt xs (d + 1) m hs (.invokevirtual i, n, (1, 1, 0), [k]) [] (L, .ref 54 :: st, hc σ M R) = aft xs (d + 1) m hs 0 k L st (ev xs d 1 0 ([.ref 54], [], hc σ M R)) := xq_1_0_virtual rfl h8
theorem xq_2_0_virtual {i : _} {a0 : Nat} {a1 : Int32} (hr : cls h a0 = some 0) (h8 : st8 st = true) : rt xs (d + 1) m hs (.invokevirtual i, n, (2, 2, 0), [k]) [] (L, .int a1 :: .ref a0 :: st, h) = aft xs (d + 1) m hs 0 k L st (ev xs d 2 0 ([.ref a0, .int a1], [], h)) := ab_xq (as := [.int a1, .ref a0]) em_2 rfl (by decide) rfl h8 (Or.inr (rcv_c hr rfl))
theorem xq_2_0_virtualc {i : _} {a1 : Int32} (h8 : st8 st = true) : rt xs (d + 1) m hs (.invokevirtual i, n, (2, 2, 0), [k]) [] (L, .int a1 :: .ref 54 :: st, hc σ M R) = aft xs (d + 1) m hs 0 k L st (ev xs d 2 0 ([.ref 54, .int a1], [], hc σ M R)) := xq_2_0_virtual rfl h8
theorem xq_3_0_virtual {i : _} {a0 : Nat} (hr : cls h a0 = some 0) (h8 : st8 st = true) : rt xs (d + 1) m hs (.invokevirtual i, n, (3, 1, 0), [k]) [] (L, .ref a0 :: st, h) = aft xs (d + 1) m hs 0 k L st (ev xs d 3 0 ([.ref a0, .retAddr 9, .retAddr 9, .retAddr 9, .retAddr 9, .retAddr 9], [], h)) := ab_xq (as := [.ref a0]) em_3 rfl (by decide) rfl h8 (Or.inr (rcv_c hr rfl))
theorem xq_3_0_virtualc {i : _}  (h8 : st8 st = true) : rt xs (d + 1) m hs (.invokevirtual i, n, (3, 1, 0), [k]) [] (L, .ref 54 :: st, hc σ M R) = aft xs (d + 1) m hs 0 k L st (ev xs d 3 0 ([.ref 54, .retAddr 9, .retAddr 9, .retAddr 9, .retAddr 9, .retAddr 9], [], hc σ M R)) := xq_3_0_virtual rfl h8
theorem xq_4_0_virtual {i : _} {a0 : Nat} {a1 : Int32} {a2 : Int32} {a3 : Int32} (hr : cls h a0 = some 0) (h8 : st8 st = true) : rt xs (d + 1) m hs (.invokevirtual i, n, (4, 4, 0), [k]) [] (L, .int a3 :: .int a2 :: .int a1 :: .ref a0 :: st, h) = aft xs (d + 1) m hs 0 k L st (ev xs d 4 0 ([.ref a0, .int a1, .int a2, .int a3], [], h)) := ab_xq (as := [.int a3, .int a2, .int a1, .ref a0]) em_4 rfl (by decide) rfl h8 (Or.inr (rcv_c hr rfl))
theorem xq_4_0_virtualc {i : _} {a1 : Int32} {a2 : Int32} {a3 : Int32} (h8 : st8 st = true) : rt xs (d + 1) m hs (.invokevirtual i, n, (4, 4, 0), [k]) [] (L, .int a3 :: .int a2 :: .int a1 :: .ref 54 :: st, hc σ M R) = aft xs (d + 1) m hs 0 k L st (ev xs d 4 0 ([.ref 54, .int a1, .int a2, .int a3], [], hc σ M R)) := xq_4_0_virtual rfl h8
theorem xq_5_0_virtual {i : _} {a0 : Nat} {a1 : Int32} (hr : cls h a0 = some 0) (h8 : st8 st = true) : rt xs (d + 1) m hs (.invokevirtual i, n, (5, 2, 0), [k]) [] (L, .int a1 :: .ref a0 :: st, h) = aft xs (d + 1) m hs 0 k L st (ev xs d 5 0 ([.ref a0, .int a1, .retAddr 9, .retAddr 9], [], h)) := ab_xq (as := [.int a1, .ref a0]) em_5 rfl (by decide) rfl h8 (Or.inr (rcv_c hr rfl))
theorem xq_5_0_virtualc {i : _} {a1 : Int32} (h8 : st8 st = true) : rt xs (d + 1) m hs (.invokevirtual i, n, (5, 2, 0), [k]) [] (L, .int a1 :: .ref 54 :: st, hc σ M R) = aft xs (d + 1) m hs 0 k L st (ev xs d 5 0 ([.ref 54, .int a1, .retAddr 9, .retAddr 9], [], hc σ M R)) := xq_5_0_virtual rfl h8
theorem xq_6_0_virtual {i : _} {a0 : Nat} {a1 : Int32} (hr : cls h a0 = some 0) (h8 : st8 st = true) : rt xs (d + 1) m hs (.invokevirtual i, n, (6, 2, 0), [k]) [] (L, .int a1 :: .ref a0 :: st, h) = aft xs (d + 1) m hs 0 k L st (ev xs d 6 0 ([.ref a0, .int a1, .retAddr 9], [], h)) := ab_xq (as := [.int a1, .ref a0]) em_6 rfl (by decide) rfl h8 (Or.inr (rcv_c hr rfl))
theorem xq_6_0_virtualc {i : _} {a1 : Int32} (h8 : st8 st = true) : rt xs (d + 1) m hs (.invokevirtual i, n, (6, 2, 0), [k]) [] (L, .int a1 :: .ref 54 :: st, hc σ M R) = aft xs (d + 1) m hs 0 k L st (ev xs d 6 0 ([.ref 54, .int a1, .retAddr 9], [], hc σ M R)) := xq_6_0_virtual rfl h8
theorem xq_7_0_virtual {i : _} {a0 : Nat} (hr : cls h a0 = some 0) (h8 : st8 st = true) : rt xs (d + 1) m hs (.invokevirtual i, n, (7, 1, 0), [k]) [] (L, .ref a0 :: st, h) = aft xs (d + 1) m hs 0 k L st (ev xs d 7 0 ([.ref a0, .retAddr 9, .retAddr 9, .retAddr 9], [], h)) := ab_xq (as := [.ref a0]) em_7 rfl (by decide) rfl h8 (Or.inr (rcv_c hr rfl))
theorem xq_7_0_virtualc {i : _}  (h8 : st8 st = true) : rt xs (d + 1) m hs (.invokevirtual i, n, (7, 1, 0), [k]) [] (L, .ref 54 :: st, hc σ M R) = aft xs (d + 1) m hs 0 k L st (ev xs d 7 0 ([.ref 54, .retAddr 9, .retAddr 9, .retAddr 9], [], hc σ M R)) := xq_7_0_virtual rfl h8
theorem xq_8_100_special {i : _} {a0 : Nat} {a1 : Nat} (h8 : st8 st = true) : rt xs (d + 1) m hs (.invokespecial i, n, (8, 2, 100), [k]) [] (L, .ref a1 :: .ref a0 :: st, h) = aft xs (d + 1) m hs 100 k L st (ev xs d 8 0 ([.ref a0, .ref a1], [], h)) := ab_xq (as := [.ref a1, .ref a0]) em_8 rfl (by decide) rfl h8 (Or.inr (rcv_t (by decide)))
theorem xq_9_1_virtual {i : _} {a0 : Nat} {a1 : Int32} (hr : cls h a0 = some 1) (h8 : st8 st = true) : rt xs (d + 1) m hs (.invokevirtual i, n, (9, 2, 1), [k]) [] (L, .int a1 :: .ref a0 :: st, h) = aft xs (d + 1) m hs 1 k L st (ev xs d 9 0 ([.ref a0, .int a1, .retAddr 9], [], h)) := ab_xq (as := [.int a1, .ref a0]) em_9 rfl (by decide) rfl h8 (Or.inr (rcv_c hr rfl))
theorem xq_9_1_virtualc {i : _} {a1 : Int32} (h8 : st8 st = true) : rt xs (d + 1) m hs (.invokevirtual i, n, (9, 2, 1), [k]) [] (L, .int a1 :: .ref 52 :: st, hc σ M R) = aft xs (d + 1) m hs 1 k L st (ev xs d 9 0 ([.ref 52, .int a1, .retAddr 9], [], hc σ M R)) := xq_9_1_virtual rfl h8
theorem xq_10_1_virtual {i : _} {a0 : Nat} {a1 : Int32} {a2 : Int32} {a3 : Int32} (hr : cls h a0 = some 1) (h8 : st8 st = true) : rt xs (d + 1) m hs (.invokevirtual i, n, (10, 4, 1), [k]) [] (L, .int a3 :: .int a2 :: .int a1 :: .ref a0 :: st, h) = aft xs (d + 1) m hs 1 k L st (ev xs d 10 0 ([.ref a0, .int a1, .int a2, .int a3, .retAddr 9], [], h)) := ab_xq (as := [.int a3, .int a2, .int a1, .ref a0]) em_10 rfl (by decide) rfl h8 (Or.inr (rcv_c hr rfl))
theorem xq_10_1_virtualc {i : _} {a1 : Int32} {a2 : Int32} {a3 : Int32} (h8 : st8 st = true) : rt xs (d + 1) m hs (.invokevirtual i, n, (10, 4, 1), [k]) [] (L, .int a3 :: .int a2 :: .int a1 :: .ref 52 :: st, hc σ M R) = aft xs (d + 1) m hs 1 k L st (ev xs d 10 0 ([.ref 52, .int a1, .int a2, .int a3, .retAddr 9], [], hc σ M R)) := xq_10_1_virtual rfl h8
theorem xq_11_1_virtual {i : _} {a0 : Nat} {a1 : Int32} {a2 : Int32} {a3 : Int32} (hr : cls h a0 = some 1) (h8 : st8 st = true) : rt xs (d + 1) m hs (.invokevirtual i, n, (11, 4, 1), [k]) [] (L, .int a3 :: .int a2 :: .int a1 :: .ref a0 :: st, h) = aft xs (d + 1) m hs 1 k L st (ev xs d 11 0 ([.ref a0, .int a1, .int a2, .int a3, .retAddr 9], [], h)) := ab_xq (as := [.int a3, .int a2, .int a1, .ref a0]) em_11 rfl (by decide) rfl h8 (Or.inr (rcv_c hr rfl))
theorem xq_11_1_virtualc {i : _} {a1 : Int32} {a2 : Int32} {a3 : Int32} (h8 : st8 st = true) : rt xs (d + 1) m hs (.invokevirtual i, n, (11, 4, 1), [k]) [] (L, .int a3 :: .int a2 :: .int a1 :: .ref 52 :: st, hc σ M R) = aft xs (d + 1) m hs 1 k L st (ev xs d 11 0 ([.ref 52, .int a1, .int a2, .int a3, .retAddr 9], [], hc σ M R)) := xq_11_1_virtual rfl h8
theorem xq_12_100_special {i : _} {a0 : Nat} {a1 : Nat} (h8 : st8 st = true) : rt xs (d + 1) m hs (.invokespecial i, n, (12, 2, 100), [k]) [] (L, .ref a1 :: .ref a0 :: st, h) = aft xs (d + 1) m hs 100 k L st (ev xs d 12 0 ([.ref a0, .ref a1], [], h)) := ab_xq (as := [.ref a1, .ref a0]) em_12 rfl (by decide) rfl h8 (Or.inr (rcv_t (by decide)))
theorem xq_13_2_virtual {i : _} {a0 : Nat} {a1 : Nat} (hr : cls h a0 = some 2) (h8 : st8 st = true) : rt xs (d + 1) m hs (.invokevirtual i, n, (13, 2, 2), [k]) [] (L, .ref a1 :: .ref a0 :: st, h) = aft xs (d + 1) m hs 2 k L st (ev xs d 13 0 ([.ref a0, .ref a1, .retAddr 9, .retAddr 9, .retAddr 9], [], h)) := ab_xq (as := [.ref a1, .ref a0]) em_13 rfl (by decide) rfl h8 (Or.inr (rcv_c hr rfl))
theorem xq_13_2_virtualc {i : _} {a1 : Nat} (h8 : st8 st = true) : rt xs (d + 1) m hs (.invokevirtual i, n, (13, 2, 2), [k]) [] (L, .ref a1 :: .ref 18 :: st, hc σ M R) = aft xs (d + 1) m hs 2 k L st (ev xs d 13 0 ([.ref 18, .ref a1, .retAddr 9, .retAddr 9, .retAddr 9], [], hc σ M R)) := xq_13_2_virtual rfl h8
theorem xq_14_2_virtual {i : _} {a0 : Nat} {a1 : Nat} {a2 : Int32} {a3 : Int32} (hr : cls h a0 = some 2) (h8 : st8 st = true) : rt xs (d + 1) m hs (.invokevirtual i, n, (14, 4, 2), [k]) [] (L, .int a3 :: .int a2 :: .ref a1 :: .ref a0 :: st, h) = aft xs (d + 1) m hs 2 k L st (ev xs d 14 0 ([.ref a0, .ref a1, .int a2, .int a3], [], h)) := ab_xq (as := [.int a3, .int a2, .ref a1, .ref a0]) em_14 rfl (by decide) rfl h8 (Or.inr (rcv_c hr rfl))
theorem xq_14_2_virtualc {i : _} {a1 : Nat} {a2 : Int32} {a3 : Int32} (h8 : st8 st = true) : rt xs (d + 1) m hs (.invokevirtual i, n, (14, 4, 2), [k]) [] (L, .int a3 :: .int a2 :: .ref a1 :: .ref 18 :: st, hc σ M R) = aft xs (d + 1) m hs 2 k L st (ev xs d 14 0 ([.ref 18, .ref a1, .int a2, .int a3], [], hc σ M R)) := xq_14_2_virtual rfl h8
theorem xq_15_2_virtual {i : _} {a0 : Nat} {a1 : Nat} (hr : cls h a0 = some 2) (h8 : st8 st = true) : rt xs (d + 1) m hs (.invokevirtual i, n, (15, 2, 2), [k]) [] (L, .ref a1 :: .ref a0 :: st, h) = aft xs (d + 1) m hs 2 k L st (ev xs d 15 0 ([.ref a0, .ref a1, .retAddr 9, .retAddr 9, .retAddr 9, .retAddr 9, .retAddr 9], [], h)) := ab_xq (as := [.ref a1, .ref a0]) em_15 rfl (by decide) rfl h8 (Or.inr (rcv_c hr rfl))
theorem xq_15_2_virtualc {i : _} {a1 : Nat} (h8 : st8 st = true) : rt xs (d + 1) m hs (.invokevirtual i, n, (15, 2, 2), [k]) [] (L, .ref a1 :: .ref 18 :: st, hc σ M R) = aft xs (d + 1) m hs 2 k L st (ev xs d 15 0 ([.ref 18, .ref a1, .retAddr 9, .retAddr 9, .retAddr 9, .retAddr 9, .retAddr 9], [], hc σ M R)) := xq_15_2_virtual rfl h8
theorem xq_16_2_virtual {i : _} {a0 : Nat} {a1 : Nat} (hr : cls h a0 = some 2) (h8 : st8 st = true) : rt xs (d + 1) m hs (.invokevirtual i, n, (16, 2, 2), [k]) [] (L, .ref a1 :: .ref a0 :: st, h) = aft xs (d + 1) m hs 2 k L st (ev xs d 16 0 ([.ref a0, .ref a1], [], h)) := ab_xq (as := [.ref a1, .ref a0]) em_16 rfl (by decide) rfl h8 (Or.inr (rcv_c hr rfl))
theorem xq_16_2_virtualc {i : _} {a1 : Nat} (h8 : st8 st = true) : rt xs (d + 1) m hs (.invokevirtual i, n, (16, 2, 2), [k]) [] (L, .ref a1 :: .ref 18 :: st, hc σ M R) = aft xs (d + 1) m hs 2 k L st (ev xs d 16 0 ([.ref 18, .ref a1], [], hc σ M R)) := xq_16_2_virtual rfl h8
theorem xq_17_2_virtual {i : _} {a0 : Nat} {a1 : Nat} {a2 : Int32} (hr : cls h a0 = some 2) (h8 : st8 st = true) : rt xs (d + 1) m hs (.invokevirtual i, n, (17, 3, 2), [k]) [] (L, .int a2 :: .ref a1 :: .ref a0 :: st, h) = aft xs (d + 1) m hs 2 k L st (ev xs d 17 0 ([.ref a0, .ref a1, .int a2, .retAddr 9, .retAddr 9], [], h)) := ab_xq (as := [.int a2, .ref a1, .ref a0]) em_17 rfl (by decide) rfl h8 (Or.inr (rcv_c hr rfl))
theorem xq_17_2_virtualc {i : _} {a1 : Nat} {a2 : Int32} (h8 : st8 st = true) : rt xs (d + 1) m hs (.invokevirtual i, n, (17, 3, 2), [k]) [] (L, .int a2 :: .ref a1 :: .ref 18 :: st, hc σ M R) = aft xs (d + 1) m hs 2 k L st (ev xs d 17 0 ([.ref 18, .ref a1, .int a2, .retAddr 9, .retAddr 9], [], hc σ M R)) := xq_17_2_virtual rfl h8
theorem xq_19_2_virtual {i : _} {a0 : Nat} {a1 : Nat} {a2 : Int32} (hr : cls h a0 = some 2) (h8 : st8 st = true) : rt xs (d + 1) m hs (.invokevirtual i, n, (19, 3, 2), [k]) [] (L, .int a2 :: .ref a1 :: .ref a0 :: st, h) = aft xs (d + 1) m hs 2 k L st (ev xs d 19 0 ([.ref a0, .ref a1, .int a2, .retAddr 9, .retAddr 9, .retAddr 9], [], h)) := ab_xq (as := [.int a2, .ref a1, .ref a0]) em_19 rfl (by decide) rfl h8 (Or.inr (rcv_c hr rfl))
theorem xq_19_2_virtualc {i : _} {a1 : Nat} {a2 : Int32} (h8 : st8 st = true) : rt xs (d + 1) m hs (.invokevirtual i, n, (19, 3, 2), [k]) [] (L, .int a2 :: .ref a1 :: .ref 18 :: st, hc σ M R) = aft xs (d + 1) m hs 2 k L st (ev xs d 19 0 ([.ref 18, .ref a1, .int a2, .retAddr 9, .retAddr 9, .retAddr 9], [], hc σ M R)) := xq_19_2_virtual rfl h8
theorem xq_20_2_virtual {i : _} {a0 : Nat} {a1 : Nat} {a2 : Int32} (hr : cls h a0 = some 2) (h8 : st8 st = true) : rt xs (d + 1) m hs (.invokevirtual i, n, (20, 3, 2), [k]) [] (L, .int a2 :: .ref a1 :: .ref a0 :: st, h) = aft xs (d + 1) m hs 2 k L st (ev xs d 20 0 ([.ref a0, .ref a1, .int a2, .retAddr 9, .retAddr 9], [], h)) := ab_xq (as := [.int a2, .ref a1, .ref a0]) em_20 rfl (by decide) rfl h8 (Or.inr (rcv_c hr rfl))
theorem xq_20_2_virtualc {i : _} {a1 : Nat} {a2 : Int32} (h8 : st8 st = true) : rt xs (d + 1) m hs (.invokevirtual i, n, (20, 3, 2), [k]) [] (L, .int a2 :: .ref a1 :: .ref 18 :: st, hc σ M R) = aft xs (d + 1) m hs 2 k L st (ev xs d 20 0 ([.ref 18, .ref a1, .int a2, .retAddr 9, .retAddr 9], [], hc σ M R)) := xq_20_2_virtual rfl h8
theorem xq_22_2_virtual {i : _} {a0 : Nat} {a1 : Nat} (hr : cls h a0 = some 2) (h8 : st8 st = true) : rt xs (d + 1) m hs (.invokevirtual i, n, (22, 2, 2), [k]) [] (L, .ref a1 :: .ref a0 :: st, h) = aft xs (d + 1) m hs 2 k L st (ev xs d 22 0 ([.ref a0, .ref a1, .retAddr 9, .retAddr 9], [], h)) := ab_xq (as := [.ref a1, .ref a0]) em_22 rfl (by decide) rfl h8 (Or.inr (rcv_c hr rfl))
theorem xq_22_2_virtualc {i : _} {a1 : Nat} (h8 : st8 st = true) : rt xs (d + 1) m hs (.invokevirtual i, n, (22, 2, 2), [k]) [] (L, .ref a1 :: .ref 18 :: st, hc σ M R) = aft xs (d + 1) m hs 2 k L st (ev xs d 22 0 ([.ref 18, .ref a1, .retAddr 9, .retAddr 9], [], hc σ M R)) := xq_22_2_virtual rfl h8
theorem xq_23_2_virtual {i : _} {a0 : Nat} {a1 : Int32} (hr : cls h a0 = some 2) (h8 : st8 st = true) : rt xs (d + 1) m hs (.invokevirtual i, n, (23, 2, 2), [k]) [] (L, .int a1 :: .ref a0 :: st, h) = aft xs (d + 1) m hs 2 k L st (ev xs d 23 0 ([.ref a0, .int a1, .retAddr 9, .retAddr 9], [], h)) := ab_xq (as := [.int a1, .ref a0]) em_23 rfl (by decide) rfl h8 (Or.inr (rcv_c hr rfl))
theorem xq_23_2_virtualc {i : _} {a1 : Int32} (h8 : st8 st = true) : rt xs (d + 1) m hs (.invokevirtual i, n, (23, 2, 2), [k]) [] (L, .int a1 :: .ref 18 :: st, hc σ M R) = aft xs (d + 1) m hs 2 k L st (ev xs d 23 0 ([.ref 18, .int a1, .retAddr 9, .retAddr 9], [], hc σ M R)) := xq_23_2_virtual rfl h8
theorem xq_25_100_special {i : _} {a0 : Nat} {a1 : Nat} (h8 : st8 st = true) : rt xs (d + 1) m hs (.invokespecial i, n, (25, 2, 100), [k]) [] (L, .ref a1 :: .ref a0 :: st, h) = aft xs (d + 1) m hs 100 k L st (ev xs d 25 0 ([.ref a0, .ref a1], [], h)) := ab_xq (as := [.ref a1, .ref a0]) em_25 rfl (by decide) rfl h8 (Or.inr (rcv_t (by decide)))
theorem xq_26_3_virtual {i : _} {a0 : Nat} {a1 : Int32} (hr : cls h a0 = some 3) (h8 : st8 st = true) : rt xs (d + 1) m hs (.invokevirtual i, n, (26, 2, 3), [k]) [] (L, .int a1 :: .ref a0 :: st, h) = aft xs (d + 1) m hs 3 k L st (ev xs d 26 0 ([.ref a0, .int a1, .retAddr 9, .retAddr 9], [], h)) := ab_xq (as := [.int a1, .ref a0]) em_26 rfl (by decide) rfl h8 (Or.inr (rcv_c hr rfl))
theorem xq_26_3_virtualc {i : _} {a1 : Int32} (h8 : st8 st = true) : rt xs (d + 1) m hs (.invokevirtual i, n, (26, 2, 3), [k]) [] (L, .int a1 :: .ref 19 :: st, hc σ M R) = aft xs (d + 1) m hs 3 k L st (ev xs d 26 0 ([.ref 19, .int a1, .retAddr 9, .retAddr 9], [], hc σ M R)) := xq_26_3_virtual rfl h8
theorem xq_27_200_static {i : _} {a0 : Int32} {a1 : Int32} {a2 : Int32} (h8 : st8 st = true) : rt xs (d + 1) m hs (.invokestatic i, n, (27, 3, 200), [k]) [] (L, .int a2 :: .int a1 :: .int a0 :: st, h) = aft xs (d + 1) m hs 200 k L st (ev xs d 27 0 ([.int a0, .int a1, .int a2], [], h)) := ab_xq (as := [.int a2, .int a1, .int a0]) em_27 rfl (by decide) rfl h8 (Or.inl (by decide))
theorem xq_28_200_static {i : _} {a0 : Int32} {a1 : Int32} {a2 : Int32} (h8 : st8 st = true) : rt xs (d + 1) m hs (.invokestatic i, n, (28, 3, 200), [k]) [] (L, .int a2 :: .int a1 :: .int a0 :: st, h) = aft xs (d + 1) m hs 200 k L st (ev xs d 28 0 ([.int a0, .int a1, .int a2], [], h)) := ab_xq (as := [.int a2, .int a1, .int a0]) em_28 rfl (by decide) rfl h8 (Or.inl (by decide))
theorem xq_29_3_virtual {i : _} {a0 : Nat} (hr : cls h a0 = some 3) (h8 : st8 st = true) : rt xs (d + 1) m hs (.invokevirtual i, n, (29, 1, 3), [k]) [] (L, .ref a0 :: st, h) = aft xs (d + 1) m hs 3 k L st (ev xs d 29 0 ([.ref a0, .retAddr 9, .retAddr 9, .retAddr 9], [], h)) := ab_xq (as := [.ref a0]) em_29 rfl (by decide) rfl h8 (Or.inr (rcv_c hr rfl))
theorem xq_29_3_virtualc {i : _}  (h8 : st8 st = true) : rt xs (d + 1) m hs (.invokevirtual i, n, (29, 1, 3), [k]) [] (L, .ref 19 :: st, hc σ M R) = aft xs (d + 1) m hs 3 k L st (ev xs d 29 0 ([.ref 19, .retAddr 9, .retAddr 9, .retAddr 9], [], hc σ M R)) := xq_29_3_virtual rfl h8
theorem xq_30_3_virtual {i : _} {a0 : Nat} {a1 : Int32} {a2 : Int32} {a3 : Int32} (hr : cls h a0 = some 3) (h8 : st8 st = true) : rt xs (d + 1) m hs (.invokevirtual i, n, (30, 4, 3), [k]) [] (L, .int a3 :: .int a2 :: .int a1 :: .ref a0 :: st, h) = aft xs (d + 1) m hs 3 k L st (ev xs d 30 0 ([.ref a0, .int a1, .int a2, .int a3, .retAddr 9, .retAddr 9], [], h)) := ab_xq (as := [.int a3, .int a2, .int a1, .ref a0]) em_30 rfl (by decide) rfl h8 (Or.inr (rcv_c hr rfl))
theorem xq_30_3_virtualc {i : _} {a1 : Int32} {a2 : Int32} {a3 : Int32} (h8 : st8 st = true) : rt xs (d + 1) m hs (.invokevirtual i, n, (30, 4, 3), [k]) [] (L, .int a3 :: .int a2 :: .int a1 :: .ref 19 :: st, hc σ M R) = aft xs (d + 1) m hs 3 k L st (ev xs d 30 0 ([.ref 19, .int a1, .int a2, .int a3, .retAddr 9, .retAddr 9], [], hc σ M R)) := xq_30_3_virtual rfl h8
theorem xq_31_3_virtual {i : _} {a0 : Nat} {a1 : Int32} (hr : cls h a0 = some 3) (h8 : st8 st = true) : rt xs (d + 1) m hs (.invokevirtual i, n, (31, 2, 3), [k]) [] (L, .int a1 :: .ref a0 :: st, h) = aft xs (d + 1) m hs 3 k L st (ev xs d 31 0 ([.ref a0, .int a1, .retAddr 9, .retAddr 9, .retAddr 9], [], h)) := ab_xq (as := [.int a1, .ref a0]) em_31 rfl (by decide) rfl h8 (Or.inr (rcv_c hr rfl))
theorem xq_31_3_virtualc {i : _} {a1 : Int32} (h8 : st8 st = true) : rt xs (d + 1) m hs (.invokevirtual i, n, (31, 2, 3), [k]) [] (L, .int a1 :: .ref 19 :: st, hc σ M R) = aft xs (d + 1) m hs 3 k L st (ev xs d 31 0 ([.ref 19, .int a1, .retAddr 9, .retAddr 9, .retAddr 9], [], hc σ M R)) := xq_31_3_virtual rfl h8
theorem xq_32_3_virtual {i : _} {a0 : Nat} {a1 : Int32} (hr : cls h a0 = some 3) (h8 : st8 st = true) : rt xs (d + 1) m hs (.invokevirtual i, n, (32, 2, 3), [k]) [] (L, .int a1 :: .ref a0 :: st, h) = aft xs (d + 1) m hs 3 k L st (ev xs d 32 0 ([.ref a0, .int a1, .retAddr 9, .retAddr 9], [], h)) := ab_xq (as := [.int a1, .ref a0]) em_32 rfl (by decide) rfl h8 (Or.inr (rcv_c hr rfl))
theorem xq_32_3_virtualc {i : _} {a1 : Int32} (h8 : st8 st = true) : rt xs (d + 1) m hs (.invokevirtual i, n, (32, 2, 3), [k]) [] (L, .int a1 :: .ref 19 :: st, hc σ M R) = aft xs (d + 1) m hs 3 k L st (ev xs d 32 0 ([.ref 19, .int a1, .retAddr 9, .retAddr 9], [], hc σ M R)) := xq_32_3_virtual rfl h8
theorem xq_33_3_virtual {i : _} {a0 : Nat} {a1 : Int32} {a2 : Int32} {a3 : Int32} (hr : cls h a0 = some 3) (h8 : st8 st = true) : rt xs (d + 1) m hs (.invokevirtual i, n, (33, 4, 3), [k]) [] (L, .int a3 :: .int a2 :: .int a1 :: .ref a0 :: st, h) = aft xs (d + 1) m hs 3 k L st (ev xs d 33 0 ([.ref a0, .int a1, .int a2, .int a3, .retAddr 9, .retAddr 9], [], h)) := ab_xq (as := [.int a3, .int a2, .int a1, .ref a0]) em_33 rfl (by decide) rfl h8 (Or.inr (rcv_c hr rfl))
theorem xq_33_3_virtualc {i : _} {a1 : Int32} {a2 : Int32} {a3 : Int32} (h8 : st8 st = true) : rt xs (d + 1) m hs (.invokevirtual i, n, (33, 4, 3), [k]) [] (L, .int a3 :: .int a2 :: .int a1 :: .ref 19 :: st, hc σ M R) = aft xs (d + 1) m hs 3 k L st (ev xs d 33 0 ([.ref 19, .int a1, .int a2, .int a3, .retAddr 9, .retAddr 9], [], hc σ M R)) := xq_33_3_virtual rfl h8
theorem xq_34_3_virtual {i : _} {a0 : Nat} {a1 : Int32} {a2 : Int32} (hr : cls h a0 = some 3) (h8 : st8 st = true) : rt xs (d + 1) m hs (.invokevirtual i, n, (34, 3, 3), [k]) [] (L, .int a2 :: .int a1 :: .ref a0 :: st, h) = aft xs (d + 1) m hs 3 k L st (ev xs d 34 0 ([.ref a0, .int a1, .int a2, .retAddr 9, .retAddr 9], [], h)) := ab_xq (as := [.int a2, .int a1, .ref a0]) em_34 rfl (by decide) rfl h8 (Or.inr (rcv_c hr rfl))
theorem xq_34_3_virtualc {i : _} {a1 : Int32} {a2 : Int32} (h8 : st8 st = true) : rt xs (d + 1) m hs (.invokevirtual i, n, (34, 3, 3), [k]) [] (L, .int a2 :: .int a1 :: .ref 19 :: st, hc σ M R) = aft xs (d + 1) m hs 3 k L st (ev xs d 34 0 ([.ref 19, .int a1, .int a2, .retAddr 9, .retAddr 9], [], hc σ M R)) := xq_34_3_virtual rfl h8
theorem xq_35_3_virtual {i : _} {a0 : Nat} (hr : cls h a0 = some 3) (h8 : st8 st = true) : rt xs (d + 1) m hs (.invokevirtual i, n, (35, 1, 3), [k]) [] (L, .ref a0 :: st, h) = aft xs (d + 1) m hs 3 k L st (ev xs d 35 0 ([.ref a0, .retAddr 9, .retAddr 9, .retAddr 9], [], h)) := ab_xq (as := [.ref a0]) em_35 rfl (by decide) rfl h8 (Or.inr (rcv_c hr rfl))
theorem xq_35_3_virtualc {i : _}  (h8 : st8 st = true) : rt xs (d + 1) m hs (.invokevirtual i, n, (35, 1, 3), [k]) [] (L, .ref 19 :: st, hc σ M R) = aft xs (d + 1) m hs 3 k L st (ev xs d 35 0 ([.ref 19, .retAddr 9, .retAddr 9, .retAddr 9], [], hc σ M R)) := xq_35_3_virtual rfl h8
theorem xq_36_3_virtual {i : _} {a0 : Nat} {a1 : Int32} {a2 : Int32} (hr : cls h a0 = some 3) (h8 : st8 st = true) : rt xs (d + 1) m hs (.invokevirtual i, n, (36, 3, 3), [k]) [] (L, .int a2 :: .int a1 :: .ref a0 :: st, h) = aft xs (d + 1) m hs 3 k L st (ev xs d 36 0 ([.ref a0, .int a1, .int a2, .retAddr 9], [], h)) := ab_xq (as := [.int a2, .int a1, .ref a0]) em_36 rfl (by decide) rfl h8 (Or.inr (rcv_c hr rfl))
theorem xq_36_3_virtualc {i : _} {a1 : Int32} {a2 : Int32} (h8 : st8 st = true) : rt xs (d + 1) m hs (.invokevirtual i, n, (36, 3, 3), [k]) [] (L, .int a2 :: .int a1 :: .ref 19 :: st, hc σ M R) = aft xs (d + 1) m hs 3 k L st (ev xs d 36 0 ([.ref 19, .int a1, .int a2, .retAddr 9], [], hc σ M R)) := xq_36_3_virtual rfl h8
theorem xq_37_3_virtual {i : _} {a0 : Nat} {a1 : Int32} {a2 : Int32} (hr : cls h a0 = some 3) (h8 : st8 st = true) : rt xs (d + 1) m hs (.invokevirtual i, n, (37, 3, 3), [k]) [] (L, .int a2 :: .int a1 :: .ref a0 :: st, h) = aft xs (d + 1) m hs 3 k L st (ev xs d 37 0 ([.ref a0, .int a1, .int a2, .retAddr 9], [], h)) := ab_xq (as := [.int a2, .int a1, .ref a0]) em_37 rfl (by decide) rfl h8 (Or.inr (rcv_c hr rfl))
theorem xq_37_3_virtualc {i : _} {a1 : Int32} {a2 : Int32} (h8 : st8 st = true) : rt xs (d + 1) m hs (.invokevirtual i, n, (37, 3, 3), [k]) [] (L, .int a2 :: .int a1 :: .ref 19 :: st, hc σ M R) = aft xs (d + 1) m hs 3 k L st (ev xs d 37 0 ([.ref 19, .int a1, .int a2, .retAddr 9], [], hc σ M R)) := xq_37_3_virtual rfl h8
theorem xq_38_3_virtual {i : _} {a0 : Nat} {a1 : Int32} {a2 : Int32} (hr : cls h a0 = some 3) (h8 : st8 st = true) : rt xs (d + 1) m hs (.invokevirtual i, n, (38, 3, 3), [k]) [] (L, .int a2 :: .int a1 :: .ref a0 :: st, h) = aft xs (d + 1) m hs 3 k L st (ev xs d 38 0 ([.ref a0, .int a1, .int a2, .retAddr 9], [], h)) := ab_xq (as := [.int a2, .int a1, .ref a0]) em_38 rfl (by decide) rfl h8 (Or.inr (rcv_c hr rfl))
theorem xq_38_3_virtualc {i : _} {a1 : Int32} {a2 : Int32} (h8 : st8 st = true) : rt xs (d + 1) m hs (.invokevirtual i, n, (38, 3, 3), [k]) [] (L, .int a2 :: .int a1 :: .ref 19 :: st, hc σ M R) = aft xs (d + 1) m hs 3 k L st (ev xs d 38 0 ([.ref 19, .int a1, .int a2, .retAddr 9], [], hc σ M R)) := xq_38_3_virtual rfl h8
theorem xq_39_3_virtual {i : _} {a0 : Nat} {a1 : Int32} {a2 : Int32} {a3 : Int32} (hr : cls h a0 = some 3) (h8 : st8 st = true) : rt xs (d + 1) m hs (.invokevirtual i, n, (39, 4, 3), [k]) [] (L, .int a3 :: .int a2 :: .int a1 :: .ref a0 :: st, h) = aft xs (d + 1) m hs 3 k L st (ev xs d 39 0 ([.ref a0, .int a1, .int a2, .int a3], [], h)) := ab_xq (as := [.int a3, .int a2, .int a1, .ref a0]) em_39 rfl (by decide) rfl h8 (Or.inr (rcv_c hr rfl))
theorem xq_39_3_virtualc {i : _} {a1 : Int32} {a2 : Int32} {a3 : Int32} (h8 : st8 st = true) : rt xs (d + 1) m hs (.invokevirtual i, n, (39, 4, 3), [k]) [] (L, .int a3 :: .int a2 :: .int a1 :: .ref 19 :: st, hc σ M R) = aft xs (d + 1) m hs 3 k L st (ev xs d 39 0 ([.ref 19, .int a1, .int a2, .int a3], [], hc σ M R)) := xq_39_3_virtual rfl h8
theorem xq_40_3_virtual {i : _} {a0 : Nat} (hr : cls h a0 = some 3) (h8 : st8 st = true) : rt xs (d + 1) m hs (.invokevirtual i, n, (40, 1, 3), [k]) [] (L, .ref a0 :: st, h) = aft xs (d + 1) m hs 3 k L st (ev xs d 40 0 ([.ref a0, .retAddr 9, .retAddr 9, .retAddr 9], [], h)) := ab_xq (as := [.ref a0]) em_40 rfl (by decide) rfl h8 (Or.inr (rcv_c hr rfl))
theorem xq_40_3_virtualc {i : _}  (h8 : st8 st = true) : rt xs (d + 1) m hs (.invokevirtual i, n, (40, 1, 3), [k]) [] (L, .ref 19 :: st, hc σ M R) = aft xs (d + 1) m hs 3 k L st (ev xs d 40 0 ([.ref 19, .retAddr 9, .retAddr 9, .retAddr 9], [], hc σ M R)) := xq_40_3_virtual rfl h8
theorem xq_41_3_virtual {i : _} {a0 : Nat} {a1 : Nat} (hr : cls h a0 = some 3) (h8 : st8 st = true) : rt xs (d + 1) m hs (.invokevirtual i, n, (41, 2, 3), [k]) [] (L, .ref a1 :: .ref a0 :: st, h) = aft xs (d + 1) m hs 3 k L st (ev xs d 41 0 ([.ref a0, .ref a1, .retAddr 9, .retAddr 9, .retAddr 9, .retAddr 9], [], h)) := ab_xq (as := [.ref a1, .ref a0]) em_41 rfl (by decide) rfl h8 (Or.inr (rcv_c hr rfl))
theorem xq_41_3_virtualc {i : _} {a1 : Nat} (h8 : st8 st = true) : rt xs (d + 1) m hs (.invokevirtual i, n, (41, 2, 3), [k]) [] (L, .ref a1 :: .ref 19 :: st, hc σ M R) = aft xs (d + 1) m hs 3 k L st (ev xs d 41 0 ([.ref 19, .ref a1, .retAddr 9, .retAddr 9, .retAddr 9, .retAddr 9], [], hc σ M R)) := xq_41_3_virtual rfl h8
theorem xq_42_3_virtual {i : _} {a0 : Nat} (hr : cls h a0 = some 3) (h8 : st8 st = true) : rt xs (d + 1) m hs (.invokevirtual i, n, (42, 1, 3), [k]) [] (L, .ref a0 :: st, h) = aft xs (d + 1) m hs 3 k L st (ev xs d 42 0 ([.ref a0], [], h)) := ab_xq (as := [.ref a0]) em_42 rfl (by decide) rfl h8 (Or.inr (rcv_c hr rfl))
theorem xq_42_3_virtualc {i : _}  (h8 : st8 st = true) : rt xs (d + 1) m hs (.invokevirtual i, n, (42, 1, 3), [k]) [] (L, .ref 19 :: st, hc σ M R) = aft xs (d + 1) m hs 3 k L st (ev xs d 42 0 ([.ref 19], [], hc σ M R)) := xq_42_3_virtual rfl h8
theorem xq_43_3_virtual {i : _} {a0 : Nat} {a1 : Int32} (hr : cls h a0 = some 3) (h8 : st8 st = true) : rt xs (d + 1) m hs (.invokevirtual i, n, (43, 2, 3), [k]) [] (L, .int a1 :: .ref a0 :: st, h) = aft xs (d + 1) m hs 3 k L st (ev xs d 43 0 ([.ref a0, .int a1, .retAddr 9, .retAddr 9, .retAddr 9], [], h)) := ab_xq (as := [.int a1, .ref a0]) em_43 rfl (by decide) rfl h8 (Or.inr (rcv_c hr rfl))
theorem xq_43_3_virtualc {i : _} {a1 : Int32} (h8 : st8 st = true) : rt xs (d + 1) m hs (.invokevirtual i, n, (43, 2, 3), [k]) [] (L, .int a1 :: .ref 19 :: st, hc σ M R) = aft xs (d + 1) m hs 3 k L st (ev xs d 43 0 ([.ref 19, .int a1, .retAddr 9, .retAddr 9, .retAddr 9], [], hc σ M R)) := xq_43_3_virtual rfl h8
theorem xq_44_100_special {i : _} {a0 : Nat} {a1 : Nat} {a2 : Nat} (h8 : st8 st = true) : rt xs (d + 1) m hs (.invokespecial i, n, (44, 3, 100), [k]) [] (L, .ref a2 :: .ref a1 :: .ref a0 :: st, h) = aft xs (d + 1) m hs 100 k L st (ev xs d 44 0 ([.ref a0, .ref a1, .ref a2], [], h)) := ab_xq (as := [.ref a2, .ref a1, .ref a0]) em_44 rfl (by decide) rfl h8 (Or.inr (rcv_t (by decide)))
theorem xq_45_4_virtual {i : _} {a0 : Nat} {a1 : Nat} (hr : cls h a0 = some 4) (h8 : st8 st = true) : rt xs (d + 1) m hs (.invokevirtual i, n, (45, 2, 4), [k]) [] (L, .ref a1 :: .ref a0 :: st, h) = aft xs (d + 1) m hs 4 k L st (ev xs d 45 0 ([.ref a0, .ref a1, .retAddr 9, .retAddr 9, .retAddr 9], [], h)) := ab_xq (as := [.ref a1, .ref a0]) em_45 rfl (by decide) rfl h8 (Or.inr (rcv_c hr rfl))
theorem xq_45_4_virtualc {i : _} {a1 : Nat} (h8 : st8 st = true) : rt xs (d + 1) m hs (.invokevirtual i, n, (45, 2, 4), [k]) [] (L, .ref a1 :: .ref 44 :: st, hc σ M R) = aft xs (d + 1) m hs 4 k L st (ev xs d 45 0 ([.ref 44, .ref a1, .retAddr 9, .retAddr 9, .retAddr 9], [], hc σ M R)) := xq_45_4_virtual rfl h8
theorem xq_46_4_virtual {i : _} {a0 : Nat} {a1 : Nat} {a2 : Int32} {a3 : Int32} (hr : cls h a0 = some 4) (h8 : st8 st = true) : rt xs (d + 1) m hs (.invokevirtual i, n, (46, 4, 4), [k]) [] (L, .int a3 :: .int a2 :: .ref a1 :: .ref a0 :: st, h) = aft xs (d + 1) m hs 4 k L st (ev xs d 46 0 ([.ref a0, .ref a1, .int a2, .int a3, .retAddr 9], [], h)) := ab_xq (as := [.int a3, .int a2, .ref a1, .ref a0]) em_46 rfl (by decide) rfl h8 (Or.inr (rcv_c hr rfl))
theorem xq_46_4_virtualc {i : _} {a1 : Nat} {a2 : Int32} {a3 : Int32} (h8 : st8 st = true) : rt xs (d + 1) m hs (.invokevirtual i, n, (46, 4, 4), [k]) [] (L, .int a3 :: .int a2 :: .ref a1 :: .ref 44 :: st, hc σ M R) = aft xs (d + 1) m hs 4 k L st (ev xs d 46 0 ([.ref 44, .ref a1, .int a2, .int a3, .retAddr 9], [], hc σ M R)) := xq_46_4_virtual rfl h8
theorem xq_47_4_virtual {i : _} {a0 : Nat} {a1 : Int32} {a2 : Int32} (hr : cls h a0 = some 4) (h8 : st8 st = true) : rt xs (d + 1) m hs (.invokevirtual i, n, (47, 3, 4), [k]) [] (L, .int a2 :: .int a1 :: .ref a0 :: st, h) = aft xs (d + 1) m hs 4 k L st (ev xs d 47 0 ([.ref a0, .int a1, .int a2, .retAddr 9], [], h)) := ab_xq (as := [.int a2, .int a1, .ref a0]) em_47 rfl (by decide) rfl h8 (Or.inr (rcv_c hr rfl))
theorem xq_47_4_virtualc {i : _} {a1 : Int32} {a2 : Int32} (h8 : st8 st = true) : rt xs (d + 1) m hs (.invokevirtual i, n, (47, 3, 4), [k]) [] (L, .int a2 :: .int a1 :: .ref 44 :: st, hc σ M R) = aft xs (d + 1) m hs 4 k L st (ev xs d 47 0 ([.ref 44, .int a1, .int a2, .retAddr 9], [], hc σ M R)) := xq_47_4_virtual rfl h8
theorem xq_48_4_virtual {i : _} {a0 : Nat} {a1 : Nat} {a2 : Int32} (hr : cls h a0 = some 4) (h8 : st8 st = true) : rt xs (d + 1) m hs (.invokevirtual i, n, (48, 3, 4), [k]) [] (L, .int a2 :: .ref a1 :: .ref a0 :: st, h) = aft xs (d + 1) m hs 4 k L st (ev xs d 48 0 ([.ref a0, .ref a1, .int a2, .retAddr 9, .retAddr 9], [], h)) := ab_xq (as := [.int a2, .ref a1, .ref a0]) em_48 rfl (by decide) rfl h8 (Or.inr (rcv_c hr rfl))
theorem xq_48_4_virtualc {i : _} {a1 : Nat} {a2 : Int32} (h8 : st8 st = true) : rt xs (d + 1) m hs (.invokevirtual i, n, (48, 3, 4), [k]) [] (L, .int a2 :: .ref a1 :: .ref 44 :: st, hc σ M R) = aft xs (d + 1) m hs 4 k L st (ev xs d 48 0 ([.ref 44, .ref a1, .int a2, .retAddr 9, .retAddr 9], [], hc σ M R)) := xq_48_4_virtual rfl h8
theorem xq_49_100_special {i : _} {a0 : Nat} {a1 : Nat} {a2 : Nat} {a3 : Nat} {a4 : Nat} (h8 : st8 st = true) : rt xs (d + 1) m hs (.invokespecial i, n, (49, 5, 100), [k]) [] (L, .ref a4 :: .ref a3 :: .ref a2 :: .ref a1 :: .ref a0 :: st, h) = aft xs (d + 1) m hs 100 k L st (ev xs d 49 0 ([.ref a0, .ref a1, .ref a2, .ref a3, .ref a4], [], h)) := ab_xq (as := [.ref a4, .ref a3, .ref a2, .ref a1, .ref a0]) em_49 rfl (by decide) rfl h8 (Or.inr (rcv_t (by decide)))
theorem xq_50_5_virtual {i : _} {a0 : Nat} {a1 : Int32} {a2 : Int32} {a3 : Int32} (hr : cls h a0 = some 5) (h8 : st8 st = true) : rt xs (d + 1) m hs (.invokevirtual i, n, (50, 4, 5), [k]) [] (L, .int a3 :: .int a2 :: .int a1 :: .ref a0 :: st, h) = aft xs (d + 1) m hs 5 k L st (ev xs d 50 0 ([.ref a0, .int a1, .int a2, .int a3], [], h)) := ab_xq (as := [.int a3, .int a2, .int a1, .ref a0]) em_50 rfl (by decide) rfl h8 (Or.inr (rcv_c hr rfl))
theorem xq_50_5_virtualc {i : _} {a1 : Int32} {a2 : Int32} {a3 : Int32} (h8 : st8 st = true) : rt xs (d + 1) m hs (.invokevirtual i, n, (50, 4, 5), [k]) [] (L, .int a3 :: .int a2 :: .int a1 :: .ref 40 :: st, hc σ M R) = aft xs (d + 1) m hs 5 k L st (ev xs d 50 0 ([.ref 40, .int a1, .int a2, .int a3], [], hc σ M R)) := xq_50_5_virtual rfl h8
theorem xq_51_5_virtual {i : _} {a0 : Nat} {a1 : Int32} {a2 : Int32} (hr : cls h a0 = some 5) (h8 : st8 st = true) : rt xs (d + 1) m hs (.invokevirtual i, n, (51, 3, 5), [k]) [] (L, .int a2 :: .int a1 :: .ref a0 :: st, h) = aft xs (d + 1) m hs 5 k L st (ev xs d 51 0 ([.ref a0, .int a1, .int a2, .retAddr 9, .retAddr 9, .retAddr 9], [], h)) := ab_xq (as := [.int a2, .int a1, .ref a0]) em_51 rfl (by decide) rfl h8 (Or.inr (rcv_c hr rfl))
theorem xq_51_5_virtualc {i : _} {a1 : Int32} {a2 : Int32} (h8 : st8 st = true) : rt xs (d + 1) m hs (.invokevirtual i, n, (51, 3, 5), [k]) [] (L, .int a2 :: .int a1 :: .ref 40 :: st, hc σ M R) = aft xs (d + 1) m hs 5 k L st (ev xs d 51 0 ([.ref 40, .int a1, .int a2, .retAddr 9, .retAddr 9, .retAddr 9], [], hc σ M R)) := xq_51_5_virtual rfl h8
theorem xq_52_5_virtual {i : _} {a0 : Nat} (hr : cls h a0 = some 5) (h8 : st8 st = true) : rt xs (d + 1) m hs (.invokevirtual i, n, (52, 1, 5), [k]) [] (L, .ref a0 :: st, h) = aft xs (d + 1) m hs 5 k L st (ev xs d 52 0 ([.ref a0, .retAddr 9, .retAddr 9, .retAddr 9], [], h)) := ab_xq (as := [.ref a0]) em_52 rfl (by decide) rfl h8 (Or.inr (rcv_c hr rfl))
theorem xq_52_5_virtualc {i : _}  (h8 : st8 st = true) : rt xs (d + 1) m hs (.invokevirtual i, n, (52, 1, 5), [k]) [] (L, .ref 40 :: st, hc σ M R) = aft xs (d + 1) m hs 5 k L st (ev xs d 52 0 ([.ref 40, .retAddr 9, .retAddr 9, .retAddr 9], [], hc σ M R)) := xq_52_5_virtual rfl h8
theorem xq_53_5_virtual {i : _} {a0 : Nat} {a1 : Int32} (hr : cls h a0 = some 5) (h8 : st8 st = true) : rt xs (d + 1) m hs (.invokevirtual i, n, (53, 2, 5), [k]) [] (L, .int a1 :: .ref a0 :: st, h) = aft xs (d + 1) m hs 5 k L st (ev xs d 53 0 ([.ref a0, .int a1, .retAddr 9], [], h)) := ab_xq (as := [.int a1, .ref a0]) em_53 rfl (by decide) rfl h8 (Or.inr (rcv_c hr rfl))
theorem xq_53_5_virtualc {i : _} {a1 : Int32} (h8 : st8 st = true) : rt xs (d + 1) m hs (.invokevirtual i, n, (53, 2, 5), [k]) [] (L, .int a1 :: .ref 40 :: st, hc σ M R) = aft xs (d + 1) m hs 5 k L st (ev xs d 53 0 ([.ref 40, .int a1, .retAddr 9], [], hc σ M R)) := xq_53_5_virtual rfl h8
theorem xq_54_101_special {i : _} {a0 : Nat} (h8 : st8 st = true) : rt xs (d + 1) m hs (.invokespecial i, n, (54, 1, 101), [k]) [] (L, .ref a0 :: st, h) = aft xs (d + 1) m hs 101 k L st (ev xs d 54 0 ([.ref a0], [], h)) := ab_xq (as := [.ref a0]) em_54 rfl (by decide) rfl h8 (Or.inr (rcv_t (by decide)))
theorem xq_55_6_virtual {i : _} {a0 : Nat} (hr : cls h a0 = some 6) (h8 : st8 st = true) : rt xs (d + 1) m hs (.invokevirtual i, n, (55, 1, 6), [k]) [] (L, .ref a0 :: st, h) = aft xs (d + 1) m hs 6 k L st (ev xs d 55 0 ([.ref a0], [], h)) := ab_xq (as := [.ref a0]) em_55 rfl (by decide) rfl h8 (Or.inr (rcv_c hr rfl))
theorem xq_55_6_virtualc {i : _}  (h8 : st8 st = true) : rt xs (d + 1) m hs (.invokevirtual i, n, (55, 1, 6), [k]) [] (L, .ref 1 :: st, hc σ M R) = aft xs (d + 1) m hs 6 k L st (ev xs d 55 0 ([.ref 1], [], hc σ M R)) := xq_55_6_virtual rfl h8
theorem xq_56_6_virtual {i : _} {a0 : Nat} (hr : cls h a0 = some 6) (h8 : st8 st = true) : rt xs (d + 1) m hs (.invokevirtual i, n, (56, 1, 6), [k]) [] (L, .ref a0 :: st, h) = aft xs (d + 1) m hs 6 k L st (ev xs d 56 0 ([.ref a0], [], h)) := ab_xq (as := [.ref a0]) em_56 rfl (by decide) rfl h8 (Or.inr (rcv_c hr rfl))
theorem xq_56_6_virtualc {i : _}  (h8 : st8 st = true) : rt xs (d + 1) m hs (.invokevirtual i, n, (56, 1, 6), [k]) [] (L, .ref 1 :: st, hc σ M R) = aft xs (d + 1) m hs 6 k L st (ev xs d 56 0 ([.ref 1], [], hc σ M R)) := xq_56_6_virtual rfl h8
theorem xq_57_6_virtual {i : _} {a0 : Nat} {a1 : Int32} (hr : cls h a0 = some 6) (h8 : st8 st = true) : rt xs (d + 1) m hs (.invokevirtual i, n, (57, 2, 6), [k]) [] (L, .int a1 :: .ref a0 :: st, h) = aft xs (d + 1) m hs 6 k L st (ev xs d 57 0 ([.ref a0, .int a1], [], h)) := ab_xq (as := [.int a1, .ref a0]) em_57 rfl (by decide) rfl h8 (Or.inr (rcv_c hr rfl))
theorem xq_57_6_virtualc {i : _} {a1 : Int32} (h8 : st8 st = true) : rt xs (d + 1) m hs (.invokevirtual i, n, (57, 2, 6), [k]) [] (L, .int a1 :: .ref 1 :: st, hc σ M R) = aft xs (d + 1) m hs 6 k L st (ev xs d 57 0 ([.ref 1, .int a1], [], hc σ M R)) := xq_57_6_virtual rfl h8
theorem xq_58_6_virtual {i : _} {a0 : Nat} {a1 : Int32} (hr : cls h a0 = some 6) (h8 : st8 st = true) : rt xs (d + 1) m hs (.invokevirtual i, n, (58, 2, 6), [k]) [] (L, .int a1 :: .ref a0 :: st, h) = aft xs (d + 1) m hs 6 k L st (ev xs d 58 0 ([.ref a0, .int a1], [], h)) := ab_xq (as := [.int a1, .ref a0]) em_58 rfl (by decide) rfl h8 (Or.inr (rcv_c hr rfl))
theorem xq_58_6_virtualc {i : _} {a1 : Int32} (h8 : st8 st = true) : rt xs (d + 1) m hs (.invokevirtual i, n, (58, 2, 6), [k]) [] (L, .int a1 :: .ref 1 :: st, hc σ M R) = aft xs (d + 1) m hs 6 k L st (ev xs d 58 0 ([.ref 1, .int a1], [], hc σ M R)) := xq_58_6_virtual rfl h8
theorem xq_59_6_virtual {i : _} {a0 : Nat} {a1 : Int32} (hr : cls h a0 = some 6) (h8 : st8 st = true) : rt xs (d + 1) m hs (.invokevirtual i, n, (59, 2, 6), [k]) [] (L, .int a1 :: .ref a0 :: st, h) = aft xs (d + 1) m hs 6 k L st (ev xs d 59 0 ([.ref a0, .int a1], [], h)) := ab_xq (as := [.int a1, .ref a0]) em_59 rfl (by decide) rfl h8 (Or.inr (rcv_c hr rfl))
theorem xq_59_6_virtualc {i : _} {a1 : Int32} (h8 : st8 st = true) : rt xs (d + 1) m hs (.invokevirtual i, n, (59, 2, 6), [k]) [] (L, .int a1 :: .ref 1 :: st, hc σ M R) = aft xs (d + 1) m hs 6 k L st (ev xs d 59 0 ([.ref 1, .int a1], [], hc σ M R)) := xq_59_6_virtual rfl h8
theorem xq_60_6_virtual {i : _} {a0 : Nat} {a1 : Int32} (hr : cls h a0 = some 6) (h8 : st8 st = true) : rt xs (d + 1) m hs (.invokevirtual i, n, (60, 2, 6), [k]) [] (L, .int a1 :: .ref a0 :: st, h) = aft xs (d + 1) m hs 6 k L st (ev xs d 60 0 ([.ref a0, .int a1], [], h)) := ab_xq (as := [.int a1, .ref a0]) em_60 rfl (by decide) rfl h8 (Or.inr (rcv_c hr rfl))
theorem xq_60_6_virtualc {i : _} {a1 : Int32} (h8 : st8 st = true) : rt xs (d + 1) m hs (.invokevirtual i, n, (60, 2, 6), [k]) [] (L, .int a1 :: .ref 1 :: st, hc σ M R) = aft xs (d + 1) m hs 6 k L st (ev xs d 60 0 ([.ref 1, .int a1], [], hc σ M R)) := xq_60_6_virtual rfl h8
theorem xq_61_6_virtual {i : _} {a0 : Nat} (hr : cls h a0 = some 6) (h8 : st8 st = true) : rt xs (d + 1) m hs (.invokevirtual i, n, (61, 1, 6), [k]) [] (L, .ref a0 :: st, h) = aft xs (d + 1) m hs 6 k L st (ev xs d 61 0 ([.ref a0, .retAddr 9, .retAddr 9], [], h)) := ab_xq (as := [.ref a0]) em_61 rfl (by decide) rfl h8 (Or.inr (rcv_c hr rfl))
theorem xq_61_6_virtualc {i : _}  (h8 : st8 st = true) : rt xs (d + 1) m hs (.invokevirtual i, n, (61, 1, 6), [k]) [] (L, .ref 1 :: st, hc σ M R) = aft xs (d + 1) m hs 6 k L st (ev xs d 61 0 ([.ref 1, .retAddr 9, .retAddr 9], [], hc σ M R)) := xq_61_6_virtual rfl h8
theorem xq_62_6_virtual {i : _} {a0 : Nat} {a1 : Int32} {a2 : Int32} (hr : cls h a0 = some 6) (h8 : st8 st = true) : rt xs (d + 1) m hs (.invokevirtual i, n, (62, 3, 6), [k]) [] (L, .int a2 :: .int a1 :: .ref a0 :: st, h) = aft xs (d + 1) m hs 6 k L st (ev xs d 62 0 ([.ref a0, .int a1, .int a2], [], h)) := ab_xq (as := [.int a2, .int a1, .ref a0]) em_62 rfl (by decide) rfl h8 (Or.inr (rcv_c hr rfl))
theorem xq_62_6_virtualc {i : _} {a1 : Int32} {a2 : Int32} (h8 : st8 st = true) : rt xs (d + 1) m hs (.invokevirtual i, n, (62, 3, 6), [k]) [] (L, .int a2 :: .int a1 :: .ref 1 :: st, hc σ M R) = aft xs (d + 1) m hs 6 k L st (ev xs d 62 0 ([.ref 1, .int a1, .int a2], [], hc σ M R)) := xq_62_6_virtual rfl h8
theorem xq_63_6_virtual {i : _} {a0 : Nat} {a1 : Int32} {a2 : Int32} (hr : cls h a0 = some 6) (h8 : st8 st = true) : rt xs (d + 1) m hs (.invokevirtual i, n, (63, 3, 6), [k]) [] (L, .int a2 :: .int a1 :: .ref a0 :: st, h) = aft xs (d + 1) m hs 6 k L st (ev xs d 63 0 ([.ref a0, .int a1, .int a2, .retAddr 9], [], h)) := ab_xq (as := [.int a2, .int a1, .ref a0]) em_63 rfl (by decide) rfl h8 (Or.inr (rcv_c hr rfl))
theorem xq_63_6_virtualc {i : _} {a1 : Int32} {a2 : Int32} (h8 : st8 st = true) : rt xs (d + 1) m hs (.invokevirtual i, n, (63, 3, 6), [k]) [] (L, .int a2 :: .int a1 :: .ref 1 :: st, hc σ M R) = aft xs (d + 1) m hs 6 k L st (ev xs d 63 0 ([.ref 1, .int a1, .int a2, .retAddr 9], [], hc σ M R)) := xq_63_6_virtual rfl h8
theorem xq_64_6_virtual {i : _} {a0 : Nat} {a1 : Int32} {a2 : Int32} (hr : cls h a0 = some 6) (h8 : st8 st = true) : rt xs (d + 1) m hs (.invokevirtual i, n, (64, 3, 6), [k]) [] (L, .int a2 :: .int a1 :: .ref a0 :: st, h) = aft xs (d + 1) m hs 6 k L st (ev xs d 64 0 ([.ref a0, .int a1, .int a2], [], h)) := ab_xq (as := [.int a2, .int a1, .ref a0]) em_64 rfl (by decide) rfl h8 (Or.inr (rcv_c hr rfl))
theorem xq_64_6_virtualc {i : _} {a1 : Int32} {a2 : Int32} (h8 : st8 st = true) : rt xs (d + 1) m hs (.invokevirtual i, n, (64, 3, 6), [k]) [] (L, .int a2 :: .int a1 :: .ref 1 :: st, hc σ M R) = aft xs (d + 1) m hs 6 k L st (ev xs d 64 0 ([.ref 1, .int a1, .int a2], [], hc σ M R)) := xq_64_6_virtual rfl h8
theorem xq_65_6_virtual {i : _} {a0 : Nat} {a1 : Int32} {a2 : Int32} (hr : cls h a0 = some 6) (h8 : st8 st = true) : rt xs (d + 1) m hs (.invokevirtual i, n, (65, 3, 6), [k]) [] (L, .int a2 :: .int a1 :: .ref a0 :: st, h) = aft xs (d + 1) m hs 6 k L st (ev xs d 65 0 ([.ref a0, .int a1, .int a2], [], h)) := ab_xq (as := [.int a2, .int a1, .ref a0]) em_65 rfl (by decide) rfl h8 (Or.inr (rcv_c hr rfl))
theorem xq_65_6_virtualc {i : _} {a1 : Int32} {a2 : Int32} (h8 : st8 st = true) : rt xs (d + 1) m hs (.invokevirtual i, n, (65, 3, 6), [k]) [] (L, .int a2 :: .int a1 :: .ref 1 :: st, hc σ M R) = aft xs (d + 1) m hs 6 k L st (ev xs d 65 0 ([.ref 1, .int a1, .int a2], [], hc σ M R)) := xq_65_6_virtual rfl h8
theorem xq_66_6_virtual {i : _} {a0 : Nat} {a1 : Int32} {a2 : Int32} (hr : cls h a0 = some 6) (h8 : st8 st = true) : rt xs (d + 1) m hs (.invokevirtual i, n, (66, 3, 6), [k]) [] (L, .int a2 :: .int a1 :: .ref a0 :: st, h) = aft xs (d + 1) m hs 6 k L st (ev xs d 66 0 ([.ref a0, .int a1, .int a2], [], h)) := ab_xq (as := [.int a2, .int a1, .ref a0]) em_66 rfl (by decide) rfl h8 (Or.inr (rcv_c hr rfl))
theorem xq_66_6_virtualc {i : _} {a1 : Int32} {a2 : Int32} (h8 : st8 st = true) : rt xs (d + 1) m hs (.invokevirtual i, n, (66, 3, 6), [k]) [] (L, .int a2 :: .int a1 :: .ref 1 :: st, hc σ M R) = aft xs (d + 1) m hs 6 k L st (ev xs d 66 0 ([.ref 1, .int a1, .int a2], [], hc σ M R)) := xq_66_6_virtual rfl h8
theorem xq_67_6_virtual {i : _} {a0 : Nat} {a1 : Int32} {a2 : Int32} (hr : cls h a0 = some 6) (h8 : st8 st = true) : rt xs (d + 1) m hs (.invokevirtual i, n, (67, 3, 6), [k]) [] (L, .int a2 :: .int a1 :: .ref a0 :: st, h) = aft xs (d + 1) m hs 6 k L st (ev xs d 67 0 ([.ref a0, .int a1, .int a2], [], h)) := ab_xq (as := [.int a2, .int a1, .ref a0]) em_67 rfl (by decide) rfl h8 (Or.inr (rcv_c hr rfl))
theorem xq_67_6_virtualc {i : _} {a1 : Int32} {a2 : Int32} (h8 : st8 st = true) : rt xs (d + 1) m hs (.invokevirtual i, n, (67, 3, 6), [k]) [] (L, .int a2 :: .int a1 :: .ref 1 :: st, hc σ M R) = aft xs (d + 1) m hs 6 k L st (ev xs d 67 0 ([.ref 1, .int a1, .int a2], [], hc σ M R)) := xq_67_6_virtual rfl h8
theorem xq_68_6_virtual {i : _} {a0 : Nat} {a1 : Int32} {a2 : Int32} {a3 : Int32} (hr : cls h a0 = some 6) (h8 : st8 st = true) : rt xs (d + 1) m hs (.invokevirtual i, n, (68, 4, 6), [k]) [] (L, .int a3 :: .int a2 :: .int a1 :: .ref a0 :: st, h) = aft xs (d + 1) m hs 6 k L st (ev xs d 68 0 ([.ref a0, .int a1, .int a2, .int a3, .retAddr 9, .retAddr 9], [], h)) := ab_xq (as := [.int a3, .int a2, .int a1, .ref a0]) em_68 rfl (by decide) rfl h8 (Or.inr (rcv_c hr rfl))
theorem xq_68_6_virtualc {i : _} {a1 : Int32} {a2 : Int32} {a3 : Int32} (h8 : st8 st = true) : rt xs (d + 1) m hs (.invokevirtual i, n, (68, 4, 6), [k]) [] (L, .int a3 :: .int a2 :: .int a1 :: .ref 1 :: st, hc σ M R) = aft xs (d + 1) m hs 6 k L st (ev xs d 68 0 ([.ref 1, .int a1, .int a2, .int a3, .retAddr 9, .retAddr 9], [], hc σ M R)) := xq_68_6_virtual rfl h8
theorem xq_69_6_virtual {i : _} {a0 : Nat} (hr : cls h a0 = some 6) (h8 : st8 st = true) : rt xs (d + 1) m hs (.invokevirtual i, n, (69, 1, 6), [k]) [] (L, .ref a0 :: st, h) = aft xs (d + 1) m hs 6 k L st (ev xs d 69 0 ([.ref a0, .retAddr 9], [], h)) := ab_xq (as := [.ref a0]) em_69 rfl (by decide) rfl h8 (Or.inr (rcv_c hr rfl))
theorem xq_69_6_virtualc {i : _}  (h8 : st8 st = true) : rt xs (d + 1) m hs (.invokevirtual i, n, (69, 1, 6), [k]) [] (L, .ref 1 :: st, hc σ M R) = aft xs (d + 1) m hs 6 k L st (ev xs d 69 0 ([.ref 1, .retAddr 9], [], hc σ M R)) := xq_69_6_virtual rfl h8
theorem xq_70_6_virtual {i : _} {a0 : Nat} {a1 : Int32} {a2 : Int32} {a3 : Int32} (hr : cls h a0 = some 6) (h8 : st8 st = true) : rt xs (d + 1) m hs (.invokevirtual i, n, (70, 4, 6), [k]) [] (L, .int a3 :: .int a2 :: .int a1 :: .ref a0 :: st, h) = aft xs (d + 1) m hs 6 k L st (ev xs d 70 0 ([.ref a0, .int a1, .int a2, .int a3], [], h)) := ab_xq (as := [.int a3, .int a2, .int a1, .ref a0]) em_70 rfl (by decide) rfl h8 (Or.inr (rcv_c hr rfl))
theorem xq_70_6_virtualc {i : _} {a1 : Int32} {a2 : Int32} {a3 : Int32} (h8 : st8 st = true) : rt xs (d + 1) m hs (.invokevirtual i, n, (70, 4, 6), [k]) [] (L, .int a3 :: .int a2 :: .int a1 :: .ref 1 :: st, hc σ M R) = aft xs (d + 1) m hs 6 k L st (ev xs d 70 0 ([.ref 1, .int a1, .int a2, .int a3], [], hc σ M R)) := xq_70_6_virtual rfl h8
theorem xq_72_6_virtual {i : _} {a0 : Nat} {a1 : Int32} {a2 : Int32} {a3 : Int32} (hr : cls h a0 = some 6) (h8 : st8 st = true) : rt xs (d + 1) m hs (.invokevirtual i, n, (72, 4, 6), [k]) [] (L, .int a3 :: .int a2 :: .int a1 :: .ref a0 :: st, h) = aft xs (d + 1) m hs 6 k L st (ev xs d 72 0 ([.ref a0, .int a1, .int a2, .int a3, .retAddr 9, .retAddr 9], [], h)) := ab_xq (as := [.int a3, .int a2, .int a1, .ref a0]) em_72 rfl (by decide) rfl h8 (Or.inr (rcv_c hr rfl))
theorem xq_72_6_virtualc {i : _} {a1 : Int32} {a2 : Int32} {a3 : Int32} (h8 : st8 st = true) : rt xs (d + 1) m hs (.invokevirtual i, n, (72, 4, 6), [k]) [] (L, .int a3 :: .int a2 :: .int a1 :: .ref 1 :: st, hc σ M R) = aft xs (d + 1) m hs 6 k L st (ev xs d 72 0 ([.ref 1, .int a1, .int a2, .int a3, .retAddr 9, .retAddr 9], [], hc σ M R)) := xq_72_6_virtual rfl h8
theorem xq_73_100_special {i : _} {a0 : Nat} {a1 : Nat} {a2 : Nat} (h8 : st8 st = true) : rt xs (d + 1) m hs (.invokespecial i, n, (73, 3, 100), [k]) [] (L, .ref a2 :: .ref a1 :: .ref a0 :: st, h) = aft xs (d + 1) m hs 100 k L st (ev xs d 73 0 ([.ref a0, .ref a1, .ref a2], [], h)) := ab_xq (as := [.ref a2, .ref a1, .ref a0]) em_73 rfl (by decide) rfl h8 (Or.inr (rcv_t (by decide)))
theorem xq_74_7_virtual {i : _} {a0 : Nat} {a1 : Int32} {a2 : Int32} (hr : cls h a0 = some 7) (h8 : st8 st = true) : rt xs (d + 1) m hs (.invokevirtual i, n, (74, 3, 7), [k]) [] (L, .int a2 :: .int a1 :: .ref a0 :: st, h) = aft xs (d + 1) m hs 7 k L st (ev xs d 74 0 ([.ref a0, .int a1, .int a2, .retAddr 9], [], h)) := ab_xq (as := [.int a2, .int a1, .ref a0]) em_74 rfl (by decide) rfl h8 (Or.inr (rcv_c hr rfl))
theorem xq_74_7_virtualc {i : _} {a1 : Int32} {a2 : Int32} (h8 : st8 st = true) : rt xs (d + 1) m hs (.invokevirtual i, n, (74, 3, 7), [k]) [] (L, .int a2 :: .int a1 :: .ref 28 :: st, hc σ M R) = aft xs (d + 1) m hs 7 k L st (ev xs d 74 0 ([.ref 28, .int a1, .int a2, .retAddr 9], [], hc σ M R)) := xq_74_7_virtual rfl h8
theorem xq_75_7_virtual {i : _} {a0 : Nat} (hr : cls h a0 = some 7) (h8 : st8 st = true) : rt xs (d + 1) m hs (.invokevirtual i, n, (75, 1, 7), [k]) [] (L, .ref a0 :: st, h) = aft xs (d + 1) m hs 7 k L st (ev xs d 75 0 ([.ref a0, .retAddr 9], [], h)) := ab_xq (as := [.ref a0]) em_75 rfl (by decide) rfl h8 (Or.inr (rcv_c hr rfl))
theorem xq_75_7_virtualc {i : _}  (h8 : st8 st = true) : rt xs (d + 1) m hs (.invokevirtual i, n, (75, 1, 7), [k]) [] (L, .ref 28 :: st, hc σ M R) = aft xs (d + 1) m hs 7 k L st (ev xs d 75 0 ([.ref 28, .retAddr 9], [], hc σ M R)) := xq_75_7_virtual rfl h8
theorem xq_76_7_virtual {i : _} {a0 : Nat} {a1 : Nat} (hr : cls h a0 = some 7) (h8 : st8 st = true) : rt xs (d + 1) m hs (.invokevirtual i, n, (76, 2, 7), [k]) [] (L, .ref a1 :: .ref a0 :: st, h) = aft xs (d + 1) m hs 7 k L st (ev xs d 76 0 ([.ref a0, .ref a1, .retAddr 9, .retAddr 9, .retAddr 9, .retAddr 9], [], h)) := ab_xq (as := [.ref a1, .ref a0]) em_76 rfl (by decide) rfl h8 (Or.inr (rcv_c hr rfl))
theorem xq_76_7_virtualc {i : _} {a1 : Nat} (h8 : st8 st = true) : rt xs (d + 1) m hs (.invokevirtual i, n, (76, 2, 7), [k]) [] (L, .ref a1 :: .ref 28 :: st, hc σ M R) = aft xs (d + 1) m hs 7 k L st (ev xs d 76 0 ([.ref 28, .ref a1, .retAddr 9, .retAddr 9, .retAddr 9, .retAddr 9], [], hc σ M R)) := xq_76_7_virtual rfl h8
theorem xq_77_7_virtual {i : _} {a0 : Nat} {a1 : Nat} {a2 : Int32} {a3 : Int32} {a4 : Int32} (hr : cls h a0 = some 7) (h8 : st8 st = true) : rt xs (d + 1) m hs (.invokevirtual i, n, (77, 5, 7), [k]) [] (L, .int a4 :: .int a3 :: .int a2 :: .ref a1 :: .ref a0 :: st, h) = aft xs (d + 1) m hs 7 k L st (ev xs d 77 0 ([.ref a0, .ref a1, .int a2, .int a3, .int a4, .retAddr 9], [], h)) := ab_xq (as := [.int a4, .int a3, .int a2, .ref a1, .ref a0]) em_77 rfl (by decide) rfl h8 (Or.inr (rcv_c hr rfl))
theorem xq_77_7_virtualc {i : _} {a1 : Nat} {a2 : Int32} {a3 : Int32} {a4 : Int32} (h8 : st8 st = true) : rt xs (d + 1) m hs (.invokevirtual i, n, (77, 5, 7), [k]) [] (L, .int a4 :: .int a3 :: .int a2 :: .ref a1 :: .ref 28 :: st, hc σ M R) = aft xs (d + 1) m hs 7 k L st (ev xs d 77 0 ([.ref 28, .ref a1, .int a2, .int a3, .int a4, .retAddr 9], [], hc σ M R)) := xq_77_7_virtual rfl h8
theorem xq_78_7_virtual {i : _} {a0 : Nat} {a1 : Int32} {a2 : Int32} {a3 : Int32} (hr : cls h a0 = some 7) (h8 : st8 st = true) : rt xs (d + 1) m hs (.invokevirtual i, n, (78, 4, 7), [k]) [] (L, .int a3 :: .int a2 :: .int a1 :: .ref a0 :: st, h) = aft xs (d + 1) m hs 7 k L st (ev xs d 78 0 ([.ref a0, .int a1, .int a2, .int a3], [], h)) := ab_xq (as := [.int a3, .int a2, .int a1, .ref a0]) em_78 rfl (by decide) rfl h8 (Or.inr (rcv_c hr rfl))
theorem xq_78_7_virtualc {i : _} {a1 : Int32} {a2 : Int32} {a3 : Int32} (h8 : st8 st = true) : rt xs (d + 1) m hs (.invokevirtual i, n, (78, 4, 7), [k]) [] (L, .int a3 :: .int a2 :: .int a1 :: .ref 28 :: st, hc σ M R) = aft xs (d + 1) m hs 7 k L st (ev xs d 78 0 ([.ref 28, .int a1, .int a2, .int a3], [], hc σ M R)) := xq_78_7_virtual rfl h8
theorem xq_79_7_virtual {i : _} {a0 : Nat} {a1 : Int32} (hr : cls h a0 = some 7) (h8 : st8 st = true) : rt xs (d + 1) m hs (.invokevirtual i, n, (79, 2, 7), [k]) [] (L, .int a1 :: .ref a0 :: st, h) = aft xs (d + 1) m hs 7 k L st (ev xs d 79 0 ([.ref a0, .int a1, .retAddr 9, .retAddr 9, .retAddr 9, .retAddr 9, .retAddr 9], [], h)) := ab_xq (as := [.int a1, .ref a0]) em_79 rfl (by decide) rfl h8 (Or.inr (rcv_c hr rfl))
theorem xq_79_7_virtualc {i : _} {a1 : Int32} (h8 : st8 st = true) : rt xs (d + 1) m hs (.invokevirtual i, n, (79, 2, 7), [k]) [] (L, .int a1 :: .ref 28 :: st, hc σ M R) = aft xs (d + 1) m hs 7 k L st (ev xs d 79 0 ([.ref 28, .int a1, .retAddr 9, .retAddr 9, .retAddr 9, .retAddr 9, .retAddr 9], [], hc σ M R)) := xq_79_7_virtual rfl h8
theorem xq_80_7_virtual {i : _} {a0 : Nat} {a1 : Int32} {a2 : Int32} (hr : cls h a0 = some 7) (h8 : st8 st = true) : rt xs (d + 1) m hs (.invokevirtual i, n, (80, 3, 7), [k]) [] (L, .int a2 :: .int a1 :: .ref a0 :: st, h) = aft xs (d + 1) m hs 7 k L st (ev xs d 80 0 ([.ref a0, .int a1, .int a2, .retAddr 9, .retAddr 9, .retAddr 9, .retAddr 9, .retAddr 9, .retAddr 9, .retAddr 9, .retAddr 9], [], h)) := ab_xq (as := [.int a2, .int a1, .ref a0]) em_80 rfl (by decide) rfl h8 (Or.inr (rcv_c hr rfl))
theorem xq_80_7_virtualc {i : _} {a1 : Int32} {a2 : Int32} (h8 : st8 st = true) : rt xs (d + 1) m hs (.invokevirtual i, n, (80, 3, 7), [k]) [] (L, .int a2 :: .int a1 :: .ref 28 :: st, hc σ M R) = aft xs (d + 1) m hs 7 k L st (ev xs d 80 0 ([.ref 28, .int a1, .int a2, .retAddr 9, .retAddr 9, .retAddr 9, .retAddr 9, .retAddr 9, .retAddr 9, .retAddr 9, .retAddr 9], [], hc σ M R)) := xq_80_7_virtual rfl h8
theorem xq_81_7_virtual {i : _} {a0 : Nat} {a1 : Int32} {a2 : Int32} {a3 : Int32} {a4 : Int32} (hr : cls h a0 = some 7) (h8 : st8 st = true) : rt xs (d + 1) m hs (.invokevirtual i, n, (81, 5, 7), [k]) [] (L, .int a4 :: .int a3 :: .int a2 :: .int a1 :: .ref a0 :: st, h) = aft xs (d + 1) m hs 7 k L st (ev xs d 81 0 ([.ref a0, .int a1, .int a2, .int a3, .int a4, .retAddr 9, .retAddr 9, .retAddr 9, .retAddr 9], [], h)) := ab_xq (as := [.int a4, .int a3, .int a2, .int a1, .ref a0]) em_81 rfl (by decide) rfl h8 (Or.inr (rcv_c hr rfl))
theorem xq_81_7_virtualc {i : _} {a1 : Int32} {a2 : Int32} {a3 : Int32} {a4 : Int32} (h8 : st8 st = true) : rt xs (d + 1) m hs (.invokevirtual i, n, (81, 5, 7), [k]) [] (L, .int a4 :: .int a3 :: .int a2 :: .int a1 :: .ref 28 :: st, hc σ M R) = aft xs (d + 1) m hs 7 k L st (ev xs d 81 0 ([.ref 28, .int a1, .int a2, .int a3, .int a4, .retAddr 9, .retAddr 9, .retAddr 9, .retAddr 9], [], hc σ M R)) := xq_81_7_virtual rfl h8
theorem xq_82_7_virtual {i : _} {a0 : Nat} {a1 : Int32} {a2 : Int32} (hr : cls h a0 = some 7) (h8 : st8 st = true) : rt xs (d + 1) m hs (.invokevirtual i, n, (82, 3, 7), [k]) [] (L, .int a2 :: .int a1 :: .ref a0 :: st, h) = aft xs (d + 1) m hs 7 k L st (ev xs d 82 0 ([.ref a0, .int a1, .int a2, .retAddr 9, .retAddr 9, .retAddr 9, .retAddr 9, .retAddr 9], [], h)) := ab_xq (as := [.int a2, .int a1, .ref a0]) em_82 rfl (by decide) rfl h8 (Or.inr (rcv_c hr rfl))
theorem xq_82_7_virtualc {i : _} {a1 : Int32} {a2 : Int32} (h8 : st8 st = true) : rt xs (d + 1) m hs (.invokevirtual i, n, (82, 3, 7), [k]) [] (L, .int a2 :: .int a1 :: .ref 28 :: st, hc σ M R) = aft xs (d + 1) m hs 7 k L st (ev xs d 82 0 ([.ref 28, .int a1, .int a2, .retAddr 9, .retAddr 9, .retAddr 9, .retAddr 9, .retAddr 9], [], hc σ M R)) := xq_82_7_virtual rfl h8
theorem xq_83_7_virtual {i : _} {a0 : Nat} {a1 : Int32} {a2 : Int32} (hr : cls h a0 = some 7) (h8 : st8 st = true) : rt xs (d + 1) m hs (.invokevirtual i, n, (83, 3, 7), [k]) [] (L, .int a2 :: .int a1 :: .ref a0 :: st, h) = aft xs (d + 1) m hs 7 k L st (ev xs d 83 0 ([.ref a0, .int a1, .int a2, .retAddr 9, .retAddr 9, .retAddr 9, .retAddr 9], [], h)) := ab_xq (as := [.int a2, .int a1, .ref a0]) em_83 rfl (by decide) rfl h8 (Or.inr (rcv_c hr rfl))
theorem xq_83_7_virtualc {i : _} {a1 : Int32} {a2 : Int32} (h8 : st8 st = true) : rt xs (d + 1) m hs (.invokevirtual i, n, (83, 3, 7), [k]) [] (L, .int a2 :: .int a1 :: .ref 28 :: st, hc σ M R) = aft xs (d + 1) m hs 7 k L st (ev xs d 83 0 ([.ref 28, .int a1, .int a2, .retAddr 9, .retAddr 9, .retAddr 9, .retAddr 9], [], hc σ M R)) := xq_83_7_virtual rfl h8
theorem xq_84_7_virtual {i : _} {a0 : Nat} {a1 : Int32} {a2 : Int32} {a3 : Int32} (hr : cls h a0 = some 7) (h8 : st8 st = true) : rt xs (d + 1) m hs (.invokevirtual i, n, (84, 4, 7), [k]) [] (L, .int a3 :: .int a2 :: .int a1 :: .ref a0 :: st, h) = aft xs (d + 1) m hs 7 k L st (ev xs d 84 0 ([.ref a0, .int a1, .int a2, .int a3, .retAddr 9, .retAddr 9, .retAddr 9, .retAddr 9, .retAddr 9], [], h)) := ab_xq (as := [.int a3, .int a2, .int a1, .ref a0]) em_84 rfl (by decide) rfl h8 (Or.inr (rcv_c hr rfl))
theorem xq_84_7_virtualc {i : _} {a1 : Int32} {a2 : Int32} {a3 : Int32} (h8 : st8 st = true) : rt xs (d + 1) m hs (.invokevirtual i, n, (84, 4, 7), [k]) [] (L, .int a3 :: .int a2 :: .int a1 :: .ref 28 :: st, hc σ M R) = aft xs (d + 1) m hs 7 k L st (ev xs d 84 0 ([.ref 28, .int a1, .int a2, .int a3, .retAddr 9, .retAddr 9, .retAddr 9, .retAddr 9, .retAddr 9], [], hc σ M R)) := xq_84_7_virtual rfl h8
theorem xq_85_7_virtual {i : _} {a0 : Nat} {a1 : Int32} (hr : cls h a0 = some 7) (h8 : st8 st = true) : rt xs (d + 1) m hs (.invokevirtual i, n, (85, 2, 7), [k]) [] (L, .int a1 :: .ref a0 :: st, h) = aft xs (d + 1) m hs 7 k L st (ev xs d 85 0 ([.ref a0, .int a1, .retAddr 9, .retAddr 9, .retAddr 9, .retAddr 9, .retAddr 9], [], h)) := ab_xq (as := [.int a1, .ref a0]) em_85 rfl (by decide) rfl h8 (Or.inr (rcv_c hr rfl))
theorem xq_85_7_virtualc {i : _} {a1 : Int32} (h8 : st8 st = true) : rt xs (d + 1) m hs (.invokevirtual i, n, (85, 2, 7), [k]) [] (L, .int a1 :: .ref 28 :: st, hc σ M R) = aft xs (d + 1) m hs 7 k L st (ev xs d 85 0 ([.ref 28, .int a1, .retAddr 9, .retAddr 9, .retAddr 9, .retAddr 9, .retAddr 9], [], hc σ M R)) := xq_85_7_virtual rfl h8
theorem xq_86_7_virtual {i : _} {a0 : Nat} {a1 : Int32} (hr : cls h a0 = some 7) (h8 : st8 st = true) : rt xs (d + 1) m hs (.invokevirtual i, n, (86, 2, 7), [k]) [] (L, .int a1 :: .ref a0 :: st, h) = aft xs (d + 1) m hs 7 k L st (ev xs d 86 0 ([.ref a0, .int a1, .retAddr 9, .retAddr 9], [], h)) := ab_xq (as := [.int a1, .ref a0]) em_86 rfl (by decide) rfl h8 (Or.inr (rcv_c hr rfl))
theorem xq_86_7_virtualc {i : _} {a1 : Int32} (h8 : st8 st = true) : rt xs (d + 1) m hs (.invokevirtual i, n, (86, 2, 7), [k]) [] (L, .int a1 :: .ref 28 :: st, hc σ M R) = aft xs (d + 1) m hs 7 k L st (ev xs d 86 0 ([.ref 28, .int a1, .retAddr 9, .retAddr 9], [], hc σ M R)) := xq_86_7_virtual rfl h8
theorem xq_87_7_virtual {i : _} {a0 : Nat} {a1 : Int32} {a2 : Int32} (hr : cls h a0 = some 7) (h8 : st8 st = true) : rt xs (d + 1) m hs (.invokevirtual i, n, (87, 3, 7), [k]) [] (L, .int a2 :: .int a1 :: .ref a0 :: st, h) = aft xs (d + 1) m hs 7 k L st (ev xs d 87 0 ([.ref a0, .int a1, .int a2, .retAddr 9, .retAddr 9], [], h)) := ab_xq (as := [.int a2, .int a1, .ref a0]) em_87 rfl (by decide) rfl h8 (Or.inr (rcv_c hr rfl))
theorem xq_87_7_virtualc {i : _} {a1 : Int32} {a2 : Int32} (h8 : st8 st = true) : rt xs (d + 1) m hs (.invokevirtual i, n, (87, 3, 7), [k]) [] (L, .int a2 :: .int a1 :: .ref 28 :: st, hc σ M R) = aft xs (d + 1) m hs 7 k L st (ev xs d 87 0 ([.ref 28, .int a1, .int a2, .retAddr 9, .retAddr 9], [], hc σ M R)) := xq_87_7_virtual rfl h8
theorem xq_88_7_virtual {i : _} {a0 : Nat} {a1 : Int32} {a2 : Int32} (hr : cls h a0 = some 7) (h8 : st8 st = true) : rt xs (d + 1) m hs (.invokevirtual i, n, (88, 3, 7), [k]) [] (L, .int a2 :: .int a1 :: .ref a0 :: st, h) = aft xs (d + 1) m hs 7 k L st (ev xs d 88 0 ([.ref a0, .int a1, .int a2, .retAddr 9, .retAddr 9], [], h)) := ab_xq (as := [.int a2, .int a1, .ref a0]) em_88 rfl (by decide) rfl h8 (Or.inr (rcv_c hr rfl))
theorem xq_88_7_virtualc {i : _} {a1 : Int32} {a2 : Int32} (h8 : st8 st = true) : rt xs (d + 1) m hs (.invokevirtual i, n, (88, 3, 7), [k]) [] (L, .int a2 :: .int a1 :: .ref 28 :: st, hc σ M R) = aft xs (d + 1) m hs 7 k L st (ev xs d 88 0 ([.ref 28, .int a1, .int a2, .retAddr 9, .retAddr 9], [], hc σ M R)) := xq_88_7_virtual rfl h8
theorem xq_89_7_virtual {i : _} {a0 : Nat} {a1 : Int32} {a2 : Int32} (hr : cls h a0 = some 7) (h8 : st8 st = true) : rt xs (d + 1) m hs (.invokevirtual i, n, (89, 3, 7), [k]) [] (L, .int a2 :: .int a1 :: .ref a0 :: st, h) = aft xs (d + 1) m hs 7 k L st (ev xs d 89 0 ([.ref a0, .int a1, .int a2, .retAddr 9, .retAddr 9, .retAddr 9, .retAddr 9], [], h)) := ab_xq (as := [.int a2, .int a1, .ref a0]) em_89 rfl (by decide) rfl h8 (Or.inr (rcv_c hr rfl))
theorem xq_89_7_virtualc {i : _} {a1 : Int32} {a2 : Int32} (h8 : st8 st = true) : rt xs (d + 1) m hs (.invokevirtual i, n, (89, 3, 7), [k]) [] (L, .int a2 :: .int a1 :: .ref 28 :: st, hc σ M R) = aft xs (d + 1) m hs 7 k L st (ev xs d 89 0 ([.ref 28, .int a1, .int a2, .retAddr 9, .retAddr 9, .retAddr 9, .retAddr 9], [], hc σ M R)) := xq_89_7_virtual rfl h8
theorem xq_90_7_virtual {i : _} {a0 : Nat} {a1 : Int32} {a2 : Int32} {a3 : Int32} {a4 : Int32} (hr : cls h a0 = some 7) (h8 : st8 st = true) : rt xs (d + 1) m hs (.invokevirtual i, n, (90, 5, 7), [k]) [] (L, .int a4 :: .int a3 :: .int a2 :: .int a1 :: .ref a0 :: st, h) = aft xs (d + 1) m hs 7 k L st (ev xs d 90 0 ([.ref a0, .int a1, .int a2, .int a3, .int a4, .retAddr 9], [], h)) := ab_xq (as := [.int a4, .int a3, .int a2, .int a1, .ref a0]) em_90 rfl (by decide) rfl h8 (Or.inr (rcv_c hr rfl))
theorem xq_90_7_virtualc {i : _} {a1 : Int32} {a2 : Int32} {a3 : Int32} {a4 : Int32} (h8 : st8 st = true) : rt xs (d + 1) m hs (.invokevirtual i, n, (90, 5, 7), [k]) [] (L, .int a4 :: .int a3 :: .int a2 :: .int a1 :: .ref 28 :: st, hc σ M R) = aft xs (d + 1) m hs 7 k L st (ev xs d 90 0 ([.ref 28, .int a1, .int a2, .int a3, .int a4, .retAddr 9], [], hc σ M R)) := xq_90_7_virtual rfl h8
theorem xq_91_7_virtual {i : _} {a0 : Nat} {a1 : Int32} {a2 : Int32} (hr : cls h a0 = some 7) (h8 : st8 st = true) : rt xs (d + 1) m hs (.invokevirtual i, n, (91, 3, 7), [k]) [] (L, .int a2 :: .int a1 :: .ref a0 :: st, h) = aft xs (d + 1) m hs 7 k L st (ev xs d 91 0 ([.ref a0, .int a1, .int a2, .retAddr 9, .retAddr 9, .retAddr 9, .retAddr 9], [], h)) := ab_xq (as := [.int a2, .int a1, .ref a0]) em_91 rfl (by decide) rfl h8 (Or.inr (rcv_c hr rfl))
theorem xq_91_7_virtualc {i : _} {a1 : Int32} {a2 : Int32} (h8 : st8 st = true) : rt xs (d + 1) m hs (.invokevirtual i, n, (91, 3, 7), [k]) [] (L, .int a2 :: .int a1 :: .ref 28 :: st, hc σ M R) = aft xs (d + 1) m hs 7 k L st (ev xs d 91 0 ([.ref 28, .int a1, .int a2, .retAddr 9, .retAddr 9, .retAddr 9, .retAddr 9], [], hc σ M R)) := xq_91_7_virtual rfl h8
theorem xq_92_7_virtual {i : _} {a0 : Nat} {a1 : Int32} {a2 : Int32} {a3 : Int32} (hr : cls h a0 = some 7) (h8 : st8 st = true) : rt xs (d + 1) m hs (.invokevirtual i, n, (92, 4, 7), [k]) [] (L, .int a3 :: .int a2 :: .int a1 :: .ref a0 :: st, h) = aft xs (d + 1) m hs 7 k L st (ev xs d 92 0 ([.ref a0, .int a1, .int a2, .int a3, .retAddr 9, .retAddr 9], [], h)) := ab_xq (as := [.int a3, .int a2, .int a1, .ref a0]) em_92 rfl (by decide) rfl h8 (Or.inr (rcv_c hr rfl))
theorem xq_92_7_virtualc {i : _} {a1 : Int32} {a2 : Int32} {a3 : Int32} (h8 : st8 st = true) : rt xs (d + 1) m hs (.invokevirtual i, n, (92, 4, 7), [k]) [] (L, .int a3 :: .int a2 :: .int a1 :: .ref 28 :: st, hc σ M R) = aft xs (d + 1) m hs 7 k L st (ev xs d 92 0 ([.ref 28, .int a1, .int a2, .int a3, .retAddr 9, .retAddr 9], [], hc σ M R)) := xq_92_7_virtual rfl h8
theorem xq_93_100_special {i : _} {a0 : Nat} {a1 : Nat} (h8 : st8 st = true) : rt xs (d + 1) m hs (.invokespecial i, n, (93, 2, 100), [k]) [] (L, .ref a1 :: .ref a0 :: st, h) = aft xs (d + 1) m hs 100 k L st (ev xs d 93 0 ([.ref a0, .ref a1], [], h)) := ab_xq (as := [.ref a1, .ref a0]) em_93 rfl (by decide) rfl h8 (Or.inr (rcv_t (by decide)))
theorem xq_94_8_virtual {i : _} {a0 : Nat} {a1 : Int32} (hr : cls h a0 = some 8) (h8 : st8 st = true) : rt xs (d + 1) m hs (.invokevirtual i, n, (94, 2, 8), [k]) [] (L, .int a1 :: .ref a0 :: st, h) = aft xs (d + 1) m hs 8 k L st (ev xs d 94 0 ([.ref a0, .int a1, .retAddr 9, .retAddr 9], [], h)) := ab_xq (as := [.int a1, .ref a0]) em_94 rfl (by decide) rfl h8 (Or.inr (rcv_c hr rfl))
theorem xq_94_8_virtualc {i : _} {a1 : Int32} (h8 : st8 st = true) : rt xs (d + 1) m hs (.invokevirtual i, n, (94, 2, 8), [k]) [] (L, .int a1 :: .ref 43 :: st, hc σ M R) = aft xs (d + 1) m hs 8 k L st (ev xs d 94 0 ([.ref 43, .int a1, .retAddr 9, .retAddr 9], [], hc σ M R)) := xq_94_8_virtual rfl h8
theorem xq_95_8_virtual {i : _} {a0 : Nat} {a1 : Int32} (hr : cls h a0 = some 8) (h8 : st8 st = true) : rt xs (d + 1) m hs (.invokevirtual i, n, (95, 2, 8), [k]) [] (L, .int a1 :: .ref a0 :: st, h) = aft xs (d + 1) m hs 8 k L st (ev xs d 95 0 ([.ref a0, .int a1, .retAddr 9, .retAddr 9], [], h)) := ab_xq (as := [.int a1, .ref a0]) em_95 rfl (by decide) rfl h8 (Or.inr (rcv_c hr rfl))
theorem xq_95_8_virtualc {i : _} {a1 : Int32} (h8 : st8 st = true) : rt xs (d + 1) m hs (.invokevirtual i, n, (95, 2, 8), [k]) [] (L, .int a1 :: .ref 43 :: st, hc σ M R) = aft xs (d + 1) m hs 8 k L st (ev xs d 95 0 ([.ref 43, .int a1, .retAddr 9, .retAddr 9], [], hc σ M R)) := xq_95_8_virtual rfl h8
theorem xq_96_8_virtual {i : _} {a0 : Nat} {a1 : Int32} (hr : cls h a0 = some 8) (h8 : st8 st = true) : rt xs (d + 1) m hs (.invokevirtual i, n, (96, 2, 8), [k]) [] (L, .int a1 :: .ref a0 :: st, h) = aft xs (d + 1) m hs 8 k L st (ev xs d 96 0 ([.ref a0, .int a1, .retAddr 9, .retAddr 9], [], h)) := ab_xq (as := [.int a1, .ref a0]) em_96 rfl (by decide) rfl h8 (Or.inr (rcv_c hr rfl))
theorem xq_96_8_virtualc {i : _} {a1 : Int32} (h8 : st8 st = true) : rt xs (d + 1) m hs (.invokevirtual i, n, (96, 2, 8), [k]) [] (L, .int a1 :: .ref 43 :: st, hc σ M R) = aft xs (d + 1) m hs 8 k L st (ev xs d 96 0 ([.ref 43, .int a1, .retAddr 9, .retAddr 9], [], hc σ M R)) := xq_96_8_virtual rfl h8
theorem xq_97_101_special {i : _} {a0 : Nat} (h8 : st8 st = true) : rt xs (d + 1) m hs (.invokespecial i, n, (97, 1, 101), [k]) [] (L, .ref a0 :: st, h) = aft xs (d + 1) m hs 101 k L st (ev xs d 97 0 ([.ref a0], [], h)) := ab_xq (as := [.ref a0]) em_97 rfl (by decide) rfl h8 (Or.inr (rcv_t (by decide)))
theorem xq_98_9_virtual {i : _} {a0 : Nat} {a1 : Int32} (hr : cls h a0 = some 9) (h8 : st8 st = true) : rt xs (d + 1) m hs (.invokevirtual i, n, (98, 2, 9), [k]) [] (L, .int a1 :: .ref a0 :: st, h) = aft xs (d + 1) m hs 9 k L st (ev xs d 98 0 ([.ref a0, .int a1], [], h)) := ab_xq (as := [.int a1, .ref a0]) em_98 rfl (by decide) rfl h8 (Or.inr (rcv_c hr rfl))
theorem xq_98_9_virtualt {a0 : Nat} (ht : TT a0) {i : _} {a1 : Int32} (h8 : st8 st = true) : rt xs (d + 1) m hs (.invokevirtual i, n, (98, 2, 9), [k]) [] (L, .int a1 :: .ref a0 :: st, hc σ M R) = aft xs (d + 1) m hs 9 k L st (ev xs d 98 0 ([.ref a0, .int a1], [], hc σ M R)) := xq_98_9_virtual (cls_t ht) h8
theorem xq_99_9_virtual {i : _} {a0 : Nat} {a1 : Nat} (hr : cls h a0 = some 9) (h8 : st8 st = true) : rt xs (d + 1) m hs (.invokevirtual i, n, (99, 2, 9), [k]) [] (L, .ref a1 :: .ref a0 :: st, h) = aft xs (d + 1) m hs 9 k L st (ev xs d 99 0 ([.ref a0, .ref a1], [], h)) := ab_xq (as := [.ref a1, .ref a0]) em_99 rfl (by decide) rfl h8 (Or.inr (rcv_c hr rfl))
theorem xq_99_9_virtualt {a0 : Nat} (ht : TT a0) {i : _} {a1 : Nat} (h8 : st8 st = true) : rt xs (d + 1) m hs (.invokevirtual i, n, (99, 2, 9), [k]) [] (L, .ref a1 :: .ref a0 :: st, hc σ M R) = aft xs (d + 1) m hs 9 k L st (ev xs d 99 0 ([.ref a0, .ref a1], [], hc σ M R)) := xq_99_9_virtual (cls_t ht) h8
theorem xq_100_9_virtual {i : _} {a0 : Nat} {a1 : Int32} (hr : cls h a0 = some 9) (h8 : st8 st = true) : rt xs (d + 1) m hs (.invokevirtual i, n, (100, 2, 9), [k]) [] (L, .int a1 :: .ref a0 :: st, h) = aft xs (d + 1) m hs 9 k L st (ev xs d 100 0 ([.ref a0, .int a1], [], h)) := ab_xq (as := [.int a1, .ref a0]) em_100 rfl (by decide) rfl h8 (Or.inr (rcv_c hr rfl))
theorem xq_100_9_virtualt {a0 : Nat} (ht : TT a0) {i : _} {a1 : Int32} (h8 : st8 st = true) : rt xs (d + 1) m hs (.invokevirtual i, n, (100, 2, 9), [k]) [] (L, .int a1 :: .ref a0 :: st, hc σ M R) = aft xs (d + 1) m hs 9 k L st (ev xs d 100 0 ([.ref a0, .int a1], [], hc σ M R)) := xq_100_9_virtual (cls_t ht) h8
theorem xq_101_9_virtual {i : _} {a0 : Nat} {a1 : Nat} (hr : cls h a0 = some 9) (h8 : st8 st = true) : rt xs (d + 1) m hs (.invokevirtual i, n, (101, 2, 9), [k]) [] (L, .ref a1 :: .ref a0 :: st, h) = aft xs (d + 1) m hs 9 k L st (ev xs d 101 0 ([.ref a0, .ref a1, .retAddr 9, .retAddr 9], [], h)) := ab_xq (as := [.ref a1, .ref a0]) em_101 rfl (by decide) rfl h8 (Or.inr (rcv_c hr rfl))
theorem xq_101_9_virtualt {a0 : Nat} (ht : TT a0) {i : _} {a1 : Nat} (h8 : st8 st = true) : rt xs (d + 1) m hs (.invokevirtual i, n, (101, 2, 9), [k]) [] (L, .ref a1 :: .ref a0 :: st, hc σ M R) = aft xs (d + 1) m hs 9 k L st (ev xs d 101 0 ([.ref a0, .ref a1, .retAddr 9, .retAddr 9], [], hc σ M R)) := xq_101_9_virtual (cls_t ht) h8
theorem xq_102_9_virtual {i : _} {a0 : Nat} {a1 : Nat} (hr : cls h a0 = some 9) (h8 : st8 st = true) : rt xs (d + 1) m hs (.invokevirtual i, n, (102, 2, 9), [k]) [] (L, .ref a1 :: .ref a0 :: st, h) = aft xs (d + 1) m hs 9 k L st (ev xs d 102 0 ([.ref a0, .ref a1, .retAddr 9], [], h)) := ab_xq (as := [.ref a1, .ref a0]) em_102 rfl (by decide) rfl h8 (Or.inr (rcv_c hr rfl))
theorem xq_102_9_virtualt {a0 : Nat} (ht : TT a0) {i : _} {a1 : Nat} (h8 : st8 st = true) : rt xs (d + 1) m hs (.invokevirtual i, n, (102, 2, 9), [k]) [] (L, .ref a1 :: .ref a0 :: st, hc σ M R) = aft xs (d + 1) m hs 9 k L st (ev xs d 102 0 ([.ref a0, .ref a1, .retAddr 9], [], hc σ M R)) := xq_102_9_virtual (cls_t ht) h8
theorem xq_103_100_special {i : _} {a0 : Nat} {a1 : Nat} {a2 : Nat} (h8 : st8 st = true) : rt xs (d + 1) m hs (.invokespecial i, n, (103, 3, 100), [k]) [] (L, .ref a2 :: .ref a1 :: .ref a0 :: st, h) = aft xs (d + 1) m hs 100 k L st (ev xs d 103 0 ([.ref a0, .ref a1, .ref a2], [], h)) := ab_xq (as := [.ref a2, .ref a1, .ref a0]) em_103 rfl (by decide) rfl h8 (Or.inr (rcv_t (by decide)))
theorem xq_104_10_virtual {i : _} {a0 : Nat} (hr : cls h a0 = some 10) (h8 : st8 st = true) : rt xs (d + 1) m hs (.invokevirtual i, n, (104, 1, 10), [k]) [] (L, .ref a0 :: st, h) = aft xs (d + 1) m hs 10 k L st (ev xs d 104 0 ([.ref a0, .retAddr 9, .retAddr 9, .retAddr 9], [], h)) := ab_xq (as := [.ref a0]) em_104 rfl (by decide) rfl h8 (Or.inr (rcv_c hr rfl))
theorem xq_104_10_virtualc {i : _}  (h8 : st8 st = true) : rt xs (d + 1) m hs (.invokevirtual i, n, (104, 1, 10), [k]) [] (L, .ref 37 :: st, hc σ M R) = aft xs (d + 1) m hs 10 k L st (ev xs d 104 0 ([.ref 37, .retAddr 9, .retAddr 9, .retAddr 9], [], hc σ M R)) := xq_104_10_virtual rfl h8
theorem xq_105_10_virtual {i : _} {a0 : Nat} {a1 : Int32} {a2 : Int32} (hr : cls h a0 = some 10) (h8 : st8 st = true) : rt xs (d + 1) m hs (.invokevirtual i, n, (105, 3, 10), [k]) [] (L, .int a2 :: .int a1 :: .ref a0 :: st, h) = aft xs (d + 1) m hs 10 k L st (ev xs d 105 0 ([.ref a0, .int a1, .int a2, .retAddr 9, .retAddr 9, .retAddr 9], [], h)) := ab_xq (as := [.int a2, .int a1, .ref a0]) em_105 rfl (by decide) rfl h8 (Or.inr (rcv_c hr rfl))
theorem xq_105_10_virtualc {i : _} {a1 : Int32} {a2 : Int32} (h8 : st8 st = true) : rt xs (d + 1) m hs (.invokevirtual i, n, (105, 3, 10), [k]) [] (L, .int a2 :: .int a1 :: .ref 37 :: st, hc σ M R) = aft xs (d + 1) m hs 10 k L st (ev xs d 105 0 ([.ref 37, .int a1, .int a2, .retAddr 9, .retAddr 9, .retAddr 9], [], hc σ M R)) := xq_105_10_virtual rfl h8
theorem xq_106_10_virtual {i : _} {a0 : Nat} {a1 : Int32} {a2 : Int32} {a3 : Int32} (hr : cls h a0 = some 10) (h8 : st8 st = true) : rt xs (d + 1) m hs (.invokevirtual i, n, (106, 4, 10), [k]) [] (L, .int a3 :: .int a2 :: .int a1 :: .ref a0 :: st, h) = aft xs (d + 1) m hs 10 k L st (ev xs d 106 0 ([.ref a0, .int a1, .int a2, .int a3], [], h)) := ab_xq (as := [.int a3, .int a2, .int a1, .ref a0]) em_106 rfl (by decide) rfl h8 (Or.inr (rcv_c hr rfl))
theorem xq_106_10_virtualc {i : _} {a1 : Int32} {a2 : Int32} {a3 : Int32} (h8 : st8 st = true) : rt xs (d + 1) m hs (.invokevirtual i, n, (106, 4, 10), [k]) [] (L, .int a3 :: .int a2 :: .int a1 :: .ref 37 :: st, hc σ M R) = aft xs (d + 1) m hs 10 k L st (ev xs d 106 0 ([.ref 37, .int a1, .int a2, .int a3], [], hc σ M R)) := xq_106_10_virtual rfl h8
theorem xq_107_10_virtual {i : _} {a0 : Nat} (hr : cls h a0 = some 10) (h8 : st8 st = true) : rt xs (d + 1) m hs (.invokevirtual i, n, (107, 1, 10), [k]) [] (L, .ref a0 :: st, h) = aft xs (d + 1) m hs 10 k L st (ev xs d 107 0 ([.ref a0, .retAddr 9, .retAddr 9], [], h)) := ab_xq (as := [.ref a0]) em_107 rfl (by decide) rfl h8 (Or.inr (rcv_c hr rfl))
theorem xq_107_10_virtualc {i : _}  (h8 : st8 st = true) : rt xs (d + 1) m hs (.invokevirtual i, n, (107, 1, 10), [k]) [] (L, .ref 37 :: st, hc σ M R) = aft xs (d + 1) m hs 10 k L st (ev xs d 107 0 ([.ref 37, .retAddr 9, .retAddr 9], [], hc σ M R)) := xq_107_10_virtual rfl h8
theorem xq_108_10_virtual {i : _} {a0 : Nat} {a1 : Int32} (hr : cls h a0 = some 10) (h8 : st8 st = true) : rt xs (d + 1) m hs (.invokevirtual i, n, (108, 2, 10), [k]) [] (L, .int a1 :: .ref a0 :: st, h) = aft xs (d + 1) m hs 10 k L st (ev xs d 108 0 ([.ref a0, .int a1, .retAddr 9, .retAddr 9, .retAddr 9], [], h)) := ab_xq (as := [.int a1, .ref a0]) em_108 rfl (by decide) rfl h8 (Or.inr (rcv_c hr rfl))
theorem xq_108_10_virtualc {i : _} {a1 : Int32} (h8 : st8 st = true) : rt xs (d + 1) m hs (.invokevirtual i, n, (108, 2, 10), [k]) [] (L, .int a1 :: .ref 37 :: st, hc σ M R) = aft xs (d + 1) m hs 10 k L st (ev xs d 108 0 ([.ref 37, .int a1, .retAddr 9, .retAddr 9, .retAddr 9], [], hc σ M R)) := xq_108_10_virtual rfl h8
theorem xq_109_10_virtual {i : _} {a0 : Nat} {a1 : Int32} (hr : cls h a0 = some 10) (h8 : st8 st = true) : rt xs (d + 1) m hs (.invokevirtual i, n, (109, 2, 10), [k]) [] (L, .int a1 :: .ref a0 :: st, h) = aft xs (d + 1) m hs 10 k L st (ev xs d 109 0 ([.ref a0, .int a1, .retAddr 9, .retAddr 9], [], h)) := ab_xq (as := [.int a1, .ref a0]) em_109 rfl (by decide) rfl h8 (Or.inr (rcv_c hr rfl))
theorem xq_109_10_virtualc {i : _} {a1 : Int32} (h8 : st8 st = true) : rt xs (d + 1) m hs (.invokevirtual i, n, (109, 2, 10), [k]) [] (L, .int a1 :: .ref 37 :: st, hc σ M R) = aft xs (d + 1) m hs 10 k L st (ev xs d 109 0 ([.ref 37, .int a1, .retAddr 9, .retAddr 9], [], hc σ M R)) := xq_109_10_virtual rfl h8
theorem xq_110_10_virtual {i : _} {a0 : Nat} (hr : cls h a0 = some 10) (h8 : st8 st = true) : rt xs (d + 1) m hs (.invokevirtual i, n, (110, 1, 10), [k]) [] (L, .ref a0 :: st, h) = aft xs (d + 1) m hs 10 k L st (ev xs d 110 0 ([.ref a0, .retAddr 9, .retAddr 9, .retAddr 9, .retAddr 9], [], h)) := ab_xq (as := [.ref a0]) em_110 rfl (by decide) rfl h8 (Or.inr (rcv_c hr rfl))
theorem xq_110_10_virtualc {i : _}  (h8 : st8 st = true) : rt xs (d + 1) m hs (.invokevirtual i, n, (110, 1, 10), [k]) [] (L, .ref 37 :: st, hc σ M R) = aft xs (d + 1) m hs 10 k L st (ev xs d 110 0 ([.ref 37, .retAddr 9, .retAddr 9, .retAddr 9, .retAddr 9], [], hc σ M R)) := xq_110_10_virtual rfl h8
theorem xq_111_10_virtual {i : _} {a0 : Nat} {a1 : Int32} {a2 : Int32} {a3 : Int32} (hr : cls h a0 = some 10) (h8 : st8 st = true) : rt xs (d + 1) m hs (.invokevirtual i, n, (111, 4, 10), [k]) [] (L, .int a3 :: .int a2 :: .int a1 :: .ref a0 :: st, h) = aft xs (d + 1) m hs 10 k L st (ev xs d 111 0 ([.ref a0, .int a1, .int a2, .int a3, .retAddr 9], [], h)) := ab_xq (as := [.int a3, .int a2, .int a1, .ref a0]) em_111 rfl (by decide) rfl h8 (Or.inr (rcv_c hr rfl))
theorem xq_111_10_virtualc {i : _} {a1 : Int32} {a2 : Int32} {a3 : Int32} (h8 : st8 st = true) : rt xs (d + 1) m hs (.invokevirtual i, n, (111, 4, 10), [k]) [] (L, .int a3 :: .int a2 :: .int a1 :: .ref 37 :: st, hc σ M R) = aft xs (d + 1) m hs 10 k L st (ev xs d 111 0 ([.ref 37, .int a1, .int a2, .int a3, .retAddr 9], [], hc σ M R)) := xq_111_10_virtual rfl h8
theorem xq_112_10_virtual {i : _} {a0 : Nat} {a1 : Int32} {a2 : Int32} {a3 : Int32} {a4 : Int32} (hr : cls h a0 = some 10) (h8 : st8 st = true) : rt xs (d + 1) m hs (.invokevirtual i, n, (112, 5, 10), [k]) [] (L, .int a4 :: .int a3 :: .int a2 :: .int a1 :: .ref a0 :: st, h) = aft xs (d + 1) m hs 10 k L st (ev xs d 112 0 ([.ref a0, .int a1, .int a2, .int a3, .int a4, .retAddr 9, .retAddr 9, .retAddr 9, .retAddr 9], [], h)) := ab_xq (as := [.int a4, .int a3, .int a2, .int a1, .ref a0]) em_112 rfl (by decide) rfl h8 (Or.inr (rcv_c hr rfl))
theorem xq_112_10_virtualc {i : _} {a1 : Int32} {a2 : Int32} {a3 : Int32} {a4 : Int32} (h8 : st8 st = true) : rt xs (d + 1) m hs (.invokevirtual i, n, (112, 5, 10), [k]) [] (L, .int a4 :: .int a3 :: .int a2 :: .int a1 :: .ref 37 :: st, hc σ M R) = aft xs (d + 1) m hs 10 k L st (ev xs d 112 0 ([.ref 37, .int a1, .int a2, .int a3, .int a4, .retAddr 9, .retAddr 9, .retAddr 9, .retAddr 9], [], hc σ M R)) := xq_112_10_virtual rfl h8
theorem xq_113_10_virtual {i : _} {a0 : Nat} (hr : cls h a0 = some 10) (h8 : st8 st = true) : rt xs (d + 1) m hs (.invokevirtual i, n, (113, 1, 10), [k]) [] (L, .ref a0 :: st, h) = aft xs (d + 1) m hs 10 k L st (ev xs d 113 0 ([.ref a0, .retAddr 9, .retAddr 9], [], h)) := ab_xq (as := [.ref a0]) em_113 rfl (by decide) rfl h8 (Or.inr (rcv_c hr rfl))
theorem xq_113_10_virtualc {i : _}  (h8 : st8 st = true) : rt xs (d + 1) m hs (.invokevirtual i, n, (113, 1, 10), [k]) [] (L, .ref 37 :: st, hc σ M R) = aft xs (d + 1) m hs 10 k L st (ev xs d 113 0 ([.ref 37, .retAddr 9, .retAddr 9], [], hc σ M R)) := xq_113_10_virtual rfl h8
theorem xq_114_10_virtual {i : _} {a0 : Nat} {a1 : Nat} {a2 : Int32} (hr : cls h a0 = some 10) (h8 : st8 st = true) : rt xs (d + 1) m hs (.invokevirtual i, n, (114, 3, 10), [k]) [] (L, .int a2 :: .ref a1 :: .ref a0 :: st, h) = aft xs (d + 1) m hs 10 k L st (ev xs d 114 0 ([.ref a0, .ref a1, .int a2, .retAddr 9, .retAddr 9], [], h)) := ab_xq (as := [.int a2, .ref a1, .ref a0]) em_114 rfl (by decide) rfl h8 (Or.inr (rcv_c hr rfl))
theorem xq_114_10_virtualc {i : _} {a1 : Nat} {a2 : Int32} (h8 : st8 st = true) : rt xs (d + 1) m hs (.invokevirtual i, n, (114, 3, 10), [k]) [] (L, .int a2 :: .ref a1 :: .ref 37 :: st, hc σ M R) = aft xs (d + 1) m hs 10 k L st (ev xs d 114 0 ([.ref 37, .ref a1, .int a2, .retAddr 9, .retAddr 9], [], hc σ M R)) := xq_114_10_virtual rfl h8
theorem xq_115_10_virtual {i : _} {a0 : Nat} {a1 : Int32} (hr : cls h a0 = some 10) (h8 : st8 st = true) : rt xs (d + 1) m hs (.invokevirtual i, n, (115, 2, 10), [k]) [] (L, .int a1 :: .ref a0 :: st, h) = aft xs (d + 1) m hs 10 k L st (ev xs d 115 0 ([.ref a0, .int a1, .retAddr 9, .retAddr 9, .retAddr 9, .retAddr 9], [], h)) := ab_xq (as := [.int a1, .ref a0]) em_115 rfl (by decide) rfl h8 (Or.inr (rcv_c hr rfl))
theorem xq_115_10_virtualc {i : _} {a1 : Int32} (h8 : st8 st = true) : rt xs (d + 1) m hs (.invokevirtual i, n, (115, 2, 10), [k]) [] (L, .int a1 :: .ref 37 :: st, hc σ M R) = aft xs (d + 1) m hs 10 k L st (ev xs d 115 0 ([.ref 37, .int a1, .retAddr 9, .retAddr 9, .retAddr 9, .retAddr 9], [], hc σ M R)) := xq_115_10_virtual rfl h8
theorem xq_116_10_virtual {i : _} {a0 : Nat} {a1 : Int32} (hr : cls h a0 = some 10) (h8 : st8 st = true) : rt xs (d + 1) m hs (.invokevirtual i, n, (116, 2, 10), [k]) [] (L, .int a1 :: .ref a0 :: st, h) = aft xs (d + 1) m hs 10 k L st (ev xs d 116 0 ([.ref a0, .int a1, .retAddr 9, .retAddr 9], [], h)) := ab_xq (as := [.int a1, .ref a0]) em_116 rfl (by decide) rfl h8 (Or.inr (rcv_c hr rfl))
theorem xq_116_10_virtualc {i : _} {a1 : Int32} (h8 : st8 st = true) : rt xs (d + 1) m hs (.invokevirtual i, n, (116, 2, 10), [k]) [] (L, .int a1 :: .ref 37 :: st, hc σ M R) = aft xs (d + 1) m hs 10 k L st (ev xs d 116 0 ([.ref 37, .int a1, .retAddr 9, .retAddr 9], [], hc σ M R)) := xq_116_10_virtual rfl h8
theorem xq_117_10_virtual {i : _} {a0 : Nat} {a1 : Int32} (hr : cls h a0 = some 10) (h8 : st8 st = true) : rt xs (d + 1) m hs (.invokevirtual i, n, (117, 2, 10), [k]) [] (L, .int a1 :: .ref a0 :: st, h) = aft xs (d + 1) m hs 10 k L st (ev xs d 117 0 ([.ref a0, .int a1, .retAddr 9, .retAddr 9], [], h)) := ab_xq (as := [.int a1, .ref a0]) em_117 rfl (by decide) rfl h8 (Or.inr (rcv_c hr rfl))
theorem xq_117_10_virtualc {i : _} {a1 : Int32} (h8 : st8 st = true) : rt xs (d + 1) m hs (.invokevirtual i, n, (117, 2, 10), [k]) [] (L, .int a1 :: .ref 37 :: st, hc σ M R) = aft xs (d + 1) m hs 10 k L st (ev xs d 117 0 ([.ref 37, .int a1, .retAddr 9, .retAddr 9], [], hc σ M R)) := xq_117_10_virtual rfl h8
theorem xq_118_10_virtual {i : _} {a0 : Nat} {a1 : Int32} (hr : cls h a0 = some 10) (h8 : st8 st = true) : rt xs (d + 1) m hs (.invokevirtual i, n, (118, 2, 10), [k]) [] (L, .int a1 :: .ref a0 :: st, h) = aft xs (d + 1) m hs 10 k L st (ev xs d 118 0 ([.ref a0, .int a1, .retAddr 9, .retAddr 9], [], h)) := ab_xq (as := [.int a1, .ref a0]) em_118 rfl (by decide) rfl h8 (Or.inr (rcv_c hr rfl))
theorem xq_118_10_virtualc {i : _} {a1 : Int32} (h8 : st8 st = true) : rt xs (d + 1) m hs (.invokevirtual i, n, (118, 2, 10), [k]) [] (L, .int a1 :: .ref 37 :: st, hc σ M R) = aft xs (d + 1) m hs 10 k L st (ev xs d 118 0 ([.ref 37, .int a1, .retAddr 9, .retAddr 9], [], hc σ M R)) := xq_118_10_virtual rfl h8
theorem xq_119_10_virtual {i : _} {a0 : Nat} (hr : cls h a0 = some 10) (h8 : st8 st = true) : rt xs (d + 1) m hs (.invokevirtual i, n, (119, 1, 10), [k]) [] (L, .ref a0 :: st, h) = aft xs (d + 1) m hs 10 k L st (ev xs d 119 0 ([.ref a0, .retAddr 9, .retAddr 9], [], h)) := ab_xq (as := [.ref a0]) em_119 rfl (by decide) rfl h8 (Or.inr (rcv_c hr rfl))
theorem xq_119_10_virtualc {i : _}  (h8 : st8 st = true) : rt xs (d + 1) m hs (.invokevirtual i, n, (119, 1, 10), [k]) [] (L, .ref 37 :: st, hc σ M R) = aft xs (d + 1) m hs 10 k L st (ev xs d 119 0 ([.ref 37, .retAddr 9, .retAddr 9], [], hc σ M R)) := xq_119_10_virtual rfl h8
theorem xq_120_10_virtual {i : _} {a0 : Nat} {a1 : Int32} {a2 : Int32} (hr : cls h a0 = some 10) (h8 : st8 st = true) : rt xs (d + 1) m hs (.invokevirtual i, n, (120, 3, 10), [k]) [] (L, .int a2 :: .int a1 :: .ref a0 :: st, h) = aft xs (d + 1) m hs 10 k L st (ev xs d 120 0 ([.ref a0, .int a1, .int a2, .retAddr 9, .retAddr 9, .retAddr 9, .retAddr 9], [], h)) := ab_xq (as := [.int a2, .int a1, .ref a0]) em_120 rfl (by decide) rfl h8 (Or.inr (rcv_c hr rfl))
theorem xq_120_10_virtualc {i : _} {a1 : Int32} {a2 : Int32} (h8 : st8 st = true) : rt xs (d + 1) m hs (.invokevirtual i, n, (120, 3, 10), [k]) [] (L, .int a2 :: .int a1 :: .ref 37 :: st, hc σ M R) = aft xs (d + 1) m hs 10 k L st (ev xs d 120 0 ([.ref 37, .int a1, .int a2, .retAddr 9, .retAddr 9, .retAddr 9, .retAddr 9], [], hc σ M R)) := xq_120_10_virtual rfl h8
theorem xq_121_100_special {i : _} {a0 : Nat} (h8 : st8 st = true) : rt xs (d + 1) m hs (.invokespecial i, n, (121, 1, 100), [k]) [] (L, .ref a0 :: st, h) = aft xs (d + 1) m hs 100 k L st (ev xs d 121 0 ([.ref a0], [], h)) := ab_xq (as := [.ref a0]) em_121 rfl (by decide) rfl h8 (Or.inr (rcv_t (by decide)))
theorem xq_122_11_virtual {i : _} {a0 : Nat} {a1 : Int32} {a2 : Int32} (hr : cls h a0 = some 11) (h8 : st8 st = true) : rt xs (d + 1) m hs (.invokevirtual i, n, (122, 3, 11), [k]) [] (L, .int a2 :: .int a1 :: .ref a0 :: st, h) = aft xs (d + 1) m hs 11 k L st (ev xs d 122 0 ([.ref a0, .int a1, .int a2], [], h)) := ab_xq (as := [.int a2, .int a1, .ref a0]) em_122 rfl (by decide) rfl h8 (Or.inr (rcv_c hr rfl))
theorem xq_122_11_virtualc {i : _} {a1 : Int32} {a2 : Int32} (h8 : st8 st = true) : rt xs (d + 1) m hs (.invokevirtual i, n, (122, 3, 11), [k]) [] (L, .int a2 :: .int a1 :: .ref 0 :: st, hc σ M R) = aft xs (d + 1) m hs 11 k L st (ev xs d 122 0 ([.ref 0, .int a1, .int a2], [], hc σ M R)) := xq_122_11_virtual rfl h8
theorem xq_123_11_virtual {i : _} {a0 : Nat} {a1 : Int32} {a2 : Int32} (hr : cls h a0 = some 11) (h8 : st8 st = true) : rt xs (d + 1) m hs (.invokevirtual i, n, (123, 3, 11), [k]) [] (L, .int a2 :: .int a1 :: .ref a0 :: st, h) = aft xs (d + 1) m hs 11 k L st (ev xs d 123 0 ([.ref a0, .int a1, .int a2, .retAddr 9], [], h)) := ab_xq (as := [.int a2, .int a1, .ref a0]) em_123 rfl (by decide) rfl h8 (Or.inr (rcv_c hr rfl))
theorem xq_123_11_virtualc {i : _} {a1 : Int32} {a2 : Int32} (h8 : st8 st = true) : rt xs (d + 1) m hs (.invokevirtual i, n, (123, 3, 11), [k]) [] (L, .int a2 :: .int a1 :: .ref 0 :: st, hc σ M R) = aft xs (d + 1) m hs 11 k L st (ev xs d 123 0 ([.ref 0, .int a1, .int a2, .retAddr 9], [], hc σ M R)) := xq_123_11_virtual rfl h8
theorem xq_124_11_virtual {i : _} {a0 : Nat} (hr : cls h a0 = some 11) (h8 : st8 st = true) : rt xs (d + 1) m hs (.invokevirtual i, n, (124, 1, 11), [k]) [] (L, .ref a0 :: st, h) = aft xs (d + 1) m hs 11 k L st (ev xs d 124 0 ([.ref a0], [], h)) := ab_xq (as := [.ref a0]) em_124 rfl (by decide) rfl h8 (Or.inr (rcv_c hr rfl))
theorem xq_124_11_virtualc {i : _}  (h8 : st8 st = true) : rt xs (d + 1) m hs (.invokevirtual i, n, (124, 1, 11), [k]) [] (L, .ref 0 :: st, hc σ M R) = aft xs (d + 1) m hs 11 k L st (ev xs d 124 0 ([.ref 0], [], hc σ M R)) := xq_124_11_virtual rfl h8
theorem xq_125_11_virtual {i : _} {a0 : Nat} {a1 : Int32} (hr : cls h a0 = some 11) (h8 : st8 st = true) : rt xs (d + 1) m hs (.invokevirtual i, n, (125, 2, 11), [k]) [] (L, .int a1 :: .ref a0 :: st, h) = aft xs (d + 1) m hs 11 k L st (ev xs d 125 0 ([.ref a0, .int a1, .retAddr 9], [], h)) := ab_xq (as := [.int a1, .ref a0]) em_125 rfl (by decide) rfl h8 (Or.inr (rcv_c hr rfl))
theorem xq_125_11_virtualc {i : _} {a1 : Int32} (h8 : st8 st = true) : rt xs (d + 1) m hs (.invokevirtual i, n, (125, 2, 11), [k]) [] (L, .int a1 :: .ref 0 :: st, hc σ M R) = aft xs (d + 1) m hs 11 k L st (ev xs d 125 0 ([.ref 0, .int a1, .retAddr 9], [], hc σ M R)) := xq_125_11_virtual rfl h8
theorem xq_126_11_virtual {i : _} {a0 : Nat} {a1 : Int32} {a2 : Int32} {a3 : Int32} (hr : cls h a0 = some 11) (h8 : st8 st = true) : rt xs (d + 1) m hs (.invokevirtual i, n, (126, 4, 11), [k]) [] (L, .int a3 :: .int a2 :: .int a1 :: .ref a0 :: st, h) = aft xs (d + 1) m hs 11 k L st (ev xs d 126 0 ([.ref a0, .int a1, .int a2, .int a3, .retAddr 9], [], h)) := ab_xq (as := [.int a3, .int a2, .int a1, .ref a0]) em_126 rfl (by decide) rfl h8 (Or.inr (rcv_c hr rfl))
theorem xq_126_11_virtualc {i : _} {a1 : Int32} {a2 : Int32} {a3 : Int32} (h8 : st8 st = true) : rt xs (d + 1) m hs (.invokevirtual i, n, (126, 4, 11), [k]) [] (L, .int a3 :: .int a2 :: .int a1 :: .ref 0 :: st, hc σ M R) = aft xs (d + 1) m hs 11 k L st (ev xs d 126 0 ([.ref 0, .int a1, .int a2, .int a3, .retAddr 9], [], hc σ M R)) := xq_126_11_virtual rfl h8
theorem xq_127_11_virtual {i : _} {a0 : Nat} {a1 : Int32} {a2 : Int32} {a3 : Int32} (hr : cls h a0 = some 11) (h8 : st8 st = true) : rt xs (d + 1) m hs (.invokevirtual i, n, (127, 4, 11), [k]) [] (L, .int a3 :: .int a2 :: .int a1 :: .ref a0 :: st, h) = aft xs (d + 1) m hs 11 k L st (ev xs d 127 0 ([.ref a0, .int a1, .int a2, .int a3, .retAddr 9], [], h)) := ab_xq (as := [.int a3, .int a2, .int a1, .ref a0]) em_127 rfl (by decide) rfl h8 (Or.inr (rcv_c hr rfl))
theorem xq_127_11_virtualc {i : _} {a1 : Int32} {a2 : Int32} {a3 : Int32} (h8 : st8 st = true) : rt xs (d + 1) m hs (.invokevirtual i, n, (127, 4, 11), [k]) [] (L, .int a3 :: .int a2 :: .int a1 :: .ref 0 :: st, hc σ M R) = aft xs (d + 1) m hs 11 k L st (ev xs d 127 0 ([.ref 0, .int a1, .int a2, .int a3, .retAddr 9], [], hc σ M R)) := xq_127_11_virtual rfl h8
theorem xq_129_11_virtual {i : _} {a0 : Nat} {a1 : Int32} (hr : cls h a0 = some 11) (h8 : st8 st = true) : rt xs (d + 1) m hs (.invokevirtual i, n, (129, 2, 11), [k]) [] (L, .int a1 :: .ref a0 :: st, h) = aft xs (d + 1) m hs 11 k L st (ev xs d 129 0 ([.ref a0, .int a1], [], h)) := ab_xq (as := [.int a1, .ref a0]) em_129 rfl (by decide) rfl h8 (Or.inr (rcv_c hr rfl))
theorem xq_129_11_virtualc {i : _} {a1 : Int32} (h8 : st8 st = true) : rt xs (d + 1) m hs (.invokevirtual i, n, (129, 2, 11), [k]) [] (L, .int a1 :: .ref 0 :: st, hc σ M R) = aft xs (d + 1) m hs 11 k L st (ev xs d 129 0 ([.ref 0, .int a1], [], hc σ M R)) := xq_129_11_virtual rfl h8
theorem xq_130_11_virtual {i : _} {a0 : Nat} {a1 : Int32} {a2 : Int32} (hr : cls h a0 = some 11) (h8 : st8 st = true) : rt xs (d + 1) m hs (.invokevirtual i, n, (130, 3, 11), [k]) [] (L, .int a2 :: .int a1 :: .ref a0 :: st, h) = aft xs (d + 1) m hs 11 k L st (ev xs d 130 0 ([.ref a0, .int a1, .int a2], [], h)) := ab_xq (as := [.int a2, .int a1, .ref a0]) em_130 rfl (by decide) rfl h8 (Or.inr (rcv_c hr rfl))
theorem xq_130_11_virtualc {i : _} {a1 : Int32} {a2 : Int32} (h8 : st8 st = true) : rt xs (d + 1) m hs (.invokevirtual i, n, (130, 3, 11), [k]) [] (L, .int a2 :: .int a1 :: .ref 0 :: st, hc σ M R) = aft xs (d + 1) m hs 11 k L st (ev xs d 130 0 ([.ref 0, .int a1, .int a2], [], hc σ M R)) := xq_130_11_virtual rfl h8
theorem xq_131_11_virtual {i : _} {a0 : Nat} (hr : cls h a0 = some 11) (h8 : st8 st = true) : rt xs (d + 1) m hs (.invokevirtual i, n, (131, 1, 11), [k]) [] (L, .ref a0 :: st, h) = aft xs (d + 1) m hs 11 k L st (ev xs d 131 0 ([.ref a0], [], h)) := ab_xq (as := [.ref a0]) em_131 rfl (by decide) rfl h8 (Or.inr (rcv_c hr rfl))
theorem xq_131_11_virtualc {i : _}  (h8 : st8 st = true) : rt xs (d + 1) m hs (.invokevirtual i, n, (131, 1, 11), [k]) [] (L, .ref 0 :: st, hc σ M R) = aft xs (d + 1) m hs 11 k L st (ev xs d 131 0 ([.ref 0], [], hc σ M R)) := xq_131_11_virtual rfl h8
theorem xq_132_11_virtual {i : _} {a0 : Nat} (hr : cls h a0 = some 11) (h8 : st8 st = true) : rt xs (d + 1) m hs (.invokevirtual i, n, (132, 1, 11), [k]) [] (L, .ref a0 :: st, h) = aft xs (d + 1) m hs 11 k L st (ev xs d 132 0 ([.ref a0], [], h)) := ab_xq (as := [.ref a0]) em_132 rfl (by decide) rfl h8 (Or.inr (rcv_c hr rfl))
theorem xq_132_11_virtualc {i : _}  (h8 : st8 st = true) : rt xs (d + 1) m hs (.invokevirtual i, n, (132, 1, 11), [k]) [] (L, .ref 0 :: st, hc σ M R) = aft xs (d + 1) m hs 11 k L st (ev xs d 132 0 ([.ref 0], [], hc σ M R)) := xq_132_11_virtual rfl h8
theorem xq_133_11_virtual {i : _} {a0 : Nat} {a1 : Int32} {a2 : Int32} {a3 : Int32} (hr : cls h a0 = some 11) (h8 : st8 st = true) : rt xs (d + 1) m hs (.invokevirtual i, n, (133, 4, 11), [k]) [] (L, .int a3 :: .int a2 :: .int a1 :: .ref a0 :: st, h) = aft xs (d + 1) m hs 11 k L st (ev xs d 133 0 ([.ref a0, .int a1, .int a2, .int a3, .retAddr 9], [], h)) := ab_xq (as := [.int a3, .int a2, .int a1, .ref a0]) em_133 rfl (by decide) rfl h8 (Or.inr (rcv_c hr rfl))
theorem xq_133_11_virtualc {i : _} {a1 : Int32} {a2 : Int32} {a3 : Int32} (h8 : st8 st = true) : rt xs (d + 1) m hs (.invokevirtual i, n, (133, 4, 11), [k]) [] (L, .int a3 :: .int a2 :: .int a1 :: .ref 0 :: st, hc σ M R) = aft xs (d + 1) m hs 11 k L st (ev xs d 133 0 ([.ref 0, .int a1, .int a2, .int a3, .retAddr 9], [], hc σ M R)) := xq_133_11_virtual rfl h8
theorem xq_134_11_virtual {i : _} {a0 : Nat} {a1 : Int32} (hr : cls h a0 = some 11) (h8 : st8 st = true) : rt xs (d + 1) m hs (.invokevirtual i, n, (134, 2, 11), [k]) [] (L, .int a1 :: .ref a0 :: st, h) = aft xs (d + 1) m hs 11 k L st (ev xs d 134 0 ([.ref a0, .int a1], [], h)) := ab_xq (as := [.int a1, .ref a0]) em_134 rfl (by decide) rfl h8 (Or.inr (rcv_c hr rfl))
theorem xq_134_11_virtualc {i : _} {a1 : Int32} (h8 : st8 st = true) : rt xs (d + 1) m hs (.invokevirtual i, n, (134, 2, 11), [k]) [] (L, .int a1 :: .ref 0 :: st, hc σ M R) = aft xs (d + 1) m hs 11 k L st (ev xs d 134 0 ([.ref 0, .int a1], [], hc σ M R)) := xq_134_11_virtual rfl h8
theorem xq_135_11_virtual {i : _} {a0 : Nat} (hr : cls h a0 = some 11) (h8 : st8 st = true) : rt xs (d + 1) m hs (.invokevirtual i, n, (135, 1, 11), [k]) [] (L, .ref a0 :: st, h) = aft xs (d + 1) m hs 11 k L st (ev xs d 135 0 ([.ref a0], [], h)) := ab_xq (as := [.ref a0]) em_135 rfl (by decide) rfl h8 (Or.inr (rcv_c hr rfl))
theorem xq_135_11_virtualc {i : _}  (h8 : st8 st = true) : rt xs (d + 1) m hs (.invokevirtual i, n, (135, 1, 11), [k]) [] (L, .ref 0 :: st, hc σ M R) = aft xs (d + 1) m hs 11 k L st (ev xs d 135 0 ([.ref 0], [], hc σ M R)) := xq_135_11_virtual rfl h8
theorem xq_136_11_virtual {i : _} {a0 : Nat} (hr : cls h a0 = some 11) (h8 : st8 st = true) : rt xs (d + 1) m hs (.invokevirtual i, n, (136, 1, 11), [k]) [] (L, .ref a0 :: st, h) = aft xs (d + 1) m hs 11 k L st (ev xs d 136 0 ([.ref a0], [], h)) := ab_xq (as := [.ref a0]) em_136 rfl (by decide) rfl h8 (Or.inr (rcv_c hr rfl))
theorem xq_136_11_virtualc {i : _}  (h8 : st8 st = true) : rt xs (d + 1) m hs (.invokevirtual i, n, (136, 1, 11), [k]) [] (L, .ref 0 :: st, hc σ M R) = aft xs (d + 1) m hs 11 k L st (ev xs d 136 0 ([.ref 0], [], hc σ M R)) := xq_136_11_virtual rfl h8
theorem xq_137_11_virtual {i : _} {a0 : Nat} (hr : cls h a0 = some 11) (h8 : st8 st = true) : rt xs (d + 1) m hs (.invokevirtual i, n, (137, 1, 11), [k]) [] (L, .ref a0 :: st, h) = aft xs (d + 1) m hs 11 k L st (ev xs d 137 0 ([.ref a0, .retAddr 9, .retAddr 9], [], h)) := ab_xq (as := [.ref a0]) em_137 rfl (by decide) rfl h8 (Or.inr (rcv_c hr rfl))
theorem xq_137_11_virtualc {i : _}  (h8 : st8 st = true) : rt xs (d + 1) m hs (.invokevirtual i, n, (137, 1, 11), [k]) [] (L, .ref 0 :: st, hc σ M R) = aft xs (d + 1) m hs 11 k L st (ev xs d 137 0 ([.ref 0, .retAddr 9, .retAddr 9], [], hc σ M R)) := xq_137_11_virtual rfl h8
theorem xq_138_11_virtual {i : _} {a0 : Nat} (hr : cls h a0 = some 11) (h8 : st8 st = true) : rt xs (d + 1) m hs (.invokevirtual i, n, (138, 1, 11), [k]) [] (L, .ref a0 :: st, h) = aft xs (d + 1) m hs 11 k L st (ev xs d 138 0 ([.ref a0, .retAddr 9], [], h)) := ab_xq (as := [.ref a0]) em_138 rfl (by decide) rfl h8 (Or.inr (rcv_c hr rfl))
theorem xq_138_11_virtualc {i : _}  (h8 : st8 st = true) : rt xs (d + 1) m hs (.invokevirtual i, n, (138, 1, 11), [k]) [] (L, .ref 0 :: st, hc σ M R) = aft xs (d + 1) m hs 11 k L st (ev xs d 138 0 ([.ref 0, .retAddr 9], [], hc σ M R)) := xq_138_11_virtual rfl h8
theorem xq_141_11_virtual {i : _} {a0 : Nat} (hr : cls h a0 = some 11) (h8 : st8 st = true) : rt xs (d + 1) m hs (.invokevirtual i, n, (141, 1, 11), [k]) [] (L, .ref a0 :: st, h) = aft xs (d + 1) m hs 11 k L st (ev xs d 141 0 ([.ref a0], [], h)) := ab_xq (as := [.ref a0]) em_141 rfl (by decide) rfl h8 (Or.inr (rcv_c hr rfl))
theorem xq_141_11_virtualc {i : _}  (h8 : st8 st = true) : rt xs (d + 1) m hs (.invokevirtual i, n, (141, 1, 11), [k]) [] (L, .ref 0 :: st, hc σ M R) = aft xs (d + 1) m hs 11 k L st (ev xs d 141 0 ([.ref 0], [], hc σ M R)) := xq_141_11_virtual rfl h8
theorem xq_142_11_virtual {i : _} {a0 : Nat} (hr : cls h a0 = some 11) (h8 : st8 st = true) : rt xs (d + 1) m hs (.invokevirtual i, n, (142, 1, 11), [k]) [] (L, .ref a0 :: st, h) = aft xs (d + 1) m hs 11 k L st (ev xs d 142 0 ([.ref a0], [], h)) := ab_xq (as := [.ref a0]) em_142 rfl (by decide) rfl h8 (Or.inr (rcv_c hr rfl))
theorem xq_142_11_virtualc {i : _}  (h8 : st8 st = true) : rt xs (d + 1) m hs (.invokevirtual i, n, (142, 1, 11), [k]) [] (L, .ref 0 :: st, hc σ M R) = aft xs (d + 1) m hs 11 k L st (ev xs d 142 0 ([.ref 0], [], hc σ M R)) := xq_142_11_virtual rfl h8
theorem xq_143_11_virtual {i : _} {a0 : Nat} {a1 : Int32} (hr : cls h a0 = some 11) (h8 : st8 st = true) : rt xs (d + 1) m hs (.invokevirtual i, n, (143, 2, 11), [k]) [] (L, .int a1 :: .ref a0 :: st, h) = aft xs (d + 1) m hs 11 k L st (ev xs d 143 0 ([.ref a0, .int a1], [], h)) := ab_xq (as := [.int a1, .ref a0]) em_143 rfl (by decide) rfl h8 (Or.inr (rcv_c hr rfl))
theorem xq_143_11_virtualc {i : _} {a1 : Int32} (h8 : st8 st = true) : rt xs (d + 1) m hs (.invokevirtual i, n, (143, 2, 11), [k]) [] (L, .int a1 :: .ref 0 :: st, hc σ M R) = aft xs (d + 1) m hs 11 k L st (ev xs d 143 0 ([.ref 0, .int a1], [], hc σ M R)) := xq_143_11_virtual rfl h8
theorem xq_144_11_virtual {i : _} {a0 : Nat} {a1 : Int32} (hr : cls h a0 = some 11) (h8 : st8 st = true) : rt xs (d + 1) m hs (.invokevirtual i, n, (144, 2, 11), [k]) [] (L, .int a1 :: .ref a0 :: st, h) = aft xs (d + 1) m hs 11 k L st (ev xs d 144 0 ([.ref a0, .int a1, .retAddr 9], [], h)) := ab_xq (as := [.int a1, .ref a0]) em_144 rfl (by decide) rfl h8 (Or.inr (rcv_c hr rfl))
theorem xq_144_11_virtualc {i : _} {a1 : Int32} (h8 : st8 st = true) : rt xs (d + 1) m hs (.invokevirtual i, n, (144, 2, 11), [k]) [] (L, .int a1 :: .ref 0 :: st, hc σ M R) = aft xs (d + 1) m hs 11 k L st (ev xs d 144 0 ([.ref 0, .int a1, .retAddr 9], [], hc σ M R)) := xq_144_11_virtual rfl h8
theorem xq_145_11_virtual {i : _} {a0 : Nat} {a1 : Int32} (hr : cls h a0 = some 11) (h8 : st8 st = true) : rt xs (d + 1) m hs (.invokevirtual i, n, (145, 2, 11), [k]) [] (L, .int a1 :: .ref a0 :: st, h) = aft xs (d + 1) m hs 11 k L st (ev xs d 145 0 ([.ref a0, .int a1], [], h)) := ab_xq (as := [.int a1, .ref a0]) em_145 rfl (by decide) rfl h8 (Or.inr (rcv_c hr rfl))
theorem xq_145_11_virtualc {i : _} {a1 : Int32} (h8 : st8 st = true) : rt xs (d + 1) m hs (.invokevirtual i, n, (145, 2, 11), [k]) [] (L, .int a1 :: .ref 0 :: st, hc σ M R) = aft xs (d + 1) m hs 11 k L st (ev xs d 145 0 ([.ref 0, .int a1], [], hc σ M R)) := xq_145_11_virtual rfl h8
theorem xq_146_11_virtual {i : _} {a0 : Nat} {a1 : Int32} (hr : cls h a0 = some 11) (h8 : st8 st = true) : rt xs (d + 1) m hs (.invokevirtual i, n, (146, 2, 11), [k]) [] (L, .int a1 :: .ref a0 :: st, h) = aft xs (d + 1) m hs 11 k L st (ev xs d 146 0 ([.ref a0, .int a1], [], h)) := ab_xq (as := [.int a1, .ref a0]) em_146 rfl (by decide) rfl h8 (Or.inr (rcv_c hr rfl))
theorem xq_146_11_virtualc {i : _} {a1 : Int32} (h8 : st8 st = true) : rt xs (d + 1) m hs (.invokevirtual i, n, (146, 2, 11), [k]) [] (L, .int a1 :: .ref 0 :: st, hc σ M R) = aft xs (d + 1) m hs 11 k L st (ev xs d 146 0 ([.ref 0, .int a1], [], hc σ M R)) := xq_146_11_virtual rfl h8
theorem xq_147_11_virtual {i : _} {a0 : Nat} {a1 : Int32} {a2 : Int32} {a3 : Int32} (hr : cls h a0 = some 11) (h8 : st8 st = true) : rt xs (d + 1) m hs (.invokevirtual i, n, (147, 4, 11), [k]) [] (L, .int a3 :: .int a2 :: .int a1 :: .ref a0 :: st, h) = aft xs (d + 1) m hs 11 k L st (ev xs d 147 0 ([.ref a0, .int a1, .int a2, .int a3, .retAddr 9], [], h)) := ab_xq (as := [.int a3, .int a2, .int a1, .ref a0]) em_147 rfl (by decide) rfl h8 (Or.inr (rcv_c hr rfl))
theorem xq_147_11_virtualc {i : _} {a1 : Int32} {a2 : Int32} {a3 : Int32} (h8 : st8 st = true) : rt xs (d + 1) m hs (.invokevirtual i, n, (147, 4, 11), [k]) [] (L, .int a3 :: .int a2 :: .int a1 :: .ref 0 :: st, hc σ M R) = aft xs (d + 1) m hs 11 k L st (ev xs d 147 0 ([.ref 0, .int a1, .int a2, .int a3, .retAddr 9], [], hc σ M R)) := xq_147_11_virtual rfl h8
theorem xq_148_11_virtual {i : _} {a0 : Nat} (hr : cls h a0 = some 11) (h8 : st8 st = true) : rt xs (d + 1) m hs (.invokevirtual i, n, (148, 1, 11), [k]) [] (L, .ref a0 :: st, h) = aft xs (d + 1) m hs 11 k L st (ev xs d 148 0 ([.ref a0], [], h)) := ab_xq (as := [.ref a0]) em_148 rfl (by decide) rfl h8 (Or.inr (rcv_c hr rfl))
theorem xq_148_11_virtualc {i : _}  (h8 : st8 st = true) : rt xs (d + 1) m hs (.invokevirtual i, n, (148, 1, 11), [k]) [] (L, .ref 0 :: st, hc σ M R) = aft xs (d + 1) m hs 11 k L st (ev xs d 148 0 ([.ref 0], [], hc σ M R)) := xq_148_11_virtual rfl h8
theorem xq_149_11_virtual {i : _} {a0 : Nat} (hr : cls h a0 = some 11) (h8 : st8 st = true) : rt xs (d + 1) m hs (.invokevirtual i, n, (149, 1, 11), [k]) [] (L, .ref a0 :: st, h) = aft xs (d + 1) m hs 11 k L st (ev xs d 149 0 ([.ref a0, .retAddr 9], [], h)) := ab_xq (as := [.ref a0]) em_149 rfl (by decide) rfl h8 (Or.inr (rcv_c hr rfl))
theorem xq_149_11_virtualc {i : _}  (h8 : st8 st = true) : rt xs (d + 1) m hs (.invokevirtual i, n, (149, 1, 11), [k]) [] (L, .ref 0 :: st, hc σ M R) = aft xs (d + 1) m hs 11 k L st (ev xs d 149 0 ([.ref 0, .retAddr 9], [], hc σ M R)) := xq_149_11_virtual rfl h8
theorem xq_150_11_virtual {i : _} {a0 : Nat} (hr : cls h a0 = some 11) (h8 : st8 st = true) : rt xs (d + 1) m hs (.invokevirtual i, n, (150, 1, 11), [k]) [] (L, .ref a0 :: st, h) = aft xs (d + 1) m hs 11 k L st (ev xs d 150 0 ([.ref a0], [], h)) := ab_xq (as := [.ref a0]) em_150 rfl (by decide) rfl h8 (Or.inr (rcv_c hr rfl))
theorem xq_150_11_virtualc {i : _}  (h8 : st8 st = true) : rt xs (d + 1) m hs (.invokevirtual i, n, (150, 1, 11), [k]) [] (L, .ref 0 :: st, hc σ M R) = aft xs (d + 1) m hs 11 k L st (ev xs d 150 0 ([.ref 0], [], hc σ M R)) := xq_150_11_virtual rfl h8
theorem xq_151_11_virtual {i : _} {a0 : Nat} (hr : cls h a0 = some 11) (h8 : st8 st = true) : rt xs (d + 1) m hs (.invokevirtual i, n, (151, 1, 11), [k]) [] (L, .ref a0 :: st, h) = aft xs (d + 1) m hs 11 k L st (ev xs d 151 0 ([.ref a0], [], h)) := ab_xq (as := [.ref a0]) em_151 rfl (by decide) rfl h8 (Or.inr (rcv_c hr rfl))
theorem xq_151_11_virtualc {i : _}  (h8 : st8 st = true) : rt xs (d + 1) m hs (.invokevirtual i, n, (151, 1, 11), [k]) [] (L, .ref 0 :: st, hc σ M R) = aft xs (d + 1) m hs 11 k L st (ev xs d 151 0 ([.ref 0], [], hc σ M R)) := xq_151_11_virtual rfl h8
theorem xq_152_11_virtual {i : _} {a0 : Nat} {a1 : Int32} {a2 : Int32} (hr : cls h a0 = some 11) (h8 : st8 st = true) : rt xs (d + 1) m hs (.invokevirtual i, n, (152, 3, 11), [k]) [] (L, .int a2 :: .int a1 :: .ref a0 :: st, h) = aft xs (d + 1) m hs 11 k L st (ev xs d 152 0 ([.ref a0, .int a1, .int a2, .retAddr 9], [], h)) := ab_xq (as := [.int a2, .int a1, .ref a0]) em_152 rfl (by decide) rfl h8 (Or.inr (rcv_c hr rfl))
theorem xq_152_11_virtualc {i : _} {a1 : Int32} {a2 : Int32} (h8 : st8 st = true) : rt xs (d + 1) m hs (.invokevirtual i, n, (152, 3, 11), [k]) [] (L, .int a2 :: .int a1 :: .ref 0 :: st, hc σ M R) = aft xs (d + 1) m hs 11 k L st (ev xs d 152 0 ([.ref 0, .int a1, .int a2, .retAddr 9], [], hc σ M R)) := xq_152_11_virtual rfl h8
theorem xq_153_11_virtual {i : _} {a0 : Nat} {a1 : Int32} {a2 : Int32} (hr : cls h a0 = some 11) (h8 : st8 st = true) : rt xs (d + 1) m hs (.invokevirtual i, n, (153, 3, 11), [k]) [] (L, .int a2 :: .int a1 :: .ref a0 :: st, h) = aft xs (d + 1) m hs 11 k L st (ev xs d 153 0 ([.ref a0, .int a1, .int a2], [], h)) := ab_xq (as := [.int a2, .int a1, .ref a0]) em_153 rfl (by decide) rfl h8 (Or.inr (rcv_c hr rfl))
theorem xq_153_11_virtualc {i : _} {a1 : Int32} {a2 : Int32} (h8 : st8 st = true) : rt xs (d + 1) m hs (.invokevirtual i, n, (153, 3, 11), [k]) [] (L, .int a2 :: .int a1 :: .ref 0 :: st, hc σ M R) = aft xs (d + 1) m hs 11 k L st (ev xs d 153 0 ([.ref 0, .int a1, .int a2], [], hc σ M R)) := xq_153_11_virtual rfl h8
theorem xq_154_11_virtual {i : _} {a0 : Nat} (hr : cls h a0 = some 11) (h8 : st8 st = true) : rt xs (d + 1) m hs (.invokevirtual i, n, (154, 1, 11), [k]) [] (L, .ref a0 :: st, h) = aft xs (d + 1) m hs 11 k L st (ev xs d 154 0 ([.ref a0], [], h)) := ab_xq (as := [.ref a0]) em_154 rfl (by decide) rfl h8 (Or.inr (rcv_c hr rfl))
theorem xq_154_11_virtualc {i : _}  (h8 : st8 st = true) : rt xs (d + 1) m hs (.invokevirtual i, n, (154, 1, 11), [k]) [] (L, .ref 0 :: st, hc σ M R) = aft xs (d + 1) m hs 11 k L st (ev xs d 154 0 ([.ref 0], [], hc σ M R)) := xq_154_11_virtual rfl h8
theorem xq_156_11_virtual {i : _} {a0 : Nat} {a1 : Int32} (hr : cls h a0 = some 11) (h8 : st8 st = true) : rt xs (d + 1) m hs (.invokevirtual i, n, (156, 2, 11), [k]) [] (L, .int a1 :: .ref a0 :: st, h) = aft xs (d + 1) m hs 11 k L st (ev xs d 156 0 ([.ref a0, .int a1], [], h)) := ab_xq (as := [.int a1, .ref a0]) em_156 rfl (by decide) rfl h8 (Or.inr (rcv_c hr rfl))
theorem xq_156_11_virtualc {i : _} {a1 : Int32} (h8 : st8 st = true) : rt xs (d + 1) m hs (.invokevirtual i, n, (156, 2, 11), [k]) [] (L, .int a1 :: .ref 0 :: st, hc σ M R) = aft xs (d + 1) m hs 11 k L st (ev xs d 156 0 ([.ref 0, .int a1], [], hc σ M R)) := xq_156_11_virtual rfl h8
theorem xq_157_11_virtual {i : _} {a0 : Nat} {a1 : Int32} {a2 : Int32} (hr : cls h a0 = some 11) (h8 : st8 st = true) : rt xs (d + 1) m hs (.invokevirtual i, n, (157, 3, 11), [k]) [] (L, .int a2 :: .int a1 :: .ref a0 :: st, h) = aft xs (d + 1) m hs 11 k L st (ev xs d 157 0 ([.ref a0, .int a1, .int a2], [], h)) := ab_xq (as := [.int a2, .int a1, .ref a0]) em_157 rfl (by decide) rfl h8 (Or.inr (rcv_c hr rfl))
theorem xq_157_11_virtualc {i : _} {a1 : Int32} {a2 : Int32} (h8 : st8 st = true) : rt xs (d + 1) m hs (.invokevirtual i, n, (157, 3, 11), [k]) [] (L, .int a2 :: .int a1 :: .ref 0 :: st, hc σ M R) = aft xs (d + 1) m hs 11 k L st (ev xs d 157 0 ([.ref 0, .int a1, .int a2], [], hc σ M R)) := xq_157_11_virtual rfl h8
theorem xq_162_11_virtual {i : _} {a0 : Nat} (hr : cls h a0 = some 11) (h8 : st8 st = true) : rt xs (d + 1) m hs (.invokevirtual i, n, (162, 1, 11), [k]) [] (L, .ref a0 :: st, h) = aft xs (d + 1) m hs 11 k L st (ev xs d 162 0 ([.ref a0, .retAddr 9, .retAddr 9], [], h)) := ab_xq (as := [.ref a0]) em_162 rfl (by decide) rfl h8 (Or.inr (rcv_c hr rfl))
theorem xq_162_11_virtualc {i : _}  (h8 : st8 st = true) : rt xs (d + 1) m hs (.invokevirtual i, n, (162, 1, 11), [k]) [] (L, .ref 0 :: st, hc σ M R) = aft xs (d + 1) m hs 11 k L st (ev xs d 162 0 ([.ref 0, .retAddr 9, .retAddr 9], [], hc σ M R)) := xq_162_11_virtual rfl h8
theorem xq_163_11_virtual {i : _} {a0 : Nat} {a1 : Int32} (hr : cls h a0 = some 11) (h8 : st8 st = true) : rt xs (d + 1) m hs (.invokevirtual i, n, (163, 2, 11), [k]) [] (L, .int a1 :: .ref a0 :: st, h) = aft xs (d + 1) m hs 11 k L st (ev xs d 163 0 ([.ref a0, .int a1], [], h)) := ab_xq (as := [.int a1, .ref a0]) em_163 rfl (by decide) rfl h8 (Or.inr (rcv_c hr rfl))
theorem xq_163_11_virtualc {i : _} {a1 : Int32} (h8 : st8 st = true) : rt xs (d + 1) m hs (.invokevirtual i, n, (163, 2, 11), [k]) [] (L, .int a1 :: .ref 0 :: st, hc σ M R) = aft xs (d + 1) m hs 11 k L st (ev xs d 163 0 ([.ref 0, .int a1], [], hc σ M R)) := xq_163_11_virtual rfl h8
theorem xq_165_11_virtual {i : _} {a0 : Nat} (hr : cls h a0 = some 11) (h8 : st8 st = true) : rt xs (d + 1) m hs (.invokevirtual i, n, (165, 1, 11), [k]) [] (L, .ref a0 :: st, h) = aft xs (d + 1) m hs 11 k L st (ev xs d 165 0 ([.ref a0], [], h)) := ab_xq (as := [.ref a0]) em_165 rfl (by decide) rfl h8 (Or.inr (rcv_c hr rfl))
theorem xq_165_11_virtualc {i : _}  (h8 : st8 st = true) : rt xs (d + 1) m hs (.invokevirtual i, n, (165, 1, 11), [k]) [] (L, .ref 0 :: st, hc σ M R) = aft xs (d + 1) m hs 11 k L st (ev xs d 165 0 ([.ref 0], [], hc σ M R)) := xq_165_11_virtual rfl h8
theorem xq_166_11_virtual {i : _} {a0 : Nat} {a1 : Int32} (hr : cls h a0 = some 11) (h8 : st8 st = true) : rt xs (d + 1) m hs (.invokevirtual i, n, (166, 2, 11), [k]) [] (L, .int a1 :: .ref a0 :: st, h) = aft xs (d + 1) m hs 11 k L st (ev xs d 166 0 ([.ref a0, .int a1], [], h)) := ab_xq (as := [.int a1, .ref a0]) em_166 rfl (by decide) rfl h8 (Or.inr (rcv_c hr rfl))
theorem xq_166_11_virtualc {i : _} {a1 : Int32} (h8 : st8 st = true) : rt xs (d + 1) m hs (.invokevirtual i, n, (166, 2, 11), [k]) [] (L, .int a1 :: .ref 0 :: st, hc σ M R) = aft xs (d + 1) m hs 11 k L st (ev xs d 166 0 ([.ref 0, .int a1], [], hc σ M R)) := xq_166_11_virtual rfl h8
theorem xq_167_11_virtual {i : _} {a0 : Nat} {a1 : Int32} (hr : cls h a0 = some 11) (h8 : st8 st = true) : rt xs (d + 1) m hs (.invokevirtual i, n, (167, 2, 11), [k]) [] (L, .int a1 :: .ref a0 :: st, h) = aft xs (d + 1) m hs 11 k L st (ev xs d 167 0 ([.ref a0, .int a1], [], h)) := ab_xq (as := [.int a1, .ref a0]) em_167 rfl (by decide) rfl h8 (Or.inr (rcv_c hr rfl))
theorem xq_167_11_virtualc {i : _} {a1 : Int32} (h8 : st8 st = true) : rt xs (d + 1) m hs (.invokevirtual i, n, (167, 2, 11), [k]) [] (L, .int a1 :: .ref 0 :: st, hc σ M R) = aft xs (d + 1) m hs 11 k L st (ev xs d 167 0 ([.ref 0, .int a1], [], hc σ M R)) := xq_167_11_virtual rfl h8
theorem xq_168_11_virtual {i : _} {a0 : Nat} {a1 : Int32} (hr : cls h a0 = some 11) (h8 : st8 st = true) : rt xs (d + 1) m hs (.invokevirtual i, n, (168, 2, 11), [k]) [] (L, .int a1 :: .ref a0 :: st, h) = aft xs (d + 1) m hs 11 k L st (ev xs d 168 0 ([.ref a0, .int a1], [], h)) := ab_xq (as := [.int a1, .ref a0]) em_168 rfl (by decide) rfl h8 (Or.inr (rcv_c hr rfl))
theorem xq_168_11_virtualc {i : _} {a1 : Int32} (h8 : st8 st = true) : rt xs (d + 1) m hs (.invokevirtual i, n, (168, 2, 11), [k]) [] (L, .int a1 :: .ref 0 :: st, hc σ M R) = aft xs (d + 1) m hs 11 k L st (ev xs d 168 0 ([.ref 0, .int a1], [], hc σ M R)) := xq_168_11_virtual rfl h8
theorem xq_169_11_virtual {i : _} {a0 : Nat} {a1 : Int32} (hr : cls h a0 = some 11) (h8 : st8 st = true) : rt xs (d + 1) m hs (.invokevirtual i, n, (169, 2, 11), [k]) [] (L, .int a1 :: .ref a0 :: st, h) = aft xs (d + 1) m hs 11 k L st (ev xs d 169 0 ([.ref a0, .int a1], [], h)) := ab_xq (as := [.int a1, .ref a0]) em_169 rfl (by decide) rfl h8 (Or.inr (rcv_c hr rfl))
theorem xq_169_11_virtualc {i : _} {a1 : Int32} (h8 : st8 st = true) : rt xs (d + 1) m hs (.invokevirtual i, n, (169, 2, 11), [k]) [] (L, .int a1 :: .ref 0 :: st, hc σ M R) = aft xs (d + 1) m hs 11 k L st (ev xs d 169 0 ([.ref 0, .int a1], [], hc σ M R)) := xq_169_11_virtual rfl h8
theorem xq_170_11_virtual {i : _} {a0 : Nat} {a1 : Int32} (hr : cls h a0 = some 11) (h8 : st8 st = true) : rt xs (d + 1) m hs (.invokevirtual i, n, (170, 2, 11), [k]) [] (L, .int a1 :: .ref a0 :: st, h) = aft xs (d + 1) m hs 11 k L st (ev xs d 170 0 ([.ref a0, .int a1], [], h)) := ab_xq (as := [.int a1, .ref a0]) em_170 rfl (by decide) rfl h8 (Or.inr (rcv_c hr rfl))
theorem xq_170_11_virtualc {i : _} {a1 : Int32} (h8 : st8 st = true) : rt xs (d + 1) m hs (.invokevirtual i, n, (170, 2, 11), [k]) [] (L, .int a1 :: .ref 0 :: st, hc σ M R) = aft xs (d + 1) m hs 11 k L st (ev xs d 170 0 ([.ref 0, .int a1], [], hc σ M R)) := xq_170_11_virtual rfl h8
theorem xq_171_11_virtual {i : _} {a0 : Nat} {a1 : Int32} (hr : cls h a0 = some 11) (h8 : st8 st = true) : rt xs (d + 1) m hs (.invokevirtual i, n, (171, 2, 11), [k]) [] (L, .int a1 :: .ref a0 :: st, h) = aft xs (d + 1) m hs 11 k L st (ev xs d 171 0 ([.ref a0, .int a1], [], h)) := ab_xq (as := [.int a1, .ref a0]) em_171 rfl (by decide) rfl h8 (Or.inr (rcv_c hr rfl))
theorem xq_171_11_virtualc {i : _} {a1 : Int32} (h8 : st8 st = true) : rt xs (d + 1) m hs (.invokevirtual i, n, (171, 2, 11), [k]) [] (L, .int a1 :: .ref 0 :: st, hc σ M R) = aft xs (d + 1) m hs 11 k L st (ev xs d 171 0 ([.ref 0, .int a1], [], hc σ M R)) := xq_171_11_virtual rfl h8
theorem xq_277_200_static {i : _} {a0 : Int32} (h8 : st8 st = true) : rt xs (d + 1) m hs (.invokestatic i, n, (277, 1, 200), [k]) [] (L, .int a0 :: st, h) = aft xs (d + 1) m hs 200 k L st (ev xs d 277 0 ([.int a0], [], h)) := ab_xq (as := [.int a0]) em_277 rfl (by decide) rfl h8 (Or.inl (by decide))
theorem xq_278_200_static {i : _} {a0 : Nat} {a1 : Int32} (h8 : st8 st = true) : rt xs (d + 1) m hs (.invokestatic i, n, (278, 2, 200), [k]) [] (L, .int a1 :: .ref a0 :: st, h) = aft xs (d + 1) m hs 200 k L st (ev xs d 278 0 ([.ref a0, .int a1, .retAddr 9, .retAddr 9], [], h)) := ab_xq (as := [.int a1, .ref a0]) em_278 rfl (by decide) rfl h8 (Or.inl (by decide))
theorem xq_279_200_static {i : _} {a0 : Int32} (h8 : st8 st = true) : rt xs (d + 1) m hs (.invokestatic i, n, (279, 1, 200), [k]) [] (L, .int a0 :: st, h) = aft xs (d + 1) m hs 200 k L st (ev xs d 279 0 ([.int a0, .retAddr 9], [], h)) := ab_xq (as := [.int a0]) em_279 rfl (by decide) rfl h8 (Or.inl (by decide))
theorem xq_280_101_special {i : _} {a0 : Nat} (h8 : st8 st = true) : rt xs (d + 1) m hs (.invokespecial i, n, (280, 1, 101), [k]) [] (L, .ref a0 :: st, h) = aft xs (d + 1) m hs 101 k L st (ev xs d 280 0 ([.ref a0], [], h)) := ab_xq (as := [.ref a0]) em_280 rfl (by decide) rfl h8 (Or.inr (rcv_t (by decide)))
theorem xq_281_12_virtual {i : _} {a0 : Nat} (hr : cls h a0 = some 12) (h8 : st8 st = true) : rt xs (d + 1) m hs (.invokevirtual i, n, (281, 1, 12), [k]) [] (L, .ref a0 :: st, h) = aft xs (d + 1) m hs 12 k L st (ev xs d 281 0 ([.ref a0], [], h)) := ab_xq (as := [.ref a0]) em_281 rfl (by decide) rfl h8 (Or.inr (rcv_c hr rfl))
theorem xq_281_12_virtualm {i : _}  (h8 : st8 st = true) : rt xs (d + 1) m hs (.invokevirtual i, n, (281, 1, 12), [k]) [] (L, .ref 63 :: st, hc σ M (LR ρ τ N Ts B Q)) = aft xs (d + 1) m hs 12 k L st (ev xs d 281 0 ([.ref 63], [], hc σ M (LR ρ τ N Ts B Q))) := xq_281_12_virtual LR_c h8
theorem xq_282_12_virtual {i : _} {a0 : Nat} {a1 : Int32} {a2 : Int32} (hr : cls h a0 = some 12) (h8 : st8 st = true) : rt xs (d + 1) m hs (.invokevirtual i, n, (282, 3, 12), [k]) [] (L, .int a2 :: .int a1 :: .ref a0 :: st, h) = aft xs (d + 1) m hs 12 k L st (ev xs d 282 0 ([.ref a0, .int a1, .int a2, .retAddr 9], [], h)) := ab_xq (as := [.int a2, .int a1, .ref a0]) em_282 rfl (by decide) rfl h8 (Or.inr (rcv_c hr rfl))
theorem xq_282_12_virtualm {i : _} {a1 : Int32} {a2 : Int32} (h8 : st8 st = true) : rt xs (d + 1) m hs (.invokevirtual i, n, (282, 3, 12), [k]) [] (L, .int a2 :: .int a1 :: .ref 63 :: st, hc σ M (LR ρ τ N Ts B Q)) = aft xs (d + 1) m hs 12 k L st (ev xs d 282 0 ([.ref 63, .int a1, .int a2, .retAddr 9], [], hc σ M (LR ρ τ N Ts B Q))) := xq_282_12_virtual LR_c h8
theorem xq_283_12_virtual {i : _} {a0 : Nat} {a1 : Int32} {a2 : Int32} (hr : cls h a0 = some 12) (h8 : st8 st = true) : rt xs (d + 1) m hs (.invokevirtual i, n, (283, 3, 12), [k]) [] (L, .int a2 :: .int a1 :: .ref a0 :: st, h) = aft xs (d + 1) m hs 12 k L st (ev xs d 283 0 ([.ref a0, .int a1, .int a2], [], h)) := ab_xq (as := [.int a2, .int a1, .ref a0]) em_283 rfl (by decide) rfl h8 (Or.inr (rcv_c hr rfl))
theorem xq_283_12_virtualm {i : _} {a1 : Int32} {a2 : Int32} (h8 : st8 st = true) : rt xs (d + 1) m hs (.invokevirtual i, n, (283, 3, 12), [k]) [] (L, .int a2 :: .int a1 :: .ref 63 :: st, hc σ M (LR ρ τ N Ts B Q)) = aft xs (d + 1) m hs 12 k L st (ev xs d 283 0 ([.ref 63, .int a1, .int a2], [], hc σ M (LR ρ τ N Ts B Q))) := xq_283_12_virtual LR_c h8
theorem xq_284_12_virtual {i : _} {a0 : Nat} {a1 : Int32} {a2 : Int32} (hr : cls h a0 = some 12) (h8 : st8 st = true) : rt xs (d + 1) m hs (.invokevirtual i, n, (284, 3, 12), [k]) [] (L, .int a2 :: .int a1 :: .ref a0 :: st, h) = aft xs (d + 1) m hs 12 k L st (ev xs d 284 0 ([.ref a0, .int a1, .int a2], [], h)) := ab_xq (as := [.int a2, .int a1, .ref a0]) em_284 rfl (by decide) rfl h8 (Or.inr (rcv_c hr rfl))
theorem xq_284_12_virtualm {i : _} {a1 : Int32} {a2 : Int32} (h8 : st8 st = true) : rt xs (d + 1) m hs (.invokevirtual i, n, (284, 3, 12), [k]) [] (L, .int a2 :: .int a1 :: .ref 63 :: st, hc σ M (LR ρ τ N Ts B Q)) = aft xs (d + 1) m hs 12 k L st (ev xs d 284 0 ([.ref 63, .int a1, .int a2], [], hc σ M (LR ρ τ N Ts B Q))) := xq_284_12_virtual LR_c h8
theorem xq_285_12_virtual {i : _} {a0 : Nat} {a1 : Int32} {a2 : Nat} (hr : cls h a0 = some 12) (h8 : st8 st = true) : rt xs (d + 1) m hs (.invokevirtual i, n, (285, 3, 12), [k]) [] (L, .ref a2 :: .int a1 :: .ref a0 :: st, h) = aft xs (d + 1) m hs 12 k L st (ev xs d 285 0 ([.ref a0, .int a1, .ref a2, .retAddr 9, .retAddr 9], [], h)) := ab_xq (as := [.ref a2, .int a1, .ref a0]) em_285 rfl (by decide) rfl h8 (Or.inr (rcv_c hr rfl))
theorem xq_285_12_virtualm {i : _} {a1 : Int32} {a2 : Nat} (h8 : st8 st = true) : rt xs (d + 1) m hs (.invokevirtual i, n, (285, 3, 12), [k]) [] (L, .ref a2 :: .int a1 :: .ref 63 :: st, hc σ M (LR ρ τ N Ts B Q)) = aft xs (d + 1) m hs 12 k L st (ev xs d 285 0 ([.ref 63, .int a1, .ref a2, .retAddr 9, .retAddr 9], [], hc σ M (LR ρ τ N Ts B Q))) := xq_285_12_virtual LR_c h8
theorem xq_286_12_virtual {i : _} {a0 : Nat} {a1 : Int32} {a2 : Nat} (hr : cls h a0 = some 12) (h8 : st8 st = true) : rt xs (d + 1) m hs (.invokevirtual i, n, (286, 3, 12), [k]) [] (L, .ref a2 :: .int a1 :: .ref a0 :: st, h) = aft xs (d + 1) m hs 12 k L st (ev xs d 286 0 ([.ref a0, .int a1, .ref a2, .retAddr 9, .retAddr 9], [], h)) := ab_xq (as := [.ref a2, .int a1, .ref a0]) em_286 rfl (by decide) rfl h8 (Or.inr (rcv_c hr rfl))
theorem xq_286_12_virtualm {i : _} {a1 : Int32} {a2 : Nat} (h8 : st8 st = true) : rt xs (d + 1) m hs (.invokevirtual i, n, (286, 3, 12), [k]) [] (L, .ref a2 :: .int a1 :: .ref 63 :: st, hc σ M (LR ρ τ N Ts B Q)) = aft xs (d + 1) m hs 12 k L st (ev xs d 286 0 ([.ref 63, .int a1, .ref a2, .retAddr 9, .retAddr 9], [], hc σ M (LR ρ τ N Ts B Q))) := xq_286_12_virtual LR_c h8
theorem xq_287_12_virtual {i : _} {a0 : Nat} {a1 : Nat} {a2 : Int32} (hr : cls h a0 = some 12) (h8 : st8 st = true) : rt xs (d + 1) m hs (.invokevirtual i, n, (287, 3, 12), [k]) [] (L, .int a2 :: .ref a1 :: .ref a0 :: st, h) = aft xs (d + 1) m hs 12 k L st (ev xs d 287 0 ([.ref a0, .ref a1, .int a2, .retAddr 9, .retAddr 9, .retAddr 9], [], h)) := ab_xq (as := [.int a2, .ref a1, .ref a0]) em_287 rfl (by decide) rfl h8 (Or.inr (rcv_c hr rfl))
theorem xq_287_12_virtualm {i : _} {a1 : Nat} {a2 : Int32} (h8 : st8 st = true) : rt xs (d + 1) m hs (.invokevirtual i, n, (287, 3, 12), [k]) [] (L, .int a2 :: .ref a1 :: .ref 63 :: st, hc σ M (LR ρ τ N Ts B Q)) = aft xs (d + 1) m hs 12 k L st (ev xs d 287 0 ([.ref 63, .ref a1, .int a2, .retAddr 9, .retAddr 9, .retAddr 9], [], hc σ M (LR ρ τ N Ts B Q))) := xq_287_12_virtual LR_c h8
theorem xq_288_12_virtual {i : _} {a0 : Nat} {a1 : Nat} {a2 : Int32} (hr : cls h a0 = some 12) (h8 : st8 st = true) : rt xs (d + 1) m hs (.invokevirtual i, n, (288, 3, 12), [k]) [] (L, .int a2 :: .ref a1 :: .ref a0 :: st, h) = aft xs (d + 1) m hs 12 k L st (ev xs d 288 0 ([.ref a0, .ref a1, .int a2, .retAddr 9, .retAddr 9], [], h)) := ab_xq (as := [.int a2, .ref a1, .ref a0]) em_288 rfl (by decide) rfl h8 (Or.inr (rcv_c hr rfl))
theorem xq_288_12_virtualm {i : _} {a1 : Nat} {a2 : Int32} (h8 : st8 st = true) : rt xs (d + 1) m hs (.invokevirtual i, n, (288, 3, 12), [k]) [] (L, .int a2 :: .ref a1 :: .ref 63 :: st, hc σ M (LR ρ τ N Ts B Q)) = aft xs (d + 1) m hs 12 k L st (ev xs d 288 0 ([.ref 63, .ref a1, .int a2, .retAddr 9, .retAddr 9], [], hc σ M (LR ρ τ N Ts B Q))) := xq_288_12_virtual LR_c h8
theorem xq_289_12_virtual {i : _} {a0 : Nat} {a1 : Int32} (hr : cls h a0 = some 12) (h8 : st8 st = true) : rt xs (d + 1) m hs (.invokevirtual i, n, (289, 2, 12), [k]) [] (L, .int a1 :: .ref a0 :: st, h) = aft xs (d + 1) m hs 12 k L st (ev xs d 289 0 ([.ref a0, .int a1, .retAddr 9], [], h)) := ab_xq (as := [.int a1, .ref a0]) em_289 rfl (by decide) rfl h8 (Or.inr (rcv_c hr rfl))
theorem xq_289_12_virtualm {i : _} {a1 : Int32} (h8 : st8 st = true) : rt xs (d + 1) m hs (.invokevirtual i, n, (289, 2, 12), [k]) [] (L, .int a1 :: .ref 63 :: st, hc σ M (LR ρ τ N Ts B Q)) = aft xs (d + 1) m hs 12 k L st (ev xs d 289 0 ([.ref 63, .int a1, .retAddr 9], [], hc σ M (LR ρ τ N Ts B Q))) := xq_289_12_virtual LR_c h8
theorem xq_290_12_virtual {i : _} {a0 : Nat} {a1 : Nat} (hr : cls h a0 = some 12) (h8 : st8 st = true) : rt xs (d + 1) m hs (.invokevirtual i, n, (290, 2, 12), [k]) [] (L, .ref a1 :: .ref a0 :: st, h) = aft xs (d + 1) m hs 12 k L st (ev xs d 290 0 ([.ref a0, .ref a1, .retAddr 9, .retAddr 9, .retAddr 9], [], h)) := ab_xq (as := [.ref a1, .ref a0]) em_290 rfl (by decide) rfl h8 (Or.inr (rcv_c hr rfl))
theorem xq_290_12_virtualm {i : _} {a1 : Nat} (h8 : st8 st = true) : rt xs (d + 1) m hs (.invokevirtual i, n, (290, 2, 12), [k]) [] (L, .ref a1 :: .ref 63 :: st, hc σ M (LR ρ τ N Ts B Q)) = aft xs (d + 1) m hs 12 k L st (ev xs d 290 0 ([.ref 63, .ref a1, .retAddr 9, .retAddr 9, .retAddr 9], [], hc σ M (LR ρ τ N Ts B Q))) := xq_290_12_virtual LR_c h8
theorem xq_291_12_virtual {i : _} {a0 : Nat} {a1 : Nat} (hr : cls h a0 = some 12) (h8 : st8 st = true) : rt xs (d + 1) m hs (.invokevirtual i, n, (291, 2, 12), [k]) [] (L, .ref a1 :: .ref a0 :: st, h) = aft xs (d + 1) m hs 12 k L st (ev xs d 291 0 ([.ref a0, .ref a1, .retAddr 9, .retAddr 9, .retAddr 9, .retAddr 9], [], h)) := ab_xq (as := [.ref a1, .ref a0]) em_291 rfl (by decide) rfl h8 (Or.inr (rcv_c hr rfl))
theorem xq_291_12_virtualm {i : _} {a1 : Nat} (h8 : st8 st = true) : rt xs (d + 1) m hs (.invokevirtual i, n, (291, 2, 12), [k]) [] (L, .ref a1 :: .ref 63 :: st, hc σ M (LR ρ τ N Ts B Q)) = aft xs (d + 1) m hs 12 k L st (ev xs d 291 0 ([.ref 63, .ref a1, .retAddr 9, .retAddr 9, .retAddr 9, .retAddr 9], [], hc σ M (LR ρ τ N Ts B Q))) := xq_291_12_virtual LR_c h8
theorem xq_292_200_static {i : _} {a0 : Nat} {a1 : Int32} (h8 : st8 st = true) : rt xs (d + 1) m hs (.invokestatic i, n, (292, 2, 200), [k]) [] (L, .int a1 :: .ref a0 :: st, h) = aft xs (d + 1) m hs 200 k L st (ev xs d 292 0 ([.ref a0, .int a1], [], h)) := ab_xq (as := [.int a1, .ref a0]) em_292 rfl (by decide) rfl h8 (Or.inl (by decide))
theorem xq_293_200_static {i : _} {a0 : Nat} {a1 : Nat} {a2 : Nat} (h8 : st8 st = true) : rt xs (d + 1) m hs (.invokestatic i, n, (293, 3, 200), [k]) [] (L, .ref a2 :: .ref a1 :: .ref a0 :: st, h) = aft xs (d + 1) m hs 200 k L st (ev xs d 293 0 ([.ref a0, .ref a1, .ref a2, .retAddr 9, .retAddr 9, .retAddr 9, .retAddr 9, .retAddr 9, .retAddr 9], [], h)) := ab_xq (as := [.ref a2, .ref a1, .ref a0]) em_293 rfl (by decide) rfl h8 (Or.inl (by decide))
theorem xq_294_200_static {i : _} {a0 : Nat} {a1 : Nat} {a2 : Int32} (h8 : st8 st = true) : rt xs (d + 1) m hs (.invokestatic i, n, (294, 3, 200), [k]) [] (L, .int a2 :: .ref a1 :: .ref a0 :: st, h) = aft xs (d + 1) m hs 200 k L st (ev xs d 294 0 ([.ref a0, .ref a1, .int a2, .retAddr 9, .retAddr 9], [], h)) := ab_xq (as := [.int a2, .ref a1, .ref a0]) em_294 rfl (by decide) rfl h8 (Or.inl (by decide))
theorem xq_295_200_static {i : _} {a0 : Nat} {a1 : Nat} (h8 : st8 st = true) : rt xs (d + 1) m hs (.invokestatic i, n, (295, 2, 200), [k]) [] (L, .ref a1 :: .ref a0 :: st, h) = aft xs (d + 1) m hs 200 k L st (ev xs d 295 0 ([.ref a0, .ref a1, .retAddr 9, .retAddr 9, .retAddr 9, .retAddr 9, .retAddr 9, .retAddr 9, .retAddr 9, .retAddr 9, .retAddr 9], [], h)) := ab_xq (as := [.ref a1, .ref a0]) em_295 rfl (by decide) rfl h8 (Or.inl (by decide))
theorem xq_296_200_static {i : _} {a0 : Nat} {a1 : Nat} (h8 : st8 st = true) : rt xs (d + 1) m hs (.invokestatic i, n, (296, 2, 200), [k]) [] (L, .ref a1 :: .ref a0 :: st, h) = aft xs (d + 1) m hs 200 k L st (ev xs d 296 0 ([.ref a0, .ref a1, .retAddr 9, .retAddr 9, .retAddr 9, .retAddr 9, .retAddr 9, .retAddr 9, .retAddr 9, .retAddr 9], [], h)) := ab_xq (as := [.ref a1, .ref a0]) em_296 rfl (by decide) rfl h8 (Or.inl (by decide))
theorem xq_297_200_static {i : _} {a0 : Nat} {a1 : Nat} {a2 : Nat} (h8 : st8 st = true) : rt xs (d + 1) m hs (.invokestatic i, n, (297, 3, 200), [k]) [] (L, .ref a2 :: .ref a1 :: .ref a0 :: st, h) = aft xs (d + 1) m hs 200 k L st (ev xs d 297 0 ([.ref a0, .ref a1, .ref a2, .retAddr 9, .retAddr 9, .retAddr 9, .retAddr 9, .retAddr 9, .retAddr 9, .retAddr 9, .retAddr 9, .retAddr 9, .retAddr 9, .retAddr 9], [], h)) := ab_xq (as := [.ref a2, .ref a1, .ref a0]) em_297 rfl (by decide) rfl h8 (Or.inl (by decide))
theorem xq_298_200_static {i : _} {a0 : Nat} {a1 : Nat} {a2 : Nat} (h8 : st8 st = true) : rt xs (d + 1) m hs (.invokestatic i, n, (298, 3, 200), [k]) [] (L, .ref a2 :: .ref a1 :: .ref a0 :: st, h) = aft xs (d + 1) m hs 200 k L st (ev xs d 298 0 ([.ref a0, .ref a1, .ref a2, .retAddr 9, .retAddr 9, .retAddr 9, .retAddr 9, .retAddr 9, .retAddr 9, .retAddr 9, .retAddr 9, .retAddr 9, .retAddr 9, .retAddr 9, .retAddr 9], [], h)) := ab_xq (as := [.ref a2, .ref a1, .ref a0]) em_298 rfl (by decide) rfl h8 (Or.inl (by decide))
theorem xq_299_8_virtual {i : _} {a0 : Nat} {a1 : Int32} {a2 : Int32} (hr : cls h a0 = some 8) (h8 : st8 st = true) : rt xs (d + 1) m hs (.invokevirtual i, n, (299, 3, 8), [k]) [] (L, .int a2 :: .int a1 :: .ref a0 :: st, h) = aft xs (d + 1) m hs 8 k L st (ev xs d 299 0 ([.ref a0, .int a1, .int a2, .retAddr 9], [], h)) := ab_xq (as := [.int a2, .int a1, .ref a0]) em_299 rfl (by decide) rfl h8 (Or.inr (rcv_c hr rfl))
theorem xq_299_8_virtualc {i : _} {a1 : Int32} {a2 : Int32} (h8 : st8 st = true) : rt xs (d + 1) m hs (.invokevirtual i, n, (299, 3, 8), [k]) [] (L, .int a2 :: .int a1 :: .ref 43 :: st, hc σ M R) = aft xs (d + 1) m hs 8 k L st (ev xs d 299 0 ([.ref 43, .int a1, .int a2, .retAddr 9], [], hc σ M R)) := xq_299_8_virtual rfl h8
end Xt
theorem sw_15_2_0 : swt 0 [3, 8, 22, 22, 22, 22, 13, 17, 22] 0 = 3 := rfl
theorem sw_15_2_1 : swt 0 [3, 8, 22, 22, 22, 22, 13, 17, 22] 1 = 8 := rfl
theorem sw_15_2_2 : swt 0 [3, 8, 22, 22, 22, 22, 13, 17, 22] 2 = 22 := rfl
theorem sw_15_2_3 : swt 0 [3, 8, 22, 22, 22, 22, 13, 17, 22] 3 = 22 := rfl
theorem sw_15_2_4 : swt 0 [3, 8, 22, 22, 22, 22, 13, 17, 22] 4 = 22 := rfl
theorem sw_15_2_5 : swt 0 [3, 8, 22, 22, 22, 22, 13, 17, 22] 5 = 22 := rfl
theorem sw_15_2_6 : swt 0 [3, 8, 22, 22, 22, 22, 13, 17, 22] 6 = 13 := rfl
theorem sw_15_2_7 : swt 0 [3, 8, 22, 22, 22, 22, 13, 17, 22] 7 = 17 := rfl
theorem sw_15_2_8 : swt 0 [3, 8, 22, 22, 22, 22, 13, 17, 22] 8 = 22 := rfl
theorem sw_15_2_9 : swt 0 [3, 8, 22, 22, 22, 22, 13, 17, 22] 9 = 22 := rfl
theorem sw_32_0_0 : swt 0 [1, 3, 7, 7, 7, 7, 4, 5, 7] 0 = 1 := rfl
theorem sw_32_0_1 : swt 0 [1, 3, 7, 7, 7, 7, 4, 5, 7] 1 = 3 := rfl
theorem sw_32_0_2 : swt 0 [1, 3, 7, 7, 7, 7, 4, 5, 7] 2 = 7 := rfl
theorem sw_32_0_3 : swt 0 [1, 3, 7, 7, 7, 7, 4, 5, 7] 3 = 7 := rfl
theorem sw_32_0_4 : swt 0 [1, 3, 7, 7, 7, 7, 4, 5, 7] 4 = 7 := rfl
theorem sw_32_0_5 : swt 0 [1, 3, 7, 7, 7, 7, 4, 5, 7] 5 = 7 := rfl
theorem sw_32_0_6 : swt 0 [1, 3, 7, 7, 7, 7, 4, 5, 7] 6 = 4 := rfl
theorem sw_32_0_7 : swt 0 [1, 3, 7, 7, 7, 7, 4, 5, 7] 7 = 5 := rfl
theorem sw_32_0_8 : swt 0 [1, 3, 7, 7, 7, 7, 4, 5, 7] 8 = 7 := rfl
theorem sw_32_0_9 : swt 0 [1, 3, 7, 7, 7, 7, 4, 5, 7] 9 = 7 := rfl
theorem sw_70_11_0 : swt 0 [12, 16, 24, 24, 24, 24, 20, 12, 24] 0 = 12 := rfl
theorem sw_70_11_1 : swt 0 [12, 16, 24, 24, 24, 24, 20, 12, 24] 1 = 16 := rfl
theorem sw_70_11_2 : swt 0 [12, 16, 24, 24, 24, 24, 20, 12, 24] 2 = 24 := rfl
theorem sw_70_11_3 : swt 0 [12, 16, 24, 24, 24, 24, 20, 12, 24] 3 = 24 := rfl
theorem sw_70_11_4 : swt 0 [12, 16, 24, 24, 24, 24, 20, 12, 24] 4 = 24 := rfl
theorem sw_70_11_5 : swt 0 [12, 16, 24, 24, 24, 24, 20, 12, 24] 5 = 24 := rfl
theorem sw_70_11_6 : swt 0 [12, 16, 24, 24, 24, 24, 20, 12, 24] 6 = 20 := rfl
theorem sw_70_11_7 : swt 0 [12, 16, 24, 24, 24, 24, 20, 12, 24] 7 = 12 := rfl
theorem sw_70_11_8 : swt 0 [12, 16, 24, 24, 24, 24, 20, 12, 24] 8 = 24 := rfl
theorem sw_70_11_9 : swt 0 [12, 16, 24, 24, 24, 24, 20, 12, 24] 9 = 24 := rfl
theorem sw_72_1_0 : swt 2 [2, 6, 12, 16] 0 = 16 := rfl
theorem sw_72_1_1 : swt 2 [2, 6, 12, 16] 1 = 16 := rfl
theorem sw_72_1_2 : swt 2 [2, 6, 12, 16] 2 = 2 := rfl
theorem sw_72_1_3 : swt 2 [2, 6, 12, 16] 3 = 6 := rfl
theorem sw_72_1_4 : swt 2 [2, 6, 12, 16] 4 = 12 := rfl
theorem sw_72_1_5 : swt 2 [2, 6, 12, 16] 5 = 16 := rfl
theorem sw_72_1_6 : swt 2 [2, 6, 12, 16] 6 = 16 := rfl
theorem sw_286_0_0 : swt 0 [1, 6, 16, 20, 24, 29, 37, 41] 0 = 1 := rfl
theorem sw_286_0_1 : swt 0 [1, 6, 16, 20, 24, 29, 37, 41] 1 = 6 := rfl
theorem sw_286_0_2 : swt 0 [1, 6, 16, 20, 24, 29, 37, 41] 2 = 16 := rfl
theorem sw_286_0_3 : swt 0 [1, 6, 16, 20, 24, 29, 37, 41] 3 = 20 := rfl
theorem sw_286_0_4 : swt 0 [1, 6, 16, 20, 24, 29, 37, 41] 4 = 24 := rfl
theorem sw_286_0_5 : swt 0 [1, 6, 16, 20, 24, 29, 37, 41] 5 = 29 := rfl
theorem sw_286_0_6 : swt 0 [1, 6, 16, 20, 24, 29, 37, 41] 6 = 37 := rfl
theorem sw_286_0_7 : swt 0 [1, 6, 16, 20, 24, 29, 37, 41] 7 = 41 := rfl
theorem sw_286_0_8 : swt 0 [1, 6, 16, 20, 24, 29, 37, 41] 8 = 41 := rfl
