/-! THE METHODS, printed: their blocks; who calls whom by which number -/
def aLb_0 : List (Nat × List ab_I × ab_T) := [(0, [(.new 8, 3, 11, 0), (.dup, 1, 0, 0)], (.invokespecial 121, 3, (121, 1, 100), [1])),
  (7, [(.astore_n 1, 1, 0, 0), (.new 122, 3, 13, 0), (.dup, 1, 0, 0)], (.invokespecial 124, 3, (185, 1, 100), [2])),
  (15, [(.astore_n 2, 1, 0, 0), (.iconst 1, 1, 0, 0), (.newarray .long, 2, 0, 0), (.astore_n 3, 1, 0, 0), (.iconst 1, 1, 0, 0), (.newarray .double, 2, 0, 0), (.astore 4, 2, 0, 0), (.iconst 0, 1, 0, 0), (.istore 5, 2, 0, 0)], (.nop, 0, (0, 0, 0), [3]))]
def aLb_1 : List (Nat × List ab_I × ab_T) := [(28, [(.iload 5, 2, 0, 0), (.aload_n 0, 1, 0, 0), (.arraylength, 1, 0, 0), (.iconst 4, 1, 0, 0), (.isub, 1, 0, 0)], (.if_icmp .gt 2235, 3, (0, 0, 0), [340, 4])),
  (37, [(.aload_n 0, 1, 0, 0), (.iload 5, 2, 0, 0), (.iaload, 1, 0, 0), (.bipush 63, 2, 0, 0), (.iand, 1, 0, 0)], (.tableswitch 2219 0 40 #[180, 248, 316, 360, 416, 496, 576, 632, 688, 756, 769, 820, 900, 956, 1000, 1044, 1088, 1132, 1200, 1225, 1238, 1251, 1307, 1370, 1426, 1482, 1562, 1606, 1619, 1632, 1676, 1744, 1812, 1825, 1881, 1937, 2005, 2061, 2075, 2140, 2206], 180, (0, 0, 0), [5, 14, 23, 32, 41, 50, 59, 68, 77, 86, 90, 102, 111, 120, 129, 138, 147, 156, 165, 169, 173, 177, 186, 198, 207, 216, 225, 234, 238, 242, 251, 260, 269, 273, 282, 291, 300, 309, 313, 324, 335, 339])),
  (224, [(.aload_n 1, 1, 0, 0), (.aload_n 0, 1, 0, 0), (.iload 5, 2, 0, 0), (.iconst 1, 1, 0, 0), (.iadd, 1, 0, 0), (.iaload, 1, 0, 0), (.aload_n 0, 1, 0, 0), (.iload 5, 2, 0, 0), (.iconst 2, 1, 0, 0), (.iadd, 1, 0, 0), (.iaload, 1, 0, 0), (.aload_n 3, 1, 0, 0)], (.invokestatic 125, 3, (279, 4, 201), [6]))]
def aLb_2 : List (Nat × List ab_I × ab_T) := [(241, [(.istore 6, 2, 0, 0), (.aload_n 2, 1, 0, 0), (.aload_n 0, 1, 0, 0), (.iload 5, 2, 0, 0), (.iconst 1, 1, 0, 0), (.iadd, 1, 0, 0), (.iaload, 1, 0, 0), (.aload_n 0, 1, 0, 0), (.iload 5, 2, 0, 0), (.iconst 2, 1, 0, 0), (.iadd, 1, 0, 0), (.iaload, 1, 0, 0)], (.invokevirtual 130, 3, (223, 3, 13), [7])),
  (259, [(.istore 7, 2, 0, 0), (.aload_n 2, 1, 0, 0)], (.invokevirtual 131, 3, (186, 1, 13), [8]))]
def aLb_3 : List (Nat × List ab_I × ab_T) := [(265, [(.iload 6, 2, 0, 0)], (.if_icmp .eq 5, 3, (0, 0, 0), [10, 9])),
  (270, [(.iconst 0, 1, 0, 0)], (.ireturn, 1, (1, 0, 0), [])),
  (272, [(.iload 6, 2, 0, 0)], (.ifCond .ne 15, 3, (0, 0, 0), [13, 11])),
  (277, [(.aload_n 3, 1, 0, 0), (.iconst 0, 1, 0, 0), (.laload, 1, 0, 0), (.iload 7, 2, 0, 0), (.i2l, 1, 0, 0), (.lcmp, 1, 0, 0)], (.ifCond .eq 5, 3, (0, 0, 0), [13, 12])),
  (287, [(.iconst 0, 1, 0, 0)], (.ireturn, 1, (1, 0, 0), []))]
def aLb_4 : List (Nat × List ab_I × ab_T) := [(289, [], (.goto 1974, 3, (0, 0, 0), [339])),
  (292, [(.aload_n 1, 1, 0, 0), (.aload_n 0, 1, 0, 0), (.iload 5, 2, 0, 0), (.iconst 1, 1, 0, 0), (.iadd, 1, 0, 0), (.iaload, 1, 0, 0), (.aload_n 0, 1, 0, 0), (.iload 5, 2, 0, 0), (.iconst 2, 1, 0, 0), (.iadd, 1, 0, 0), (.iaload, 1, 0, 0), (.aload_n 3, 1, 0, 0)], (.invokestatic 134, 3, (280, 4, 201), [15]))]
def aLb_5 : List (Nat × List ab_I × ab_T) := [(309, [(.istore 6, 2, 0, 0), (.aload_n 2, 1, 0, 0), (.aload_n 0, 1, 0, 0), (.iload 5, 2, 0, 0), (.iconst 1, 1, 0, 0), (.iadd, 1, 0, 0), (.iaload, 1, 0, 0), (.aload_n 0, 1, 0, 0), (.iload 5, 2, 0, 0), (.iconst 2, 1, 0, 0), (.iadd, 1, 0, 0), (.iaload, 1, 0, 0)], (.invokevirtual 136, 3, (224, 3, 13), [16])),
  (327, [(.istore 7, 2, 0, 0), (.aload_n 2, 1, 0, 0)], (.invokevirtual 131, 3, (186, 1, 13), [17]))]
def aLb_6 : List (Nat × List ab_I × ab_T) := [(333, [(.iload 6, 2, 0, 0)], (.if_icmp .eq 5, 3, (0, 0, 0), [19, 18])),
  (338, [(.iconst 0, 1, 0, 0)], (.ireturn, 1, (1, 0, 0), [])),
  (340, [(.iload 6, 2, 0, 0)], (.ifCond .ne 15, 3, (0, 0, 0), [22, 20])),
  (345, [(.aload_n 3, 1, 0, 0), (.iconst 0, 1, 0, 0), (.laload, 1, 0, 0), (.iload 7, 2, 0, 0), (.i2l, 1, 0, 0), (.lcmp, 1, 0, 0)], (.ifCond .eq 5, 3, (0, 0, 0), [22, 21])),
  (355, [(.iconst 0, 1, 0, 0)], (.ireturn, 1, (1, 0, 0), []))]
def aLb_7 : List (Nat × List ab_I × ab_T) := [(357, [], (.goto 1906, 3, (0, 0, 0), [339])),
  (360, [(.aload_n 1, 1, 0, 0), (.aload_n 3, 1, 0, 0)], (.invokestatic 137, 3, (281, 2, 201), [24])),
  (365, [(.istore 6, 2, 0, 0), (.aload_n 2, 1, 0, 0)], (.invokevirtual 140, 3, (225, 1, 13), [25])),
  (371, [(.istore 7, 2, 0, 0), (.aload_n 2, 1, 0, 0)], (.invokevirtual 131, 3, (186, 1, 13), [26])),
  (377, [(.iload 6, 2, 0, 0)], (.if_icmp .eq 5, 3, (0, 0, 0), [28, 27])),
  (382, [(.iconst 0, 1, 0, 0)], (.ireturn, 1, (1, 0, 0), []))]
def aLb_8 : List (Nat × List ab_I × ab_T) := [(384, [(.iload 6, 2, 0, 0)], (.ifCond .ne 15, 3, (0, 0, 0), [31, 29])),
  (389, [(.aload_n 3, 1, 0, 0), (.iconst 0, 1, 0, 0), (.laload, 1, 0, 0), (.iload 7, 2, 0, 0), (.i2l, 1, 0, 0), (.lcmp, 1, 0, 0)], (.ifCond .eq 5, 3, (0, 0, 0), [31, 30])),
  (399, [(.iconst 0, 1, 0, 0)], (.ireturn, 1, (1, 0, 0), [])),
  (401, [], (.goto 1862, 3, (0, 0, 0), [339])),
  (404, [(.aload_n 1, 1, 0, 0), (.aload_n 0, 1, 0, 0), (.iload 5, 2, 0, 0), (.iconst 1, 1, 0, 0), (.iadd, 1, 0, 0), (.iaload, 1, 0, 0), (.aload_n 3, 1, 0, 0)], (.invokestatic 141, 3, (282, 3, 201), [33]))]
def aLb_9 : List (Nat × List ab_I × ab_T) := [(415, [(.istore 6, 2, 0, 0), (.aload_n 2, 1, 0, 0), (.aload_n 0, 1, 0, 0), (.iload 5, 2, 0, 0), (.iconst 1, 1, 0, 0), (.iadd, 1, 0, 0), (.iaload, 1, 0, 0)], (.invokevirtual 144, 3, (226, 2, 13), [34])),
  (427, [(.istore 7, 2, 0, 0), (.aload_n 2, 1, 0, 0)], (.invokevirtual 131, 3, (186, 1, 13), [35])),
  (433, [(.iload 6, 2, 0, 0)], (.if_icmp .eq 5, 3, (0, 0, 0), [37, 36])),
  (438, [(.iconst 0, 1, 0, 0)], (.ireturn, 1, (1, 0, 0), []))]
def aLb_10 : List (Nat × List ab_I × ab_T) := [(440, [(.iload 6, 2, 0, 0)], (.ifCond .ne 15, 3, (0, 0, 0), [40, 38])),
  (445, [(.aload_n 3, 1, 0, 0), (.iconst 0, 1, 0, 0), (.laload, 1, 0, 0), (.iload 7, 2, 0, 0), (.i2l, 1, 0, 0), (.lcmp, 1, 0, 0)], (.ifCond .eq 5, 3, (0, 0, 0), [40, 39])),
  (455, [(.iconst 0, 1, 0, 0)], (.ireturn, 1, (1, 0, 0), [])),
  (457, [], (.goto 1806, 3, (0, 0, 0), [339])),
  (460, [(.aload_n 1, 1, 0, 0), (.aload_n 0, 1, 0, 0), (.iload 5, 2, 0, 0), (.iconst 1, 1, 0, 0), (.iadd, 1, 0, 0), (.iaload, 1, 0, 0), (.aload_n 0, 1, 0, 0), (.iload 5, 2, 0, 0), (.iconst 2, 1, 0, 0), (.iadd, 1, 0, 0), (.iaload, 1, 0, 0), (.aload_n 0, 1, 0, 0), (.iload 5, 2, 0, 0), (.iconst 3, 1, 0, 0), (.iadd, 1, 0, 0), (.iaload, 1, 0, 0), (.aload_n 3, 1, 0, 0)], (.invokestatic 145, 3, (283, 5, 201), [42]))]
def aLb_11 : List (Nat × List ab_I × ab_T) := [(483, [(.istore 6, 2, 0, 0), (.aload_n 2, 1, 0, 0), (.aload_n 0, 1, 0, 0), (.iload 5, 2, 0, 0), (.iconst 1, 1, 0, 0), (.iadd, 1, 0, 0), (.iaload, 1, 0, 0), (.aload_n 0, 1, 0, 0), (.iload 5, 2, 0, 0), (.iconst 2, 1, 0, 0), (.iadd, 1, 0, 0), (.iaload, 1, 0, 0), (.aload_n 0, 1, 0, 0), (.iload 5, 2, 0, 0), (.iconst 3, 1, 0, 0), (.iadd, 1, 0, 0), (.iaload, 1, 0, 0)], (.invokevirtual 148, 3, (227, 4, 13), [43]))]
def aLb_12 : List (Nat × List ab_I × ab_T) := [(507, [(.istore 7, 2, 0, 0), (.aload_n 2, 1, 0, 0)], (.invokevirtual 131, 3, (186, 1, 13), [44])),
  (513, [(.iload 6, 2, 0, 0)], (.if_icmp .eq 5, 3, (0, 0, 0), [46, 45])),
  (518, [(.iconst 0, 1, 0, 0)], (.ireturn, 1, (1, 0, 0), [])),
  (520, [(.iload 6, 2, 0, 0)], (.ifCond .ne 15, 3, (0, 0, 0), [49, 47])),
  (525, [(.aload_n 3, 1, 0, 0), (.iconst 0, 1, 0, 0), (.laload, 1, 0, 0), (.iload 7, 2, 0, 0), (.i2l, 1, 0, 0), (.lcmp, 1, 0, 0)], (.ifCond .eq 5, 3, (0, 0, 0), [49, 48]))]
def aLb_13 : List (Nat × List ab_I × ab_T) := [(535, [(.iconst 0, 1, 0, 0)], (.ireturn, 1, (1, 0, 0), [])),
  (537, [], (.goto 1726, 3, (0, 0, 0), [339])),
  (540, [(.aload_n 1, 1, 0, 0), (.aload_n 0, 1, 0, 0), (.iload 5, 2, 0, 0), (.iconst 1, 1, 0, 0), (.iadd, 1, 0, 0), (.iaload, 1, 0, 0), (.aload_n 0, 1, 0, 0), (.iload 5, 2, 0, 0), (.iconst 2, 1, 0, 0), (.iadd, 1, 0, 0), (.iaload, 1, 0, 0), (.aload_n 0, 1, 0, 0), (.iload 5, 2, 0, 0), (.iconst 3, 1, 0, 0), (.iadd, 1, 0, 0), (.iaload, 1, 0, 0), (.aload_n 3, 1, 0, 0)], (.invokestatic 149, 3, (284, 5, 201), [51]))]
def aLb_14 : List (Nat × List ab_I × ab_T) := [(563, [(.istore 6, 2, 0, 0), (.aload_n 2, 1, 0, 0), (.aload_n 0, 1, 0, 0), (.iload 5, 2, 0, 0), (.iconst 1, 1, 0, 0), (.iadd, 1, 0, 0), (.iaload, 1, 0, 0), (.aload_n 0, 1, 0, 0), (.iload 5, 2, 0, 0), (.iconst 2, 1, 0, 0), (.iadd, 1, 0, 0), (.iaload, 1, 0, 0), (.aload_n 0, 1, 0, 0), (.iload 5, 2, 0, 0), (.iconst 3, 1, 0, 0), (.iadd, 1, 0, 0), (.iaload, 1, 0, 0)], (.invokevirtual 151, 3, (229, 4, 13), [52]))]
def aLb_15 : List (Nat × List ab_I × ab_T) := [(587, [(.istore 7, 2, 0, 0), (.aload_n 2, 1, 0, 0)], (.invokevirtual 131, 3, (186, 1, 13), [53])),
  (593, [(.iload 6, 2, 0, 0)], (.if_icmp .eq 5, 3, (0, 0, 0), [55, 54])),
  (598, [(.iconst 0, 1, 0, 0)], (.ireturn, 1, (1, 0, 0), [])),
  (600, [(.iload 6, 2, 0, 0)], (.ifCond .ne 15, 3, (0, 0, 0), [58, 56])),
  (605, [(.aload_n 3, 1, 0, 0), (.iconst 0, 1, 0, 0), (.laload, 1, 0, 0), (.iload 7, 2, 0, 0), (.i2l, 1, 0, 0), (.lcmp, 1, 0, 0)], (.ifCond .eq 5, 3, (0, 0, 0), [58, 57]))]
def aLb_16 : List (Nat × List ab_I × ab_T) := [(615, [(.iconst 0, 1, 0, 0)], (.ireturn, 1, (1, 0, 0), [])),
  (617, [], (.goto 1646, 3, (0, 0, 0), [339])),
  (620, [(.aload_n 1, 1, 0, 0), (.aload_n 0, 1, 0, 0), (.iload 5, 2, 0, 0), (.iconst 1, 1, 0, 0), (.iadd, 1, 0, 0), (.iaload, 1, 0, 0), (.aload_n 3, 1, 0, 0)], (.invokestatic 152, 3, (285, 3, 201), [60])),
  (631, [(.istore 6, 2, 0, 0), (.aload_n 2, 1, 0, 0), (.aload_n 0, 1, 0, 0), (.iload 5, 2, 0, 0), (.iconst 1, 1, 0, 0), (.iadd, 1, 0, 0), (.iaload, 1, 0, 0)], (.invokevirtual 154, 3, (230, 2, 13), [61]))]
def aLb_17 : List (Nat × List ab_I × ab_T) := [(643, [(.istore 7, 2, 0, 0), (.aload_n 2, 1, 0, 0)], (.invokevirtual 131, 3, (186, 1, 13), [62])),
  (649, [(.iload 6, 2, 0, 0)], (.if_icmp .eq 5, 3, (0, 0, 0), [64, 63])),
  (654, [(.iconst 0, 1, 0, 0)], (.ireturn, 1, (1, 0, 0), [])),
  (656, [(.iload 6, 2, 0, 0)], (.ifCond .ne 15, 3, (0, 0, 0), [67, 65])),
  (661, [(.aload_n 3, 1, 0, 0), (.iconst 0, 1, 0, 0), (.laload, 1, 0, 0), (.iload 7, 2, 0, 0), (.i2l, 1, 0, 0), (.lcmp, 1, 0, 0)], (.ifCond .eq 5, 3, (0, 0, 0), [67, 66]))]
def aLb_18 : List (Nat × List ab_I × ab_T) := [(671, [(.iconst 0, 1, 0, 0)], (.ireturn, 1, (1, 0, 0), [])),
  (673, [], (.goto 1590, 3, (0, 0, 0), [339])),
  (676, [(.aload_n 1, 1, 0, 0), (.aload_n 0, 1, 0, 0), (.iload 5, 2, 0, 0), (.iconst 1, 1, 0, 0), (.iadd, 1, 0, 0), (.iaload, 1, 0, 0), (.aload_n 3, 1, 0, 0)], (.invokestatic 155, 3, (286, 3, 201), [69])),
  (687, [(.istore 6, 2, 0, 0), (.aload_n 2, 1, 0, 0), (.aload_n 0, 1, 0, 0), (.iload 5, 2, 0, 0), (.iconst 1, 1, 0, 0), (.iadd, 1, 0, 0), (.iaload, 1, 0, 0)], (.invokevirtual 157, 3, (231, 2, 13), [70]))]
def aLb_19 : List (Nat × List ab_I × ab_T) := [(699, [(.istore 7, 2, 0, 0), (.aload_n 2, 1, 0, 0)], (.invokevirtual 131, 3, (186, 1, 13), [71])),
  (705, [(.iload 6, 2, 0, 0)], (.if_icmp .eq 5, 3, (0, 0, 0), [73, 72])),
  (710, [(.iconst 0, 1, 0, 0)], (.ireturn, 1, (1, 0, 0), [])),
  (712, [(.iload 6, 2, 0, 0)], (.ifCond .ne 15, 3, (0, 0, 0), [76, 74])),
  (717, [(.aload_n 3, 1, 0, 0), (.iconst 0, 1, 0, 0), (.laload, 1, 0, 0), (.iload 7, 2, 0, 0), (.i2l, 1, 0, 0), (.lcmp, 1, 0, 0)], (.ifCond .eq 5, 3, (0, 0, 0), [76, 75]))]
def aLb_20 : List (Nat × List ab_I × ab_T) := [(727, [(.iconst 0, 1, 0, 0)], (.ireturn, 1, (1, 0, 0), [])),
  (729, [], (.goto 1534, 3, (0, 0, 0), [339])),
  (732, [(.aload_n 1, 1, 0, 0), (.aload_n 0, 1, 0, 0), (.iload 5, 2, 0, 0), (.iconst 1, 1, 0, 0), (.iadd, 1, 0, 0), (.iaload, 1, 0, 0), (.aload_n 0, 1, 0, 0), (.iload 5, 2, 0, 0), (.iconst 2, 1, 0, 0), (.iadd, 1, 0, 0), (.iaload, 1, 0, 0), (.aload_n 3, 1, 0, 0)], (.invokestatic 158, 3, (287, 4, 201), [78]))]
def aLb_21 : List (Nat × List ab_I × ab_T) := [(749, [(.istore 6, 2, 0, 0), (.aload_n 2, 1, 0, 0), (.aload_n 0, 1, 0, 0), (.iload 5, 2, 0, 0), (.iconst 1, 1, 0, 0), (.iadd, 1, 0, 0), (.iaload, 1, 0, 0), (.aload_n 0, 1, 0, 0), (.iload 5, 2, 0, 0), (.iconst 2, 1, 0, 0), (.iadd, 1, 0, 0), (.iaload, 1, 0, 0)], (.invokevirtual 160, 3, (232, 3, 13), [79])),
  (767, [(.istore 7, 2, 0, 0), (.aload_n 2, 1, 0, 0)], (.invokevirtual 131, 3, (186, 1, 13), [80]))]
def aLb_22 : List (Nat × List ab_I × ab_T) := [(773, [(.iload 6, 2, 0, 0)], (.if_icmp .eq 5, 3, (0, 0, 0), [82, 81])),
  (778, [(.iconst 0, 1, 0, 0)], (.ireturn, 1, (1, 0, 0), [])),
  (780, [(.iload 6, 2, 0, 0)], (.ifCond .ne 15, 3, (0, 0, 0), [85, 83])),
  (785, [(.aload_n 3, 1, 0, 0), (.iconst 0, 1, 0, 0), (.laload, 1, 0, 0), (.iload 7, 2, 0, 0), (.i2l, 1, 0, 0), (.lcmp, 1, 0, 0)], (.ifCond .eq 5, 3, (0, 0, 0), [85, 84])),
  (795, [(.iconst 0, 1, 0, 0)], (.ireturn, 1, (1, 0, 0), []))]
def aLb_23 : List (Nat × List ab_I × ab_T) := [(797, [], (.goto 1466, 3, (0, 0, 0), [339])),
  (800, [(.aload_n 1, 1, 0, 0)], (.invokevirtual 161, 3, (131, 1, 11), [87])),
  (804, [(.aload_n 2, 1, 0, 0)], (.invokevirtual 164, 3, (233, 1, 13), [88])),
  (808, [], (.if_icmp .eq 1455, 3, (0, 0, 0), [339, 89])),
  (811, [(.iconst 0, 1, 0, 0)], (.ireturn, 1, (1, 0, 0), [])),
  (813, [(.aload_n 1, 1, 0, 0), (.aload_n 3, 1, 0, 0)], (.invokestatic 165, 3, (288, 2, 201), [91])),
  (818, [(.istore 6, 2, 0, 0), (.aload_n 2, 1, 0, 0)], (.invokevirtual 167, 3, (235, 1, 13), [92]))]
def aLb_24 : List (Nat × List ab_I × ab_T) := [(824, [(.istore 7, 2, 0, 0), (.aload_n 2, 1, 0, 0)], (.invokevirtual 131, 3, (186, 1, 13), [93])),
  (830, [(.iload 6, 2, 0, 0)], (.if_icmp .eq 5, 3, (0, 0, 0), [95, 94])),
  (835, [(.iconst 0, 1, 0, 0)], (.ireturn, 1, (1, 0, 0), [])),
  (837, [(.iload 6, 2, 0, 0)], (.ifCond .ne 22, 3, (0, 0, 0), [101, 96])),
  (842, [(.aload_n 3, 1, 0, 0), (.iconst 0, 1, 0, 0), (.laload, 1, 0, 0), (.iload 7, 2, 0, 0)], (.ifCond .eq 7, 3, (0, 0, 0), [98, 97]))]
def aLb_25 : List (Nat × List ab_I × ab_T) := [(850, [(.lconst 1, 1, 0, 0)], (.goto 4, 3, (0, 0, 0), [99])),
  (854, [(.lconst 0, 1, 0, 0)], (.nop, 0, (0, 0, 0), [99])),
  (855, [(.lcmp, 1, 0, 0)], (.ifCond .eq 5, 3, (0, 0, 0), [101, 100])),
  (859, [(.iconst 0, 1, 0, 0)], (.ireturn, 1, (1, 0, 0), [])),
  (861, [], (.goto 1402, 3, (0, 0, 0), [339])),
  (864, [(.aload_n 1, 1, 0, 0), (.aload_n 0, 1, 0, 0), (.iload 5, 2, 0, 0), (.iconst 1, 1, 0, 0), (.iadd, 1, 0, 0), (.iaload, 1, 0, 0), (.aload_n 0, 1, 0, 0), (.iload 5, 2, 0, 0), (.iconst 2, 1, 0, 0), (.iadd, 1, 0, 0), (.iaload, 1, 0, 0), (.aload_n 0, 1, 0, 0), (.iload 5, 2, 0, 0), (.iconst 3, 1, 0, 0), (.iadd, 1, 0, 0), (.iaload, 1, 0, 0), (.aload_n 3, 1, 0, 0)], (.invokestatic 168, 3, (289, 5, 201), [103]))]
def aLb_26 : List (Nat × List ab_I × ab_T) := [(887, [(.istore 6, 2, 0, 0), (.aload_n 2, 1, 0, 0), (.aload_n 0, 1, 0, 0), (.iload 5, 2, 0, 0), (.iconst 1, 1, 0, 0), (.iadd, 1, 0, 0), (.iaload, 1, 0, 0), (.aload_n 0, 1, 0, 0), (.iload 5, 2, 0, 0), (.iconst 2, 1, 0, 0), (.iadd, 1, 0, 0), (.iaload, 1, 0, 0), (.aload_n 0, 1, 0, 0), (.iload 5, 2, 0, 0), (.iconst 3, 1, 0, 0), (.iadd, 1, 0, 0), (.iaload, 1, 0, 0)], (.invokevirtual 170, 3, (236, 4, 13), [104]))]
def aLb_27 : List (Nat × List ab_I × ab_T) := [(911, [(.istore 7, 2, 0, 0), (.aload_n 2, 1, 0, 0)], (.invokevirtual 131, 3, (186, 1, 13), [105])),
  (917, [(.iload 6, 2, 0, 0)], (.if_icmp .eq 5, 3, (0, 0, 0), [107, 106])),
  (922, [(.iconst 0, 1, 0, 0)], (.ireturn, 1, (1, 0, 0), [])),
  (924, [(.iload 6, 2, 0, 0)], (.ifCond .ne 15, 3, (0, 0, 0), [110, 108])),
  (929, [(.aload_n 3, 1, 0, 0), (.iconst 0, 1, 0, 0), (.laload, 1, 0, 0), (.iload 7, 2, 0, 0), (.i2l, 1, 0, 0), (.lcmp, 1, 0, 0)], (.ifCond .eq 5, 3, (0, 0, 0), [110, 109]))]
def aLb_28 : List (Nat × List ab_I × ab_T) := [(939, [(.iconst 0, 1, 0, 0)], (.ireturn, 1, (1, 0, 0), [])),
  (941, [], (.goto 1322, 3, (0, 0, 0), [339])),
  (944, [(.aload_n 1, 1, 0, 0), (.aload_n 0, 1, 0, 0), (.iload 5, 2, 0, 0), (.iconst 1, 1, 0, 0), (.iadd, 1, 0, 0), (.iaload, 1, 0, 0), (.aload_n 3, 1, 0, 0)], (.invokestatic 171, 3, (290, 3, 201), [112])),
  (955, [(.istore 6, 2, 0, 0), (.aload_n 2, 1, 0, 0), (.aload_n 0, 1, 0, 0), (.iload 5, 2, 0, 0), (.iconst 1, 1, 0, 0), (.iadd, 1, 0, 0), (.iaload, 1, 0, 0)], (.invokevirtual 173, 3, (237, 2, 13), [113]))]
def aLb_29 : List (Nat × List ab_I × ab_T) := [(967, [(.istore 7, 2, 0, 0), (.aload_n 2, 1, 0, 0)], (.invokevirtual 131, 3, (186, 1, 13), [114])),
  (973, [(.iload 6, 2, 0, 0)], (.if_icmp .eq 5, 3, (0, 0, 0), [116, 115])),
  (978, [(.iconst 0, 1, 0, 0)], (.ireturn, 1, (1, 0, 0), [])),
  (980, [(.iload 6, 2, 0, 0)], (.ifCond .ne 15, 3, (0, 0, 0), [119, 117])),
  (985, [(.aload_n 3, 1, 0, 0), (.iconst 0, 1, 0, 0), (.laload, 1, 0, 0), (.iload 7, 2, 0, 0), (.i2l, 1, 0, 0), (.lcmp, 1, 0, 0)], (.ifCond .eq 5, 3, (0, 0, 0), [119, 118]))]
def aLb_30 : List (Nat × List ab_I × ab_T) := [(995, [(.iconst 0, 1, 0, 0)], (.ireturn, 1, (1, 0, 0), [])),
  (997, [], (.goto 1266, 3, (0, 0, 0), [339])),
  (1000, [(.aload_n 1, 1, 0, 0), (.aload_n 3, 1, 0, 0)], (.invokestatic 174, 3, (291, 2, 201), [121])),
  (1005, [(.istore 6, 2, 0, 0), (.aload_n 2, 1, 0, 0)], (.invokevirtual 176, 3, (238, 1, 13), [122])),
  (1011, [(.istore 7, 2, 0, 0), (.aload_n 2, 1, 0, 0)], (.invokevirtual 131, 3, (186, 1, 13), [123])),
  (1017, [(.iload 6, 2, 0, 0)], (.if_icmp .eq 5, 3, (0, 0, 0), [125, 124]))]
def aLb_31 : List (Nat × List ab_I × ab_T) := [(1022, [(.iconst 0, 1, 0, 0)], (.ireturn, 1, (1, 0, 0), [])),
  (1024, [(.iload 6, 2, 0, 0)], (.ifCond .ne 15, 3, (0, 0, 0), [128, 126])),
  (1029, [(.aload_n 3, 1, 0, 0), (.iconst 0, 1, 0, 0), (.laload, 1, 0, 0), (.iload 7, 2, 0, 0), (.i2l, 1, 0, 0), (.lcmp, 1, 0, 0)], (.ifCond .eq 5, 3, (0, 0, 0), [128, 127])),
  (1039, [(.iconst 0, 1, 0, 0)], (.ireturn, 1, (1, 0, 0), [])),
  (1041, [], (.goto 1222, 3, (0, 0, 0), [339]))]
def aLb_32 : List (Nat × List ab_I × ab_T) := [(1044, [(.aload_n 1, 1, 0, 0), (.aload_n 3, 1, 0, 0)], (.invokestatic 177, 3, (292, 2, 201), [130])),
  (1049, [(.istore 6, 2, 0, 0), (.aload_n 2, 1, 0, 0)], (.invokevirtual 179, 3, (239, 1, 13), [131])),
  (1055, [(.istore 7, 2, 0, 0), (.aload_n 2, 1, 0, 0)], (.invokevirtual 131, 3, (186, 1, 13), [132])),
  (1061, [(.iload 6, 2, 0, 0)], (.if_icmp .eq 5, 3, (0, 0, 0), [134, 133])),
  (1066, [(.iconst 0, 1, 0, 0)], (.ireturn, 1, (1, 0, 0), [])),
  (1068, [(.iload 6, 2, 0, 0)], (.ifCond .ne 15, 3, (0, 0, 0), [137, 135]))]
def aLb_33 : List (Nat × List ab_I × ab_T) := [(1073, [(.aload_n 3, 1, 0, 0), (.iconst 0, 1, 0, 0), (.laload, 1, 0, 0), (.iload 7, 2, 0, 0), (.i2l, 1, 0, 0), (.lcmp, 1, 0, 0)], (.ifCond .eq 5, 3, (0, 0, 0), [137, 136])),
  (1083, [(.iconst 0, 1, 0, 0)], (.ireturn, 1, (1, 0, 0), [])),
  (1085, [], (.goto 1178, 3, (0, 0, 0), [339])),
  (1088, [(.aload_n 1, 1, 0, 0), (.aload_n 3, 1, 0, 0)], (.invokestatic 180, 3, (293, 2, 201), [139])),
  (1093, [(.istore 6, 2, 0, 0), (.aload_n 2, 1, 0, 0)], (.invokevirtual 182, 3, (240, 1, 13), [140]))]
def aLb_34 : List (Nat × List ab_I × ab_T) := [(1099, [(.istore 7, 2, 0, 0), (.aload_n 2, 1, 0, 0)], (.invokevirtual 131, 3, (186, 1, 13), [141])),
  (1105, [(.iload 6, 2, 0, 0)], (.if_icmp .eq 5, 3, (0, 0, 0), [143, 142])),
  (1110, [(.iconst 0, 1, 0, 0)], (.ireturn, 1, (1, 0, 0), [])),
  (1112, [(.iload 6, 2, 0, 0)], (.ifCond .ne 15, 3, (0, 0, 0), [146, 144])),
  (1117, [(.aload_n 3, 1, 0, 0), (.iconst 0, 1, 0, 0), (.laload, 1, 0, 0), (.iload 7, 2, 0, 0), (.i2l, 1, 0, 0), (.lcmp, 1, 0, 0)], (.ifCond .eq 5, 3, (0, 0, 0), [146, 145]))]
def aLb_35 : List (Nat × List ab_I × ab_T) := [(1127, [(.iconst 0, 1, 0, 0)], (.ireturn, 1, (1, 0, 0), [])),
  (1129, [], (.goto 1134, 3, (0, 0, 0), [339])),
  (1132, [(.aload_n 1, 1, 0, 0), (.aload_n 3, 1, 0, 0)], (.invokestatic 183, 3, (294, 2, 201), [148])),
  (1137, [(.istore 6, 2, 0, 0), (.aload_n 2, 1, 0, 0)], (.invokevirtual 185, 3, (241, 1, 13), [149])),
  (1143, [(.istore 7, 2, 0, 0), (.aload_n 2, 1, 0, 0)], (.invokevirtual 131, 3, (186, 1, 13), [150])),
  (1149, [(.iload 6, 2, 0, 0)], (.if_icmp .eq 5, 3, (0, 0, 0), [152, 151]))]
def aLb_36 : List (Nat × List ab_I × ab_T) := [(1154, [(.iconst 0, 1, 0, 0)], (.ireturn, 1, (1, 0, 0), [])),
  (1156, [(.iload 6, 2, 0, 0)], (.ifCond .ne 15, 3, (0, 0, 0), [155, 153])),
  (1161, [(.aload_n 3, 1, 0, 0), (.iconst 0, 1, 0, 0), (.laload, 1, 0, 0), (.iload 7, 2, 0, 0), (.i2l, 1, 0, 0), (.lcmp, 1, 0, 0)], (.ifCond .eq 5, 3, (0, 0, 0), [155, 154])),
  (1171, [(.iconst 0, 1, 0, 0)], (.ireturn, 1, (1, 0, 0), [])),
  (1173, [], (.goto 1090, 3, (0, 0, 0), [339]))]
def aLb_37 : List (Nat × List ab_I × ab_T) := [(1176, [(.aload_n 1, 1, 0, 0), (.aload_n 0, 1, 0, 0), (.iload 5, 2, 0, 0), (.iconst 1, 1, 0, 0), (.iadd, 1, 0, 0), (.iaload, 1, 0, 0), (.aload_n 0, 1, 0, 0), (.iload 5, 2, 0, 0), (.iconst 2, 1, 0, 0), (.iadd, 1, 0, 0), (.iaload, 1, 0, 0), (.aload_n 3, 1, 0, 0)], (.invokestatic 186, 3, (295, 4, 201), [157])),
  (1193, [(.istore 6, 2, 0, 0), (.aload_n 2, 1, 0, 0), (.aload_n 0, 1, 0, 0), (.iload 5, 2, 0, 0), (.iconst 1, 1, 0, 0), (.iadd, 1, 0, 0), (.iaload, 1, 0, 0), (.aload_n 0, 1, 0, 0), (.iload 5, 2, 0, 0), (.iconst 2, 1, 0, 0), (.iadd, 1, 0, 0), (.iaload, 1, 0, 0)], (.invokevirtual 188, 3, (242, 3, 13), [158]))]
def aLb_38 : List (Nat × List ab_I × ab_T) := [(1211, [(.istore 7, 2, 0, 0), (.aload_n 2, 1, 0, 0)], (.invokevirtual 131, 3, (186, 1, 13), [159])),
  (1217, [(.iload 6, 2, 0, 0)], (.if_icmp .eq 5, 3, (0, 0, 0), [161, 160])),
  (1222, [(.iconst 0, 1, 0, 0)], (.ireturn, 1, (1, 0, 0), [])),
  (1224, [(.iload 6, 2, 0, 0)], (.ifCond .ne 15, 3, (0, 0, 0), [164, 162])),
  (1229, [(.aload_n 3, 1, 0, 0), (.iconst 0, 1, 0, 0), (.laload, 1, 0, 0), (.iload 7, 2, 0, 0), (.i2l, 1, 0, 0), (.lcmp, 1, 0, 0)], (.ifCond .eq 5, 3, (0, 0, 0), [164, 163]))]
def aLb_39 : List (Nat × List ab_I × ab_T) := [(1239, [(.iconst 0, 1, 0, 0)], (.ireturn, 1, (1, 0, 0), [])),
  (1241, [], (.goto 1022, 3, (0, 0, 0), [339])),
  (1244, [(.aload_n 1, 1, 0, 0), (.aload_n 0, 1, 0, 0), (.iload 5, 2, 0, 0), (.iconst 1, 1, 0, 0), (.iadd, 1, 0, 0), (.iaload, 1, 0, 0)], (.invokevirtual 189, 3, (140, 2, 11), [166])),
  (1254, [(.aload_n 2, 1, 0, 0), (.aload_n 0, 1, 0, 0), (.iload 5, 2, 0, 0), (.iconst 1, 1, 0, 0), (.iadd, 1, 0, 0), (.iaload, 1, 0, 0)], (.invokevirtual 192, 3, (243, 2, 13), [167]))]
def aLb_40 : List (Nat × List ab_I × ab_T) := [(1264, [], (.if_icmp .eq 999, 3, (0, 0, 0), [339, 168])),
  (1267, [(.iconst 0, 1, 0, 0)], (.ireturn, 1, (1, 0, 0), [])),
  (1269, [(.aload_n 1, 1, 0, 0)], (.invokevirtual 193, 3, (141, 1, 11), [170])),
  (1273, [(.aload_n 2, 1, 0, 0)], (.invokevirtual 196, 3, (246, 1, 13), [171])),
  (1277, [], (.if_icmp .eq 986, 3, (0, 0, 0), [339, 172])),
  (1280, [(.iconst 0, 1, 0, 0)], (.ireturn, 1, (1, 0, 0), [])),
  (1282, [(.aload_n 1, 1, 0, 0)], (.invokevirtual 197, 3, (142, 1, 11), [174])),
  (1286, [(.aload_n 2, 1, 0, 0)], (.invokevirtual 200, 3, (248, 1, 13), [175]))]
def aLb_41 : List (Nat × List ab_I × ab_T) := [(1290, [], (.if_icmp .eq 973, 3, (0, 0, 0), [339, 176])),
  (1293, [(.iconst 0, 1, 0, 0)], (.ireturn, 1, (1, 0, 0), [])),
  (1295, [(.aload_n 1, 1, 0, 0), (.aload_n 0, 1, 0, 0), (.iload 5, 2, 0, 0), (.iconst 1, 1, 0, 0), (.iadd, 1, 0, 0), (.iaload, 1, 0, 0), (.aload_n 3, 1, 0, 0)], (.invokestatic 201, 3, (296, 3, 201), [178])),
  (1306, [(.istore 6, 2, 0, 0), (.aload_n 2, 1, 0, 0), (.aload_n 0, 1, 0, 0), (.iload 5, 2, 0, 0), (.iconst 1, 1, 0, 0), (.iadd, 1, 0, 0), (.iaload, 1, 0, 0)], (.invokevirtual 203, 3, (249, 2, 13), [179]))]
def aLb_42 : List (Nat × List ab_I × ab_T) := [(1318, [(.istore 7, 2, 0, 0), (.aload_n 2, 1, 0, 0)], (.invokevirtual 131, 3, (186, 1, 13), [180])),
  (1324, [(.iload 6, 2, 0, 0)], (.if_icmp .eq 5, 3, (0, 0, 0), [182, 181])),
  (1329, [(.iconst 0, 1, 0, 0)], (.ireturn, 1, (1, 0, 0), [])),
  (1331, [(.iload 6, 2, 0, 0)], (.ifCond .ne 15, 3, (0, 0, 0), [185, 183])),
  (1336, [(.aload_n 3, 1, 0, 0), (.iconst 0, 1, 0, 0), (.laload, 1, 0, 0), (.iload 7, 2, 0, 0), (.i2l, 1, 0, 0), (.lcmp, 1, 0, 0)], (.ifCond .eq 5, 3, (0, 0, 0), [185, 184]))]
def aLb_43 : List (Nat × List ab_I × ab_T) := [(1346, [(.iconst 0, 1, 0, 0)], (.ireturn, 1, (1, 0, 0), [])),
  (1348, [], (.goto 915, 3, (0, 0, 0), [339])),
  (1351, [(.aload_n 1, 1, 0, 0), (.aload_n 0, 1, 0, 0), (.iload 5, 2, 0, 0), (.iconst 1, 1, 0, 0), (.iadd, 1, 0, 0), (.iaload, 1, 0, 0), (.aload_n 3, 1, 0, 0)], (.invokestatic 204, 3, (297, 3, 201), [187])),
  (1362, [(.istore 6, 2, 0, 0), (.aload_n 2, 1, 0, 0), (.aload_n 0, 1, 0, 0), (.iload 5, 2, 0, 0), (.iconst 1, 1, 0, 0), (.iadd, 1, 0, 0), (.iaload, 1, 0, 0)], (.invokevirtual 206, 3, (250, 2, 13), [188]))]
def aLb_44 : List (Nat × List ab_I × ab_T) := [(1374, [(.istore 7, 2, 0, 0), (.aload_n 2, 1, 0, 0)], (.invokevirtual 131, 3, (186, 1, 13), [189])),
  (1380, [(.iload 6, 2, 0, 0)], (.if_icmp .eq 5, 3, (0, 0, 0), [191, 190])),
  (1385, [(.iconst 0, 1, 0, 0)], (.ireturn, 1, (1, 0, 0), [])),
  (1387, [(.iload 6, 2, 0, 0)], (.ifCond .ne 22, 3, (0, 0, 0), [197, 192])),
  (1392, [(.aload_n 3, 1, 0, 0), (.iconst 0, 1, 0, 0), (.laload, 1, 0, 0), (.iload 7, 2, 0, 0)], (.ifCond .eq 7, 3, (0, 0, 0), [194, 193]))]
def aLb_45 : List (Nat × List ab_I × ab_T) := [(1400, [(.lconst 1, 1, 0, 0)], (.goto 4, 3, (0, 0, 0), [195])),
  (1404, [(.lconst 0, 1, 0, 0)], (.nop, 0, (0, 0, 0), [195])),
  (1405, [(.lcmp, 1, 0, 0)], (.ifCond .eq 5, 3, (0, 0, 0), [197, 196])),
  (1409, [(.iconst 0, 1, 0, 0)], (.ireturn, 1, (1, 0, 0), [])),
  (1411, [], (.goto 852, 3, (0, 0, 0), [339])),
  (1414, [(.aload_n 1, 1, 0, 0), (.aload_n 0, 1, 0, 0), (.iload 5, 2, 0, 0), (.iconst 1, 1, 0, 0), (.iadd, 1, 0, 0), (.iaload, 1, 0, 0), (.aload_n 3, 1, 0, 0)], (.invokestatic 207, 3, (298, 3, 201), [199]))]
def aLb_46 : List (Nat × List ab_I × ab_T) := [(1425, [(.istore 6, 2, 0, 0), (.aload_n 2, 1, 0, 0), (.aload_n 0, 1, 0, 0), (.iload 5, 2, 0, 0), (.iconst 1, 1, 0, 0), (.iadd, 1, 0, 0), (.iaload, 1, 0, 0)], (.invokevirtual 209, 3, (253, 2, 13), [200])),
  (1437, [(.istore 7, 2, 0, 0), (.aload_n 2, 1, 0, 0)], (.invokevirtual 131, 3, (186, 1, 13), [201])),
  (1443, [(.iload 6, 2, 0, 0)], (.if_icmp .eq 5, 3, (0, 0, 0), [203, 202])),
  (1448, [(.iconst 0, 1, 0, 0)], (.ireturn, 1, (1, 0, 0), []))]
def aLb_47 : List (Nat × List ab_I × ab_T) := [(1450, [(.iload 6, 2, 0, 0)], (.ifCond .ne 15, 3, (0, 0, 0), [206, 204])),
  (1455, [(.aload_n 3, 1, 0, 0), (.iconst 0, 1, 0, 0), (.laload, 1, 0, 0), (.iload 7, 2, 0, 0), (.i2l, 1, 0, 0), (.lcmp, 1, 0, 0)], (.ifCond .eq 5, 3, (0, 0, 0), [206, 205])),
  (1465, [(.iconst 0, 1, 0, 0)], (.ireturn, 1, (1, 0, 0), [])),
  (1467, [], (.goto 796, 3, (0, 0, 0), [339])),
  (1470, [(.aload_n 1, 1, 0, 0), (.aload_n 0, 1, 0, 0), (.iload 5, 2, 0, 0), (.iconst 1, 1, 0, 0), (.iadd, 1, 0, 0), (.iaload, 1, 0, 0), (.aload_n 3, 1, 0, 0)], (.invokestatic 210, 3, (299, 3, 201), [208]))]
def aLb_48 : List (Nat × List ab_I × ab_T) := [(1481, [(.istore 6, 2, 0, 0), (.aload_n 2, 1, 0, 0), (.aload_n 0, 1, 0, 0), (.iload 5, 2, 0, 0), (.iconst 1, 1, 0, 0), (.iadd, 1, 0, 0), (.iaload, 1, 0, 0)], (.invokevirtual 212, 3, (254, 2, 13), [209])),
  (1493, [(.istore 7, 2, 0, 0), (.aload_n 2, 1, 0, 0)], (.invokevirtual 131, 3, (186, 1, 13), [210])),
  (1499, [(.iload 6, 2, 0, 0)], (.if_icmp .eq 5, 3, (0, 0, 0), [212, 211])),
  (1504, [(.iconst 0, 1, 0, 0)], (.ireturn, 1, (1, 0, 0), []))]
def aLb_49 : List (Nat × List ab_I × ab_T) := [(1506, [(.iload 6, 2, 0, 0)], (.ifCond .ne 15, 3, (0, 0, 0), [215, 213])),
  (1511, [(.aload_n 3, 1, 0, 0), (.iconst 0, 1, 0, 0), (.laload, 1, 0, 0), (.iload 7, 2, 0, 0), (.i2l, 1, 0, 0), (.lcmp, 1, 0, 0)], (.ifCond .eq 5, 3, (0, 0, 0), [215, 214])),
  (1521, [(.iconst 0, 1, 0, 0)], (.ireturn, 1, (1, 0, 0), [])),
  (1523, [], (.goto 740, 3, (0, 0, 0), [339])),
  (1526, [(.aload_n 1, 1, 0, 0), (.aload_n 0, 1, 0, 0), (.iload 5, 2, 0, 0), (.iconst 1, 1, 0, 0), (.iadd, 1, 0, 0), (.iaload, 1, 0, 0), (.aload_n 0, 1, 0, 0), (.iload 5, 2, 0, 0), (.iconst 2, 1, 0, 0), (.iadd, 1, 0, 0), (.iaload, 1, 0, 0), (.aload_n 0, 1, 0, 0), (.iload 5, 2, 0, 0), (.iconst 3, 1, 0, 0), (.iadd, 1, 0, 0), (.iaload, 1, 0, 0), (.aload_n 3, 1, 0, 0)], (.invokestatic 213, 3, (300, 5, 201), [217]))]
def aLb_50 : List (Nat × List ab_I × ab_T) := [(1549, [(.istore 6, 2, 0, 0), (.aload_n 2, 1, 0, 0), (.aload_n 0, 1, 0, 0), (.iload 5, 2, 0, 0), (.iconst 1, 1, 0, 0), (.iadd, 1, 0, 0), (.iaload, 1, 0, 0), (.aload_n 0, 1, 0, 0), (.iload 5, 2, 0, 0), (.iconst 2, 1, 0, 0), (.iadd, 1, 0, 0), (.iaload, 1, 0, 0), (.aload_n 0, 1, 0, 0), (.iload 5, 2, 0, 0), (.iconst 3, 1, 0, 0), (.iadd, 1, 0, 0), (.iaload, 1, 0, 0)], (.invokevirtual 215, 3, (255, 4, 13), [218]))]
def aLb_51 : List (Nat × List ab_I × ab_T) := [(1573, [(.istore 7, 2, 0, 0), (.aload_n 2, 1, 0, 0)], (.invokevirtual 131, 3, (186, 1, 13), [219])),
  (1579, [(.iload 6, 2, 0, 0)], (.if_icmp .eq 5, 3, (0, 0, 0), [221, 220])),
  (1584, [(.iconst 0, 1, 0, 0)], (.ireturn, 1, (1, 0, 0), [])),
  (1586, [(.iload 6, 2, 0, 0)], (.ifCond .ne 15, 3, (0, 0, 0), [224, 222])),
  (1591, [(.aload_n 3, 1, 0, 0), (.iconst 0, 1, 0, 0), (.laload, 1, 0, 0), (.iload 7, 2, 0, 0), (.i2l, 1, 0, 0), (.lcmp, 1, 0, 0)], (.ifCond .eq 5, 3, (0, 0, 0), [224, 223]))]
def aLb_52 : List (Nat × List ab_I × ab_T) := [(1601, [(.iconst 0, 1, 0, 0)], (.ireturn, 1, (1, 0, 0), [])),
  (1603, [], (.goto 660, 3, (0, 0, 0), [339])),
  (1606, [(.aload_n 1, 1, 0, 0), (.aload_n 3, 1, 0, 0)], (.invokestatic 216, 3, (301, 2, 201), [226])),
  (1611, [(.istore 6, 2, 0, 0), (.aload_n 2, 1, 0, 0)], (.invokevirtual 218, 3, (256, 1, 13), [227])),
  (1617, [(.istore 7, 2, 0, 0), (.aload_n 2, 1, 0, 0)], (.invokevirtual 131, 3, (186, 1, 13), [228])),
  (1623, [(.iload 6, 2, 0, 0)], (.if_icmp .eq 5, 3, (0, 0, 0), [230, 229]))]
def aLb_53 : List (Nat × List ab_I × ab_T) := [(1628, [(.iconst 0, 1, 0, 0)], (.ireturn, 1, (1, 0, 0), [])),
  (1630, [(.iload 6, 2, 0, 0)], (.ifCond .ne 15, 3, (0, 0, 0), [233, 231])),
  (1635, [(.aload_n 3, 1, 0, 0), (.iconst 0, 1, 0, 0), (.laload, 1, 0, 0), (.iload 7, 2, 0, 0), (.i2l, 1, 0, 0), (.lcmp, 1, 0, 0)], (.ifCond .eq 5, 3, (0, 0, 0), [233, 232])),
  (1645, [(.iconst 0, 1, 0, 0)], (.ireturn, 1, (1, 0, 0), [])),
  (1647, [], (.goto 616, 3, (0, 0, 0), [339]))]
def aLb_54 : List (Nat × List ab_I × ab_T) := [(1650, [(.aload_n 1, 1, 0, 0)], (.invokevirtual 219, 3, (149, 1, 11), [235])),
  (1654, [(.aload_n 2, 1, 0, 0)], (.invokevirtual 222, 3, (257, 1, 13), [236])),
  (1658, [], (.if_icmp .eq 605, 3, (0, 0, 0), [339, 237])),
  (1661, [(.iconst 0, 1, 0, 0)], (.ireturn, 1, (1, 0, 0), [])),
  (1663, [(.aload_n 1, 1, 0, 0)], (.invokevirtual 223, 3, (150, 1, 11), [239])),
  (1667, [(.aload_n 2, 1, 0, 0)], (.invokevirtual 226, 3, (258, 1, 13), [240])),
  (1671, [], (.if_icmp .eq 592, 3, (0, 0, 0), [339, 241])),
  (1674, [(.iconst 0, 1, 0, 0)], (.ireturn, 1, (1, 0, 0), []))]
def aLb_55 : List (Nat × List ab_I × ab_T) := [(1676, [(.aload_n 1, 1, 0, 0), (.aload_n 3, 1, 0, 0)], (.invokestatic 227, 3, (302, 2, 201), [243])),
  (1681, [(.istore 6, 2, 0, 0), (.aload_n 2, 1, 0, 0)], (.invokevirtual 229, 3, (260, 1, 13), [244])),
  (1687, [(.istore 7, 2, 0, 0), (.aload_n 2, 1, 0, 0)], (.invokevirtual 131, 3, (186, 1, 13), [245])),
  (1693, [(.iload 6, 2, 0, 0)], (.if_icmp .eq 5, 3, (0, 0, 0), [247, 246])),
  (1698, [(.iconst 0, 1, 0, 0)], (.ireturn, 1, (1, 0, 0), [])),
  (1700, [(.iload 6, 2, 0, 0)], (.ifCond .ne 15, 3, (0, 0, 0), [250, 248]))]
def aLb_56 : List (Nat × List ab_I × ab_T) := [(1705, [(.aload_n 3, 1, 0, 0), (.iconst 0, 1, 0, 0), (.laload, 1, 0, 0), (.iload 7, 2, 0, 0), (.i2l, 1, 0, 0), (.lcmp, 1, 0, 0)], (.ifCond .eq 5, 3, (0, 0, 0), [250, 249])),
  (1715, [(.iconst 0, 1, 0, 0)], (.ireturn, 1, (1, 0, 0), [])),
  (1717, [], (.goto 546, 3, (0, 0, 0), [339])),
  (1720, [(.aload_n 1, 1, 0, 0), (.aload_n 0, 1, 0, 0), (.iload 5, 2, 0, 0), (.iconst 1, 1, 0, 0), (.iadd, 1, 0, 0), (.iaload, 1, 0, 0), (.aload_n 0, 1, 0, 0), (.iload 5, 2, 0, 0), (.iconst 2, 1, 0, 0), (.iadd, 1, 0, 0), (.iaload, 1, 0, 0), (.aload_n 3, 1, 0, 0)], (.invokestatic 230, 3, (303, 4, 201), [252]))]
def aLb_57 : List (Nat × List ab_I × ab_T) := [(1737, [(.istore 6, 2, 0, 0), (.aload_n 2, 1, 0, 0), (.aload_n 0, 1, 0, 0), (.iload 5, 2, 0, 0), (.iconst 1, 1, 0, 0), (.iadd, 1, 0, 0), (.iaload, 1, 0, 0), (.aload_n 0, 1, 0, 0), (.iload 5, 2, 0, 0), (.iconst 2, 1, 0, 0), (.iadd, 1, 0, 0), (.iaload, 1, 0, 0)], (.invokevirtual 232, 3, (262, 3, 13), [253])),
  (1755, [(.istore 7, 2, 0, 0), (.aload_n 2, 1, 0, 0)], (.invokevirtual 131, 3, (186, 1, 13), [254]))]
def aLb_58 : List (Nat × List ab_I × ab_T) := [(1761, [(.iload 6, 2, 0, 0)], (.if_icmp .eq 5, 3, (0, 0, 0), [256, 255])),
  (1766, [(.iconst 0, 1, 0, 0)], (.ireturn, 1, (1, 0, 0), [])),
  (1768, [(.iload 6, 2, 0, 0)], (.ifCond .ne 15, 3, (0, 0, 0), [259, 257])),
  (1773, [(.aload_n 3, 1, 0, 0), (.iconst 0, 1, 0, 0), (.laload, 1, 0, 0), (.iload 7, 2, 0, 0), (.i2l, 1, 0, 0), (.lcmp, 1, 0, 0)], (.ifCond .eq 5, 3, (0, 0, 0), [259, 258])),
  (1783, [(.iconst 0, 1, 0, 0)], (.ireturn, 1, (1, 0, 0), []))]
def aLb_59 : List (Nat × List ab_I × ab_T) := [(1785, [], (.goto 478, 3, (0, 0, 0), [339])),
  (1788, [(.aload_n 1, 1, 0, 0), (.aload_n 0, 1, 0, 0), (.iload 5, 2, 0, 0), (.iconst 1, 1, 0, 0), (.iadd, 1, 0, 0), (.iaload, 1, 0, 0), (.aload_n 0, 1, 0, 0), (.iload 5, 2, 0, 0), (.iconst 2, 1, 0, 0), (.iadd, 1, 0, 0), (.iaload, 1, 0, 0), (.aload_n 3, 1, 0, 0)], (.invokestatic 233, 3, (304, 4, 201), [261]))]
def aLb_60 : List (Nat × List ab_I × ab_T) := [(1805, [(.istore 6, 2, 0, 0), (.aload_n 2, 1, 0, 0), (.aload_n 0, 1, 0, 0), (.iload 5, 2, 0, 0), (.iconst 1, 1, 0, 0), (.iadd, 1, 0, 0), (.iaload, 1, 0, 0), (.aload_n 0, 1, 0, 0), (.iload 5, 2, 0, 0), (.iconst 2, 1, 0, 0), (.iadd, 1, 0, 0), (.iaload, 1, 0, 0)], (.invokevirtual 235, 3, (263, 3, 13), [262])),
  (1823, [(.istore 7, 2, 0, 0), (.aload_n 2, 1, 0, 0)], (.invokevirtual 131, 3, (186, 1, 13), [263]))]
def aLb_61 : List (Nat × List ab_I × ab_T) := [(1829, [(.iload 6, 2, 0, 0)], (.if_icmp .eq 5, 3, (0, 0, 0), [265, 264])),
  (1834, [(.iconst 0, 1, 0, 0)], (.ireturn, 1, (1, 0, 0), [])),
  (1836, [(.iload 6, 2, 0, 0)], (.ifCond .ne 15, 3, (0, 0, 0), [268, 266])),
  (1841, [(.aload_n 3, 1, 0, 0), (.iconst 0, 1, 0, 0), (.laload, 1, 0, 0), (.iload 7, 2, 0, 0), (.i2l, 1, 0, 0), (.lcmp, 1, 0, 0)], (.ifCond .eq 5, 3, (0, 0, 0), [268, 267])),
  (1851, [(.iconst 0, 1, 0, 0)], (.ireturn, 1, (1, 0, 0), []))]
def aLb_62 : List (Nat × List ab_I × ab_T) := [(1853, [], (.goto 410, 3, (0, 0, 0), [339])),
  (1856, [(.aload_n 1, 1, 0, 0)], (.invokevirtual 236, 3, (154, 1, 11), [270])),
  (1860, [(.aload_n 2, 1, 0, 0)], (.invokevirtual 239, 3, (264, 1, 13), [271])),
  (1864, [], (.if_icmp .eq 399, 3, (0, 0, 0), [339, 272])),
  (1867, [(.iconst 0, 1, 0, 0)], (.ireturn, 1, (1, 0, 0), [])),
  (1869, [(.aload_n 1, 1, 0, 0), (.aload_n 0, 1, 0, 0), (.iload 5, 2, 0, 0), (.iconst 1, 1, 0, 0), (.iadd, 1, 0, 0), (.iaload, 1, 0, 0), (.aload_n 3, 1, 0, 0)], (.invokestatic 240, 3, (305, 3, 201), [274]))]
def aLb_63 : List (Nat × List ab_I × ab_T) := [(1880, [(.istore 6, 2, 0, 0), (.aload_n 2, 1, 0, 0), (.aload_n 0, 1, 0, 0), (.iload 5, 2, 0, 0), (.iconst 1, 1, 0, 0), (.iadd, 1, 0, 0), (.iaload, 1, 0, 0)], (.invokevirtual 242, 3, (265, 2, 13), [275])),
  (1892, [(.istore 7, 2, 0, 0), (.aload_n 2, 1, 0, 0)], (.invokevirtual 131, 3, (186, 1, 13), [276])),
  (1898, [(.iload 6, 2, 0, 0)], (.if_icmp .eq 5, 3, (0, 0, 0), [278, 277])),
  (1903, [(.iconst 0, 1, 0, 0)], (.ireturn, 1, (1, 0, 0), []))]
def aLb_64 : List (Nat × List ab_I × ab_T) := [(1905, [(.iload 6, 2, 0, 0)], (.ifCond .ne 15, 3, (0, 0, 0), [281, 279])),
  (1910, [(.aload_n 3, 1, 0, 0), (.iconst 0, 1, 0, 0), (.laload, 1, 0, 0), (.iload 7, 2, 0, 0), (.i2l, 1, 0, 0), (.lcmp, 1, 0, 0)], (.ifCond .eq 5, 3, (0, 0, 0), [281, 280])),
  (1920, [(.iconst 0, 1, 0, 0)], (.ireturn, 1, (1, 0, 0), [])),
  (1922, [], (.goto 341, 3, (0, 0, 0), [339])),
  (1925, [(.aload_n 1, 1, 0, 0), (.aload_n 0, 1, 0, 0), (.iload 5, 2, 0, 0), (.iconst 1, 1, 0, 0), (.iadd, 1, 0, 0), (.iaload, 1, 0, 0), (.aload_n 3, 1, 0, 0)], (.invokestatic 243, 3, (306, 3, 201), [283]))]
def aLb_65 : List (Nat × List ab_I × ab_T) := [(1936, [(.istore 6, 2, 0, 0), (.aload_n 2, 1, 0, 0), (.aload_n 0, 1, 0, 0), (.iload 5, 2, 0, 0), (.iconst 1, 1, 0, 0), (.iadd, 1, 0, 0), (.iaload, 1, 0, 0)], (.invokevirtual 245, 3, (269, 2, 13), [284])),
  (1948, [(.istore 7, 2, 0, 0), (.aload_n 2, 1, 0, 0)], (.invokevirtual 131, 3, (186, 1, 13), [285])),
  (1954, [(.iload 6, 2, 0, 0)], (.if_icmp .eq 5, 3, (0, 0, 0), [287, 286])),
  (1959, [(.iconst 0, 1, 0, 0)], (.ireturn, 1, (1, 0, 0), []))]
def aLb_66 : List (Nat × List ab_I × ab_T) := [(1961, [(.iload 6, 2, 0, 0)], (.ifCond .ne 15, 3, (0, 0, 0), [290, 288])),
  (1966, [(.aload_n 3, 1, 0, 0), (.iconst 0, 1, 0, 0), (.laload, 1, 0, 0), (.iload 7, 2, 0, 0), (.i2l, 1, 0, 0), (.lcmp, 1, 0, 0)], (.ifCond .eq 5, 3, (0, 0, 0), [290, 289])),
  (1976, [(.iconst 0, 1, 0, 0)], (.ireturn, 1, (1, 0, 0), [])),
  (1978, [], (.goto 285, 3, (0, 0, 0), [339])),
  (1981, [(.aload_n 1, 1, 0, 0), (.aload_n 0, 1, 0, 0), (.iload 5, 2, 0, 0), (.iconst 1, 1, 0, 0), (.iadd, 1, 0, 0), (.iaload, 1, 0, 0), (.aload_n 0, 1, 0, 0), (.iload 5, 2, 0, 0), (.iconst 2, 1, 0, 0), (.iadd, 1, 0, 0), (.iaload, 1, 0, 0), (.aload_n 3, 1, 0, 0)], (.invokestatic 246, 3, (307, 4, 201), [292]))]
def aLb_67 : List (Nat × List ab_I × ab_T) := [(1998, [(.istore 6, 2, 0, 0), (.aload_n 2, 1, 0, 0), (.aload_n 0, 1, 0, 0), (.iload 5, 2, 0, 0), (.iconst 1, 1, 0, 0), (.iadd, 1, 0, 0), (.iaload, 1, 0, 0), (.aload_n 0, 1, 0, 0), (.iload 5, 2, 0, 0), (.iconst 2, 1, 0, 0), (.iadd, 1, 0, 0), (.iaload, 1, 0, 0)], (.invokevirtual 248, 3, (270, 3, 13), [293])),
  (2016, [(.istore 7, 2, 0, 0), (.aload_n 2, 1, 0, 0)], (.invokevirtual 131, 3, (186, 1, 13), [294]))]
def aLb_68 : List (Nat × List ab_I × ab_T) := [(2022, [(.iload 6, 2, 0, 0)], (.if_icmp .eq 5, 3, (0, 0, 0), [296, 295])),
  (2027, [(.iconst 0, 1, 0, 0)], (.ireturn, 1, (1, 0, 0), [])),
  (2029, [(.iload 6, 2, 0, 0)], (.ifCond .ne 15, 3, (0, 0, 0), [299, 297])),
  (2034, [(.aload_n 3, 1, 0, 0), (.iconst 0, 1, 0, 0), (.laload, 1, 0, 0), (.iload 7, 2, 0, 0), (.i2l, 1, 0, 0), (.lcmp, 1, 0, 0)], (.ifCond .eq 5, 3, (0, 0, 0), [299, 298])),
  (2044, [(.iconst 0, 1, 0, 0)], (.ireturn, 1, (1, 0, 0), []))]
def aLb_69 : List (Nat × List ab_I × ab_T) := [(2046, [], (.goto 217, 3, (0, 0, 0), [339])),
  (2049, [(.aload_n 1, 1, 0, 0), (.aload_n 0, 1, 0, 0), (.iload 5, 2, 0, 0), (.iconst 1, 1, 0, 0), (.iadd, 1, 0, 0), (.iaload, 1, 0, 0), (.aload_n 3, 1, 0, 0)], (.invokestatic 249, 3, (308, 3, 201), [301])),
  (2060, [(.istore 6, 2, 0, 0), (.aload_n 2, 1, 0, 0), (.aload_n 0, 1, 0, 0), (.iload 5, 2, 0, 0), (.iconst 1, 1, 0, 0), (.iadd, 1, 0, 0), (.iaload, 1, 0, 0)], (.invokevirtual 251, 3, (271, 2, 13), [302]))]
def aLb_70 : List (Nat × List ab_I × ab_T) := [(2072, [(.istore 7, 2, 0, 0), (.aload_n 2, 1, 0, 0)], (.invokevirtual 131, 3, (186, 1, 13), [303])),
  (2078, [(.iload 6, 2, 0, 0)], (.if_icmp .eq 5, 3, (0, 0, 0), [305, 304])),
  (2083, [(.iconst 0, 1, 0, 0)], (.ireturn, 1, (1, 0, 0), [])),
  (2085, [(.iload 6, 2, 0, 0)], (.ifCond .ne 15, 3, (0, 0, 0), [308, 306])),
  (2090, [(.aload_n 3, 1, 0, 0), (.iconst 0, 1, 0, 0), (.laload, 1, 0, 0), (.iload 7, 2, 0, 0), (.i2l, 1, 0, 0), (.lcmp, 1, 0, 0)], (.ifCond .eq 5, 3, (0, 0, 0), [308, 307]))]
def aLb_71 : List (Nat × List ab_I × ab_T) := [(2100, [(.iconst 0, 1, 0, 0)], (.ireturn, 1, (1, 0, 0), [])),
  (2102, [], (.goto 161, 3, (0, 0, 0), [339])),
  (2105, [(.aload_n 1, 1, 0, 0)], (.invokevirtual 252, 3, (159, 1, 11), [310])),
  (2109, [(.aload_n 2, 1, 0, 0)], (.invokevirtual 256, 3, (272, 1, 13), [311])),
  (2113, [(.lcmp, 1, 0, 0)], (.ifCond .eq 149, 3, (0, 0, 0), [339, 312])),
  (2117, [(.iconst 0, 1, 0, 0)], (.ireturn, 1, (1, 0, 0), [])),
  (2119, [(.aload_n 1, 1, 0, 0), (.aload 4, 2, 0, 0)], (.invokestatic 257, 3, (309, 2, 201), [314]))]
def aLb_72 : List (Nat × List ab_I × ab_T) := [(2125, [(.istore 6, 2, 0, 0), (.aload_n 2, 1, 0, 0)], (.invokevirtual 260, 3, (273, 1, 13), [315])),
  (2131, [(.dstore 7, 2, 0, 0), (.aload_n 2, 1, 0, 0)], (.invokevirtual 131, 3, (186, 1, 13), [316])),
  (2137, [(.iload 6, 2, 0, 0)], (.if_icmp .eq 5, 3, (0, 0, 0), [318, 317])),
  (2142, [(.iconst 0, 1, 0, 0)], (.ireturn, 1, (1, 0, 0), [])),
  (2144, [(.iload 6, 2, 0, 0)], (.ifCond .ne 35, 3, (0, 0, 0), [323, 319])),
  (2149, [(.aload 4, 2, 0, 0), (.iconst 0, 1, 0, 0), (.daload, 1, 0, 0), (.dload 7, 2, 0, 0), (.dcmp .l, 1, 0, 0)], (.ifCond .eq 25, 3, (0, 0, 0), [323, 320]))]
def aLb_73 : List (Nat × List ab_I × ab_T) := [(2159, [(.aload 4, 2, 0, 0), (.iconst 0, 1, 0, 0), (.daload, 1, 0, 0), (.aload 4, 2, 0, 0), (.iconst 0, 1, 0, 0), (.daload, 1, 0, 0), (.dcmp .l, 1, 0, 0)], (.ifCond .eq 11, 3, (0, 0, 0), [322, 321])),
  (2171, [(.dload 7, 2, 0, 0), (.dload 7, 2, 0, 0), (.dcmp .l, 1, 0, 0)], (.ifCond .ne 5, 3, (0, 0, 0), [323, 322])),
  (2179, [(.iconst 0, 1, 0, 0)], (.ireturn, 1, (1, 0, 0), []))]
def aLb_74 : List (Nat × List ab_I × ab_T) := [(2181, [], (.goto 82, 3, (0, 0, 0), [339])),
  (2184, [(.aload_n 1, 1, 0, 0), (.aload 4, 2, 0, 0)], (.invokestatic 261, 3, (310, 2, 201), [325])),
  (2190, [(.istore 6, 2, 0, 0), (.aload_n 2, 1, 0, 0)], (.invokevirtual 263, 3, (274, 1, 13), [326])),
  (2196, [(.fstore 7, 2, 0, 0), (.aload_n 2, 1, 0, 0)], (.invokevirtual 131, 3, (186, 1, 13), [327])),
  (2202, [(.iload 6, 2, 0, 0)], (.if_icmp .eq 5, 3, (0, 0, 0), [329, 328])),
  (2207, [(.iconst 0, 1, 0, 0)], (.ireturn, 1, (1, 0, 0), []))]
def aLb_75 : List (Nat × List ab_I × ab_T) := [(2209, [(.iload 6, 2, 0, 0)], (.ifCond .ne 36, 3, (0, 0, 0), [334, 330])),
  (2214, [(.aload 4, 2, 0, 0), (.iconst 0, 1, 0, 0), (.daload, 1, 0, 0), (.fload 7, 2, 0, 0), (.f2d, 1, 0, 0), (.dcmp .l, 1, 0, 0)], (.ifCond .eq 25, 3, (0, 0, 0), [334, 331])),
  (2225, [(.aload 4, 2, 0, 0), (.iconst 0, 1, 0, 0), (.daload, 1, 0, 0), (.aload 4, 2, 0, 0), (.iconst 0, 1, 0, 0), (.daload, 1, 0, 0), (.dcmp .l, 1, 0, 0)], (.ifCond .eq 11, 3, (0, 0, 0), [333, 332]))]
def aLb_76 : List (Nat × List ab_I × ab_T) := [(2237, [(.fload 7, 2, 0, 0), (.fload 7, 2, 0, 0), (.fcmp .l, 1, 0, 0)], (.ifCond .ne 5, 3, (0, 0, 0), [334, 333])),
  (2245, [(.iconst 0, 1, 0, 0)], (.ireturn, 1, (1, 0, 0), [])),
  (2247, [], (.goto 16, 3, (0, 0, 0), [339])),
  (2250, [(.aload_n 1, 1, 0, 0)], (.invokevirtual 264, 3, (162, 1, 11), [336])),
  (2254, [(.aload_n 2, 1, 0, 0)], (.invokevirtual 267, 3, (275, 1, 13), [337])),
  (2258, [], (.if_icmp .eq 5, 3, (0, 0, 0), [339, 338])),
  (2261, [(.iconst 0, 1, 0, 0)], (.ireturn, 1, (1, 0, 0), []))]
def aLb_77 : List (Nat × List ab_I × ab_T) := [(2263, [(.iinc 5 4, 3, 0, 0)], (.goto (-2238), 3, (0, 0, 0), [3])),
  (2269, [(.iconst 1, 1, 0, 0)], (.ireturn, 1, (1, 0, 0), []))]
def am_L_law : ab_M := (9, [], aLb_0 ++ (aLb_1 ++ (aLb_2 ++ (aLb_3 ++ (aLb_4 ++ (aLb_5 ++ (aLb_6 ++ (aLb_7 ++ (aLb_8 ++ (aLb_9 ++ (aLb_10 ++ (aLb_11 ++ (aLb_12 ++ (aLb_13 ++ (aLb_14 ++ (aLb_15 ++ (aLb_16 ++ (aLb_17 ++ (aLb_18 ++ (aLb_19 ++ (aLb_20 ++ (aLb_21 ++ (aLb_22 ++ (aLb_23 ++ (aLb_24 ++ (aLb_25 ++ (aLb_26 ++ (aLb_27 ++ (aLb_28 ++ (aLb_29 ++ (aLb_30 ++ (aLb_31 ++ (aLb_32 ++ (aLb_33 ++ (aLb_34 ++ (aLb_35 ++ (aLb_36 ++ (aLb_37 ++ (aLb_38 ++ (aLb_39 ++ (aLb_40 ++ (aLb_41 ++ (aLb_42 ++ (aLb_43 ++ (aLb_44 ++ (aLb_45 ++ (aLb_46 ++ (aLb_47 ++ (aLb_48 ++ (aLb_49 ++ (aLb_50 ++ (aLb_51 ++ (aLb_52 ++ (aLb_53 ++ (aLb_54 ++ (aLb_55 ++ (aLb_56 ++ (aLb_57 ++ (aLb_58 ++ (aLb_59 ++ (aLb_60 ++ (aLb_61 ++ (aLb_62 ++ (aLb_63 ++ (aLb_64 ++ (aLb_65 ++ (aLb_66 ++ (aLb_67 ++ (aLb_68 ++ (aLb_69 ++ (aLb_70 ++ (aLb_71 ++ (aLb_72 ++ (aLb_73 ++ (aLb_74 ++ (aLb_75 ++ (aLb_76 ++ (aLb_77))))))))))))))))))))))))))))))))))))))))))))))))))))))))))))))))))))))))))))))
def am_X0_init : ab_M := (4, [], [
  (0, [(.aload_n 0, 1, 0, 0), (.invokespecial 1, 3, 0, 0), (.aload_n 0, 1, 0, 0), (.new 7, 3, 9, 0), (.dup, 1, 0, 0)], (.invokespecial 9, 3, (97, 1, 101), [1])),
  (12, [(.putfield 10, 3, 0, 3), (.aload_n 0, 1, 0, 0), (.new 7, 3, 9, 0), (.dup, 1, 0, 0)], (.invokespecial 9, 3, (97, 1, 101), [2])),
  (23, [(.putfield 16, 3, 0, 4), (.aload_n 0, 1, 0, 0), (.iconst 0, 1, 0, 0), (.putfield 19, 3, 0, 5), (.aload_n 0, 1, 0, 0), (.iconst 0, 1, 0, 0), (.putfield 23, 3, 0, 6), (.aload_n 0, 1, 0, 0), (.iconst 0, 1, 0, 0), (.putfield 26, 3, 0, 7), (.aload_n 0, 1, 0, 0), (.iconst 0, 1, 0, 0), (.putfield 30, 3, 0, 8), (.aload_n 0, 1, 0, 0), (.iconst 0, 1, 0, 0), (.putfield 33, 3, 0, 9), (.aload_n 0, 1, 0, 0), (.iconst 0, 1, 0, 0), (.putfield 36, 3, 0, 10), (.aload_n 0, 1, 0, 0), (.aload_n 1, 1, 0, 0), (.putfield 39, 3, 0, 0), (.aload_n 0, 1, 0, 0), (.aload_n 2, 1, 0, 0), (.putfield 43, 3, 0, 1), (.aload_n 0, 1, 0, 0), (.aload_n 3, 1, 0, 0), (.putfield 47, 3, 0, 2)], (.return_, 1, (0, 0, 0), []))])
def am_X0_enumerate : ab_M := (1, [], [
  (0, [(.aload_n 0, 1, 0, 0), (.aload_n 0, 1, 0, 0)], (.invokevirtual 51, 3, (3, 1, 0), [1])),
  (5, [(.putfield 30, 3, 0, 8), (.aload_n 0, 1, 0, 0), (.getfield 30, 3, 0, 8), (.sipush 3000, 3, 0, 0)], (.if_icmp .le 5, 3, (0, 0, 0), [3, 2])),
  (18, [(.iconst 0, 1, 0, 0)], (.ireturn, 1, (1, 0, 0), [])),
  (20, [(.aload_n 0, 1, 0, 0), (.iconst 0, 1, 0, 0), (.putfield 19, 3, 0, 5), (.aload_n 0, 1, 0, 0), (.iconst 0, 1, 0, 0), (.putfield 23, 3, 0, 6), (.aload_n 0, 1, 0, 0), (.iconst 0, 1, 0, 0), (.putfield 26, 3, 0, 7), (.aload_n 0, 1, 0, 0), (.getfield 47, 3, 0, 2)], (.invokevirtual 55, 3, (104, 1, 10), [4])),
  (42, [(.aload_n 0, 1, 0, 0), (.getfield 10, 3, 0, 3), (.aload_n 0, 1, 0, 0), (.getfield 39, 3, 0, 0), (.getfield 60, 3, 6, 6)], (.invokevirtual 65, 3, (98, 2, 9), [5])),
  (56, [(.aload_n 0, 1, 0, 0), (.iconst 0, 1, 0, 0)], (.invokevirtual 69, 3, (5, 2, 0), [6])),
  (61, [(.iconst 1, 1, 0, 0)], (.ireturn, 1, (1, 0, 0), []))])
def am_X0_someKeeps : ab_M := (2, [], [
  (0, [(.aload_n 0, 1, 0, 0), (.iload_n 1, 1, 0, 0), (.putfield 33, 3, 0, 9), (.aload_n 0, 1, 0, 0), (.iconst 0, 1, 0, 0), (.putfield 36, 3, 0, 10), (.aload_n 0, 1, 0, 0), (.getfield 10, 3, 0, 3), (.aload_n 0, 1, 0, 0), (.getfield 39, 3, 0, 0), (.getfield 60, 3, 6, 6)], (.invokevirtual 65, 3, (98, 2, 9), [1])),
  (24, [(.aload_n 0, 1, 0, 0), (.iconst 0, 1, 0, 0)], (.invokevirtual 69, 3, (5, 2, 0), [2])),
  (29, [(.aload_n 0, 1, 0, 0), (.getfield 36, 3, 0, 10)], (.ireturn, 1, (1, 0, 0), []))])
def am_X0_countTimetables : ab_M := (6, [], [
  (0, [(.iconst 1, 1, 0, 0), (.istore_n 1, 1, 0, 0), (.iconst 0, 1, 0, 0), (.istore_n 2, 1, 0, 0)], (.nop, 0, (0, 0, 0), [1])),
  (4, [(.iload_n 2, 1, 0, 0), (.aload_n 0, 1, 0, 0), (.getfield 39, 3, 0, 0), (.getfield 60, 3, 6, 6)], (.if_icmp .ge 77, 3, (0, 0, 0), [13, 2])),
  (15, [(.iconst 0, 1, 0, 0), (.istore_n 3, 1, 0, 0), (.iconst 0, 1, 0, 0), (.istore 4, 2, 0, 0)], (.nop, 0, (0, 0, 0), [3])),
  (20, [(.iload 4, 2, 0, 0), (.aload_n 0, 1, 0, 0), (.getfield 39, 3, 0, 0), (.getfield 72, 3, 6, 2)], (.if_icmp .ge 50, 3, (0, 0, 0), [12, 4])),
  (32, [(.iconst 0, 1, 0, 0), (.istore 5, 2, 0, 0)], (.nop, 0, (0, 0, 0), [5])),
  (35, [(.iload 5, 2, 0, 0), (.aload_n 0, 1, 0, 0), (.getfield 39, 3, 0, 0), (.getfield 75, 3, 6, 5)], (.if_icmp .ge 29, 3, (0, 0, 0), [11, 6])),
  (47, [(.iload_n 3, 1, 0, 0), (.aload_n 0, 1, 0, 0), (.iload_n 2, 1, 0, 0), (.iload 4, 2, 0, 0), (.iload 5, 2, 0, 0)], (.invokevirtual 78, 3, (4, 4, 0), [7])),
  (57, [], (.ifCond .eq 7, 3, (0, 0, 0), [9, 8])),
  (60, [(.iconst 1, 1, 0, 0)], (.goto 4, 3, (0, 0, 0), [10])),
  (64, [(.iconst 0, 1, 0, 0)], (.nop, 0, (0, 0, 0), [10])),
  (65, [(.iadd, 1, 0, 0), (.istore_n 3, 1, 0, 0), (.iinc 5 1, 3, 0, 0)], (.goto (-35), 3, (0, 0, 0), [5])),
  (73, [(.iinc 4 1, 3, 0, 0)], (.goto (-56), 3, (0, 0, 0), [3])),
  (79, [(.iload_n 1, 1, 0, 0), (.iload_n 3, 1, 0, 0), (.imul, 1, 0, 0), (.istore_n 1, 1, 0, 0), (.iinc 2 1, 3, 0, 0)], (.goto (-82), 3, (0, 0, 0), [1])),
  (89, [(.iload_n 1, 1, 0, 0)], (.ireturn, 1, (0, 0, 0), []))])
def am_X0_stands : ab_M := (4, [], [
  (0, [(.aload_n 0, 1, 0, 0), (.getfield 39, 3, 0, 0), (.iload_n 1, 1, 0, 0), (.iload_n 2, 1, 0, 0)], (.invokevirtual 82, 3, (64, 3, 6), [1])),
  (9, [], (.ifCond .eq 19, 3, (0, 0, 0), [5, 2])),
  (12, [(.aload_n 0, 1, 0, 0), (.getfield 39, 3, 0, 0), (.iload_n 1, 1, 0, 0), (.iload_n 3, 1, 0, 0)], (.invokevirtual 86, 3, (65, 3, 6), [3])),
  (21, [], (.ifCond .eq 7, 3, (0, 0, 0), [5, 4])),
  (24, [(.iconst 1, 1, 0, 0)], (.goto 4, 3, (0, 0, 0), [6])),
  (28, [(.iconst 0, 1, 0, 0)], (.nop, 0, (0, 0, 0), [6])),
  (29, [], (.ireturn, 1, (1, 0, 0), []))])
def am_X0_walk : ab_M := (4, [], [
  (0, [(.aload_n 0, 1, 0, 0), (.getfield 30, 3, 0, 8)], (.ifCond .ne 4, 3, (0, 0, 0), [2, 1])),
  (7, [], (.return_, 1, (0, 0, 0), [])),
  (8, [(.iload_n 1, 1, 0, 0), (.aload_n 0, 1, 0, 0), (.getfield 39, 3, 0, 0), (.getfield 60, 3, 6, 6)], (.if_icmp .lt 8, 3, (0, 0, 0), [5, 3])),
  (19, [(.aload_n 0, 1, 0, 0)], (.invokevirtual 89, 3, (7, 1, 0), [4])),
  (23, [], (.return_, 1, (0, 0, 0), [])),
  (24, [(.iconst 0, 1, 0, 0), (.istore_n 2, 1, 0, 0)], (.nop, 0, (0, 0, 0), [6])),
  (26, [(.iload_n 2, 1, 0, 0), (.aload_n 0, 1, 0, 0), (.getfield 39, 3, 0, 0), (.getfield 72, 3, 6, 2)], (.if_icmp .ge 73, 3, (0, 0, 0), [16, 7])),
  (37, [(.iconst 0, 1, 0, 0), (.istore_n 3, 1, 0, 0)], (.nop, 0, (0, 0, 0), [8])),
  (39, [(.iload_n 3, 1, 0, 0), (.aload_n 0, 1, 0, 0), (.getfield 39, 3, 0, 0), (.getfield 75, 3, 6, 5)], (.if_icmp .ge 54, 3, (0, 0, 0), [15, 9])),
  (50, [(.aload_n 0, 1, 0, 0), (.getfield 10, 3, 0, 3), (.getfield 92, 3, 9, 2), (.iload_n 1, 1, 0, 0), (.iload_n 2, 1, 0, 0), (.iastore, 1, 0, 0), (.aload_n 0, 1, 0, 0), (.getfield 10, 3, 0, 3), (.getfield 96, 3, 9, 3), (.iload_n 1, 1, 0, 0), (.iload_n 3, 1, 0, 0), (.iastore, 1, 0, 0), (.aload_n 0, 1, 0, 0), (.iload_n 1, 1, 0, 0), (.iload_n 2, 1, 0, 0), (.iload_n 3, 1, 0, 0)], (.invokevirtual 78, 3, (4, 4, 0), [10])),
  (77, [], (.ifCond .eq 18, 3, (0, 0, 0), [14, 11])),
  (80, [(.aload_n 0, 1, 0, 0), (.iload_n 1, 1, 0, 0)], (.invokevirtual 99, 3, (6, 2, 0), [12])),
  (85, [], (.ifCond .eq 10, 3, (0, 0, 0), [14, 13])),
  (88, [(.aload_n 0, 1, 0, 0), (.iload_n 1, 1, 0, 0), (.iconst 1, 1, 0, 0), (.iadd, 1, 0, 0)], (.invokevirtual 69, 3, (5, 2, 0), [14])),
  (95, [(.iinc 3 1, 3, 0, 0)], (.goto (-59), 3, (0, 0, 0), [8])),
  (101, [(.iinc 2 1, 3, 0, 0)], (.goto (-78), 3, (0, 0, 0), [6])),
  (107, [], (.return_, 1, (0, 0, 0), []))])
def am_X0_clashesWithNone : ab_M := (3, [], [
  (0, [(.iconst 0, 1, 0, 0), (.istore_n 2, 1, 0, 0)], (.nop, 0, (0, 0, 0), [1])),
  (2, [(.iload_n 2, 1, 0, 0), (.iload_n 1, 1, 0, 0)], (.if_icmp .ge 27, 3, (0, 0, 0), [6, 2])),
  (7, [(.aload_n 0, 1, 0, 0), (.getfield 43, 3, 0, 1), (.aload_n 0, 1, 0, 0), (.getfield 10, 3, 0, 3), (.iload_n 1, 1, 0, 0), (.iload_n 2, 1, 0, 0)], (.invokevirtual 103, 3, (14, 4, 2), [3])),
  (20, [], (.ifCond .le 5, 3, (0, 0, 0), [5, 4])),
  (23, [(.iconst 0, 1, 0, 0)], (.ireturn, 1, (1, 0, 0), [])),
  (25, [(.iinc 2 1, 3, 0, 0)], (.goto (-26), 3, (0, 0, 0), [1])),
  (31, [(.iconst 1, 1, 0, 0)], (.ireturn, 1, (1, 0, 0), []))])
def am_X0_look : ab_M := (4, [], [
  (0, [(.aload_n 0, 1, 0, 0), (.getfield 43, 3, 0, 1), (.aload_n 0, 1, 0, 0), (.getfield 10, 3, 0, 3)], (.invokevirtual 109, 3, (15, 2, 2), [1])),
  (11, [(.istore_n 1, 1, 0, 0), (.aload_n 0, 1, 0, 0), (.aload_n 0, 1, 0, 0), (.getfield 36, 3, 0, 10)], (.ifCond .ne 12, 3, (0, 0, 0), [3, 2])),
  (20, [(.iload_n 1, 1, 0, 0), (.aload_n 0, 1, 0, 0), (.getfield 33, 3, 0, 9), (.iand, 1, 0, 0)], (.ifCond .ne 7, 3, (0, 0, 0), [4, 3])),
  (29, [(.iconst 1, 1, 0, 0)], (.goto 4, 3, (0, 0, 0), [5])),
  (33, [(.iconst 0, 1, 0, 0)], (.nop, 0, (0, 0, 0), [5])),
  (34, [(.putfield 36, 3, 0, 10), (.iload_n 1, 1, 0, 0)], (.ifCond .eq 4, 3, (0, 0, 0), [7, 6])),
  (41, [], (.return_, 1, (0, 0, 0), [])),
  (42, [(.aload_n 0, 1, 0, 0), (.getfield 43, 3, 0, 1), (.aload_n 0, 1, 0, 0), (.getfield 10, 3, 0, 3)], (.invokevirtual 113, 3, (22, 2, 2), [8])),
  (53, [(.istore_n 2, 1, 0, 0), (.aload_n 0, 1, 0, 0), (.getfield 19, 3, 0, 5)], (.ifCond .ne 24, 3, (0, 0, 0), [11, 9])),
  (61, [(.aload_n 0, 1, 0, 0), (.iconst 1, 1, 0, 0), (.putfield 19, 3, 0, 5), (.aload_n 0, 1, 0, 0), (.getfield 16, 3, 0, 4), (.aload_n 0, 1, 0, 0), (.getfield 10, 3, 0, 3)], (.invokevirtual 116, 3, (99, 2, 9), [10])),
  (77, [(.aload_n 0, 1, 0, 0), (.iload_n 2, 1, 0, 0), (.putfield 26, 3, 0, 7)], (.nop, 0, (0, 0, 0), [11])),
  (82, [(.aload_n 0, 1, 0, 0), (.aload_n 0, 1, 0, 0), (.getfield 26, 3, 0, 7), (.iload_n 2, 1, 0, 0), (.invokestatic 120, 3, 2, 0), (.putfield 26, 3, 0, 7), (.iconst 0, 1, 0, 0), (.istore_n 3, 1, 0, 0)], (.nop, 0, (0, 0, 0), [12])),
  (96, [(.iload_n 3, 1, 0, 0), (.aload_n 0, 1, 0, 0), (.getfield 39, 3, 0, 0), (.getfield 60, 3, 6, 6)], (.if_icmp .ge 54, 3, (0, 0, 0), [19, 13])),
  (107, [(.aload_n 0, 1, 0, 0), (.aload_n 0, 1, 0, 0), (.getfield 23, 3, 0, 6)], (.ifCond .ne 32, 3, (0, 0, 0), [16, 14])),
  (115, [(.aload_n 0, 1, 0, 0), (.getfield 47, 3, 0, 2), (.iload_n 3, 1, 0, 0), (.aload_n 0, 1, 0, 0), (.getfield 10, 3, 0, 3), (.getfield 92, 3, 9, 2), (.iload_n 3, 1, 0, 0), (.iaload, 1, 0, 0), (.aload_n 0, 1, 0, 0), (.getfield 10, 3, 0, 3), (.getfield 96, 3, 9, 3), (.iload_n 3, 1, 0, 0), (.iaload, 1, 0, 0)], (.invokevirtual 126, 3, (106, 4, 10), [15])),
  (141, [], (.ifCond .ne 7, 3, (0, 0, 0), [17, 16])),
  (144, [(.iconst 1, 1, 0, 0)], (.goto 4, 3, (0, 0, 0), [18])),
  (148, [(.iconst 0, 1, 0, 0)], (.nop, 0, (0, 0, 0), [18])),
  (149, [(.putfield 23, 3, 0, 6), (.iinc 3 1, 3, 0, 0)], (.goto (-59), 3, (0, 0, 0), [12])),
  (158, [], (.return_, 1, (0, 0, 0), []))])
def am_X1_init : ab_M := (2, [], [
  (0, [(.aload_n 0, 1, 0, 0), (.invokespecial 3, 3, 0, 0), (.aload_n 0, 1, 0, 0), (.bipush 6, 2, 0, 0), (.newarray .int, 2, 0, 0), (.putfield 9, 3, 1, 1), (.aload_n 0, 1, 0, 0), (.aload_n 1, 1, 0, 0), (.putfield 15, 3, 1, 0)], (.return_, 1, (0, 0, 0), []))])
def am_X1_spread : ab_M := (3, [], [
  (0, [(.iconst 0, 1, 0, 0), (.istore_n 2, 1, 0, 0)], (.nop, 0, (0, 0, 0), [1])),
  (2, [(.iload_n 2, 1, 0, 0), (.bipush 6, 2, 0, 0)], (.if_icmp .ge 21, 3, (0, 0, 0), [6, 2])),
  (8, [(.aload_n 0, 1, 0, 0), (.iload_n 1, 1, 0, 0), (.iconst 0, 1, 0, 0), (.iload_n 2, 1, 0, 0)], (.invokevirtual 19, 3, (10, 4, 1), [3])),
  (15, [], (.ifCond .eq 5, 3, (0, 0, 0), [5, 4])),
  (18, [(.iload_n 2, 1, 0, 0)], (.ireturn, 1, (0, 0, 0), [])),
  (20, [(.iinc 2 1, 3, 0, 0)], (.goto (-21), 3, (0, 0, 0), [1])),
  (26, [(.aload_n 0, 1, 0, 0), (.iload_n 1, 1, 0, 0), (.iconst 0, 1, 0, 0), (.bipush 6, 2, 0, 0)], (.invokevirtual 19, 3, (10, 4, 1), [7])),
  (34, [(.pop, 1, 0, 0), (.bipush 6, 2, 0, 0)], (.ireturn, 1, (0, 0, 0), []))])
def am_X1_fill : ab_M := (5, [], [
  (0, [(.iload_n 2, 1, 0, 0), (.aload_n 0, 1, 0, 0), (.getfield 15, 3, 1, 0), (.getfield 23, 3, 6, 6)], (.if_icmp .lt 5, 3, (0, 0, 0), [2, 1])),
  (11, [(.iconst 1, 1, 0, 0)], (.ireturn, 1, (1, 0, 0), [])),
  (13, [(.iload_n 1, 1, 0, 0), (.iload_n 2, 1, 0, 0), (.ishr, 1, 0, 0), (.iconst 1, 1, 0, 0), (.iand, 1, 0, 0)], (.ifCond .ne 13, 3, (0, 0, 0), [5, 3])),
  (21, [(.aload_n 0, 1, 0, 0), (.iload_n 1, 1, 0, 0), (.iload_n 2, 1, 0, 0), (.iconst 1, 1, 0, 0), (.iadd, 1, 0, 0), (.iload_n 3, 1, 0, 0)], (.invokevirtual 19, 3, (10, 4, 1), [4])),
  (30, [], (.ireturn, 1, (1, 0, 0), [])),
  (31, [(.iconst 0, 1, 0, 0), (.istore 4, 2, 0, 0)], (.nop, 0, (0, 0, 0), [6])),
  (34, [(.iload 4, 2, 0, 0), (.iload_n 3, 1, 0, 0)], (.if_icmp .ge 42, 3, (0, 0, 0), [13, 7])),
  (40, [(.aload_n 0, 1, 0, 0), (.iload_n 1, 1, 0, 0), (.iload_n 2, 1, 0, 0), (.iload 4, 2, 0, 0)], (.invokevirtual 29, 3, (11, 4, 1), [8])),
  (48, [], (.ifCond .eq 25, 3, (0, 0, 0), [12, 9])),
  (51, [(.aload_n 0, 1, 0, 0), (.getfield 9, 3, 1, 1), (.iload_n 2, 1, 0, 0), (.iload 4, 2, 0, 0), (.iastore, 1, 0, 0), (.aload_n 0, 1, 0, 0), (.iload_n 1, 1, 0, 0), (.iload_n 2, 1, 0, 0), (.iconst 1, 1, 0, 0), (.iadd, 1, 0, 0), (.iload_n 3, 1, 0, 0)], (.invokevirtual 19, 3, (10, 4, 1), [10])),
  (68, [], (.ifCond .eq 5, 3, (0, 0, 0), [12, 11])),
  (71, [(.iconst 1, 1, 0, 0)], (.ireturn, 1, (1, 0, 0), [])),
  (73, [(.iinc 4 1, 3, 0, 0)], (.goto (-42), 3, (0, 0, 0), [6])),
  (79, [(.iconst 0, 1, 0, 0)], (.ireturn, 1, (1, 0, 0), []))])
def am_X1_isFree : ab_M := (5, [], [
  (0, [(.iconst 0, 1, 0, 0), (.istore 4, 2, 0, 0)], (.nop, 0, (0, 0, 0), [1])),
  (3, [(.iload 4, 2, 0, 0), (.iload_n 2, 1, 0, 0)], (.if_icmp .ge 57, 3, (0, 0, 0), [10, 2])),
  (9, [(.iload_n 1, 1, 0, 0), (.iload 4, 2, 0, 0), (.ishr, 1, 0, 0), (.iconst 1, 1, 0, 0), (.iand, 1, 0, 0)], (.ifCond .eq 42, 3, (0, 0, 0), [9, 3])),
  (18, [(.aload_n 0, 1, 0, 0), (.getfield 9, 3, 1, 1), (.iload 4, 2, 0, 0), (.iaload, 1, 0, 0), (.iload_n 3, 1, 0, 0)], (.if_icmp .ne 31, 3, (0, 0, 0), [9, 4])),
  (29, [(.aload_n 0, 1, 0, 0), (.getfield 15, 3, 1, 0), (.iload_n 2, 1, 0, 0), (.iload 4, 2, 0, 0)], (.invokevirtual 32, 3, (66, 3, 6), [5])),
  (39, [], (.ifCond .ne 16, 3, (0, 0, 0), [8, 6])),
  (42, [(.aload_n 0, 1, 0, 0), (.getfield 15, 3, 1, 0), (.iload_n 2, 1, 0, 0), (.iload 4, 2, 0, 0)], (.invokevirtual 36, 3, (67, 3, 6), [7])),
  (52, [], (.ifCond .eq 5, 3, (0, 0, 0), [9, 8])),
  (55, [(.iconst 0, 1, 0, 0)], (.ireturn, 1, (1, 0, 0), [])),
  (57, [(.iinc 4 1, 3, 0, 0)], (.goto (-57), 3, (0, 0, 0), [1])),
  (63, [(.iconst 1, 1, 0, 0)], (.ireturn, 1, (1, 0, 0), []))])
def am_X2_init : ab_M := (2, [], [
  (0, [(.aload_n 0, 1, 0, 0), (.invokespecial 3, 3, 0, 0), (.aload_n 0, 1, 0, 0), (.aload_n 1, 1, 0, 0), (.putfield 9, 3, 2, 0)], (.return_, 1, (0, 0, 0), []))])
def am_X2_faults : ab_M := (5, [], [
  (0, [(.iconst 0, 1, 0, 0), (.istore_n 2, 1, 0, 0), (.iconst 0, 1, 0, 0), (.istore_n 3, 1, 0, 0)], (.nop, 0, (0, 0, 0), [1])),
  (4, [(.iload_n 3, 1, 0, 0), (.aload_n 0, 1, 0, 0), (.getfield 9, 3, 2, 0), (.getfield 15, 3, 6, 6)], (.if_icmp .ge 85, 3, (0, 0, 0), [15, 2])),
  (15, [(.iload_n 2, 1, 0, 0), (.aload_n 0, 1, 0, 0), (.getfield 9, 3, 2, 0), (.iload_n 3, 1, 0, 0), (.aload_n 1, 1, 0, 0), (.getfield 21, 3, 9, 2), (.iload_n 3, 1, 0, 0), (.iaload, 1, 0, 0)], (.invokevirtual 27, 3, (64, 3, 6), [3])),
  (30, [], (.ifCond .eq 7, 3, (0, 0, 0), [5, 4])),
  (33, [(.iconst 0, 1, 0, 0)], (.goto 4, 3, (0, 0, 0), [6])),
  (37, [(.iconst 1, 1, 0, 0)], (.nop, 0, (0, 0, 0), [6])),
  (38, [(.iadd, 1, 0, 0), (.istore_n 2, 1, 0, 0), (.iload_n 2, 1, 0, 0), (.aload_n 0, 1, 0, 0), (.getfield 9, 3, 2, 0), (.iload_n 3, 1, 0, 0), (.aload_n 1, 1, 0, 0), (.getfield 31, 3, 9, 3), (.iload_n 3, 1, 0, 0), (.iaload, 1, 0, 0)], (.invokevirtual 34, 3, (65, 3, 6), [7])),
  (55, [], (.ifCond .eq 7, 3, (0, 0, 0), [9, 8])),
  (58, [(.iconst 0, 1, 0, 0)], (.goto 4, 3, (0, 0, 0), [10])),
  (62, [(.iconst 1, 1, 0, 0)], (.nop, 0, (0, 0, 0), [10])),
  (63, [(.iadd, 1, 0, 0), (.istore_n 2, 1, 0, 0), (.iconst 0, 1, 0, 0), (.istore 4, 2, 0, 0)], (.nop, 0, (0, 0, 0), [11])),
  (68, [(.iload 4, 2, 0, 0), (.iload_n 3, 1, 0, 0)], (.if_icmp .ge 20, 3, (0, 0, 0), [14, 12])),
  (74, [(.iload_n 2, 1, 0, 0), (.aload_n 0, 1, 0, 0), (.aload_n 1, 1, 0, 0), (.iload_n 3, 1, 0, 0), (.iload 4, 2, 0, 0)], (.invokevirtual 37, 3, (14, 4, 2), [13])),
  (83, [(.iadd, 1, 0, 0), (.istore_n 2, 1, 0, 0), (.iinc 4 1, 3, 0, 0)], (.goto (-20), 3, (0, 0, 0), [11])),
  (91, [(.iinc 3 1, 3, 0, 0)], (.goto (-90), 3, (0, 0, 0), [1])),
  (97, [(.iload_n 2, 1, 0, 0)], (.ireturn, 1, (0, 0, 0), []))])
def am_X2_pairFaults : ab_M := (4, [], [
  (0, [(.aload_n 0, 1, 0, 0), (.getfield 9, 3, 2, 0), (.iload_n 2, 1, 0, 0), (.aload_n 1, 1, 0, 0), (.getfield 21, 3, 9, 2), (.iload_n 2, 1, 0, 0), (.iaload, 1, 0, 0)], (.invokevirtual 41, 3, (63, 3, 6), [1])),
  (14, [(.aload_n 0, 1, 0, 0), (.getfield 9, 3, 2, 0), (.iload_n 3, 1, 0, 0), (.aload_n 1, 1, 0, 0), (.getfield 21, 3, 9, 2), (.iload_n 3, 1, 0, 0), (.iaload, 1, 0, 0)], (.invokevirtual 41, 3, (63, 3, 6), [2])),
  (28, [(.iand, 1, 0, 0)], (.ifCond .ne 5, 3, (0, 0, 0), [4, 3])),
  (32, [(.iconst 0, 1, 0, 0)], (.ireturn, 1, (0, 0, 0), [])),
  (34, [(.aload_n 0, 1, 0, 0), (.getfield 9, 3, 2, 0), (.iload_n 2, 1, 0, 0), (.iload_n 3, 1, 0, 0)], (.invokevirtual 45, 3, (66, 3, 6), [5])),
  (43, [], (.ifCond .eq 7, 3, (0, 0, 0), [7, 6])),
  (46, [(.iconst 1, 1, 0, 0)], (.goto 4, 3, (0, 0, 0), [8])),
  (50, [(.iconst 0, 1, 0, 0)], (.nop, 0, (0, 0, 0), [8])),
  (51, [(.aload_n 0, 1, 0, 0), (.getfield 9, 3, 2, 0), (.iload_n 2, 1, 0, 0), (.iload_n 3, 1, 0, 0)], (.invokevirtual 48, 3, (67, 3, 6), [9])),
  (60, [], (.ifCond .eq 7, 3, (0, 0, 0), [11, 10])),
  (63, [(.iconst 1, 1, 0, 0)], (.goto 4, 3, (0, 0, 0), [12])),
  (67, [(.iconst 0, 1, 0, 0)], (.nop, 0, (0, 0, 0), [12])),
  (68, [(.iadd, 1, 0, 0), (.aload_n 1, 1, 0, 0), (.getfield 31, 3, 9, 3), (.iload_n 2, 1, 0, 0), (.iaload, 1, 0, 0), (.aload_n 1, 1, 0, 0), (.getfield 31, 3, 9, 3), (.iload_n 3, 1, 0, 0), (.iaload, 1, 0, 0)], (.if_icmp .ne 7, 3, (0, 0, 0), [14, 13])),
  (84, [(.iconst 1, 1, 0, 0)], (.goto 4, 3, (0, 0, 0), [15])),
  (88, [(.iconst 0, 1, 0, 0)], (.nop, 0, (0, 0, 0), [15])),
  (89, [(.iadd, 1, 0, 0)], (.ireturn, 1, (0, 0, 0), []))])
def am_X2_toldBroken : ab_M := (7, [], [
  (0, [(.iconst 0, 1, 0, 0), (.istore_n 2, 1, 0, 0), (.iconst 0, 1, 0, 0), (.istore_n 3, 1, 0, 0)], (.nop, 0, (0, 0, 0), [1])),
  (4, [(.iload_n 3, 1, 0, 0), (.aload_n 0, 1, 0, 0), (.getfield 9, 3, 2, 0), (.getfield 51, 3, 6, 7)], (.if_icmp .ge 228, 3, (0, 0, 0), [28, 2])),
  (15, [(.aload_n 0, 1, 0, 0), (.getfield 9, 3, 2, 0), (.getfield 54, 3, 6, 16), (.iload_n 3, 1, 0, 0), (.iaload, 1, 0, 0), (.istore 4, 2, 0, 0), (.aload_n 0, 1, 0, 0), (.getfield 9, 3, 2, 0), (.getfield 57, 3, 6, 17), (.iload_n 3, 1, 0, 0), (.iaload, 1, 0, 0), (.istore 5, 2, 0, 0), (.aload_n 0, 1, 0, 0), (.getfield 9, 3, 2, 0), (.getfield 60, 3, 6, 15), (.iload_n 3, 1, 0, 0), (.iaload, 1, 0, 0)], (.tableswitch 149 0 7 #[46, 80, 149, 149, 149, 149, 102, 124], 46, (0, 0, 0), [3, 8, 22, 22, 22, 22, 13, 17, 22])),
  (92, [(.aload_n 0, 1, 0, 0), (.getfield 9, 3, 2, 0), (.iload 4, 2, 0, 0), (.aload_n 1, 1, 0, 0), (.getfield 21, 3, 9, 2), (.iload 4, 2, 0, 0), (.iaload, 1, 0, 0)], (.invokevirtual 41, 3, (63, 3, 6), [4])),
  (108, [(.iload 5, 2, 0, 0), (.ishr, 1, 0, 0), (.iconst 1, 1, 0, 0), (.iand, 1, 0, 0)], (.ifCond .ne 7, 3, (0, 0, 0), [6, 5])),
  (116, [(.iconst 1, 1, 0, 0)], (.goto 4, 3, (0, 0, 0), [7])),
  (120, [(.iconst 0, 1, 0, 0)], (.nop, 0, (0, 0, 0), [7])),
  (121, [(.istore 6, 2, 0, 0)], (.goto 96, 3, (0, 0, 0), [24])),
  (126, [(.aload_n 0, 1, 0, 0), (.aload_n 1, 1, 0, 0), (.iload 4, 2, 0, 0)], (.invokevirtual 63, 3, (19, 3, 2), [9])),
  (133, [(.iload 5, 2, 0, 0)], (.if_icmp .gt 7, 3, (0, 0, 0), [11, 10])),
  (138, [(.iconst 1, 1, 0, 0)], (.goto 4, 3, (0, 0, 0), [12])),
  (142, [(.iconst 0, 1, 0, 0)], (.nop, 0, (0, 0, 0), [12])),
  (143, [(.istore 6, 2, 0, 0)], (.goto 74, 3, (0, 0, 0), [24])),
  (148, [(.aload_n 1, 1, 0, 0), (.getfield 31, 3, 9, 3), (.iload 4, 2, 0, 0), (.iaload, 1, 0, 0), (.iload 5, 2, 0, 0)], (.if_icmp .ne 7, 3, (0, 0, 0), [15, 14])),
  (160, [(.iconst 1, 1, 0, 0)], (.goto 4, 3, (0, 0, 0), [16])),
  (164, [(.iconst 0, 1, 0, 0)], (.nop, 0, (0, 0, 0), [16])),
  (165, [(.istore 6, 2, 0, 0)], (.goto 52, 3, (0, 0, 0), [24])),
  (170, [(.aload_n 0, 1, 0, 0), (.aload_n 1, 1, 0, 0), (.iload 4, 2, 0, 0)], (.invokevirtual 67, 3, (17, 3, 2), [18])),
  (177, [(.iload 5, 2, 0, 0), (.ishr, 1, 0, 0), (.iconst 1, 1, 0, 0), (.iand, 1, 0, 0)], (.ifCond .ne 7, 3, (0, 0, 0), [20, 19])),
  (185, [(.iconst 1, 1, 0, 0)], (.goto 4, 3, (0, 0, 0), [21])),
  (189, [(.iconst 0, 1, 0, 0)], (.nop, 0, (0, 0, 0), [21])),
  (190, [(.istore 6, 2, 0, 0)], (.goto 27, 3, (0, 0, 0), [24])),
  (195, [(.aload_n 0, 1, 0, 0), (.getfield 9, 3, 2, 0), (.iload_n 3, 1, 0, 0), (.aload_n 1, 1, 0, 0), (.getfield 21, 3, 9, 2), (.iload 4, 2, 0, 0), (.iaload, 1, 0, 0), (.aload_n 1, 1, 0, 0), (.getfield 21, 3, 9, 2), (.iload 5, 2, 0, 0), (.iaload, 1, 0, 0)], (.invokevirtual 70, 3, (72, 4, 6), [23])),
  (217, [(.istore 6, 2, 0, 0)], (.nop, 0, (0, 0, 0), [24])),
  (219, [(.iload_n 2, 1, 0, 0), (.iload 6, 2, 0, 0)], (.ifCond .eq 7, 3, (0, 0, 0), [26, 25])),
  (225, [(.iconst 0, 1, 0, 0)], (.goto 6, 3, (0, 0, 0), [27])),
  (229, [(.iconst 1, 1, 0, 0), (.iload_n 3, 1, 0, 0), (.ishl, 1, 0, 0)], (.nop, 0, (0, 0, 0), [27])),
  (232, [(.ior, 1, 0, 0), (.istore_n 2, 1, 0, 0), (.iinc 3 1, 3, 0, 0)], (.goto (-233), 3, (0, 0, 0), [1])),
  (240, [(.iload_n 2, 1, 0, 0)], (.ireturn, 1, (0, 0, 0), []))])
def am_X2_isGood : ab_M := (2, [], [
  (0, [(.aload_n 0, 1, 0, 0), (.aload_n 1, 1, 0, 0)], (.invokevirtual 74, 3, (13, 2, 2), [1])),
  (5, [], (.ifCond .ne 15, 3, (0, 0, 0), [5, 2])),
  (8, [(.aload_n 0, 1, 0, 0), (.aload_n 1, 1, 0, 0)], (.invokevirtual 78, 3, (15, 2, 2), [3])),
  (13, [], (.ifCond .ne 7, 3, (0, 0, 0), [5, 4])),
  (16, [(.iconst 1, 1, 0, 0)], (.goto 4, 3, (0, 0, 0), [6])),
  (20, [(.iconst 0, 1, 0, 0)], (.nop, 0, (0, 0, 0), [6])),
  (21, [], (.ireturn, 1, (1, 0, 0), []))])
def am_X2_coverOfTeacher : ab_M := (5, [], [
  (0, [(.iconst 0, 1, 0, 0), (.istore_n 3, 1, 0, 0), (.iconst 0, 1, 0, 0), (.istore 4, 2, 0, 0)], (.nop, 0, (0, 0, 0), [1])),
  (5, [(.iload 4, 2, 0, 0), (.aload_n 0, 1, 0, 0), (.getfield 9, 3, 2, 0), (.getfield 15, 3, 6, 6)], (.if_icmp .ge 42, 3, (0, 0, 0), [6, 2])),
  (17, [(.aload_n 0, 1, 0, 0), (.getfield 9, 3, 2, 0), (.getfield 81, 3, 6, 13), (.iload 4, 2, 0, 0), (.iaload, 1, 0, 0), (.iload_n 2, 1, 0, 0)], (.if_icmp .ne 22, 3, (0, 0, 0), [5, 3])),
  (31, [(.iload_n 3, 1, 0, 0), (.aload_n 0, 1, 0, 0), (.getfield 9, 3, 2, 0), (.iload 4, 2, 0, 0), (.aload_n 1, 1, 0, 0), (.getfield 21, 3, 9, 2), (.iload 4, 2, 0, 0), (.iaload, 1, 0, 0)], (.invokevirtual 41, 3, (63, 3, 6), [4])),
  (48, [(.ior, 1, 0, 0), (.istore_n 3, 1, 0, 0)], (.nop, 0, (0, 0, 0), [5])),
  (50, [(.iinc 4 1, 3, 0, 0)], (.goto (-48), 3, (0, 0, 0), [1])),
  (56, [(.iload_n 3, 1, 0, 0)], (.ireturn, 1, (0, 0, 0), []))])
def am_X2_coverOfRoom : ab_M := (5, [], [
  (0, [(.iconst 0, 1, 0, 0), (.istore_n 3, 1, 0, 0), (.iconst 0, 1, 0, 0), (.istore 4, 2, 0, 0)], (.nop, 0, (0, 0, 0), [1])),
  (5, [(.iload 4, 2, 0, 0), (.aload_n 0, 1, 0, 0), (.getfield 9, 3, 2, 0), (.getfield 15, 3, 6, 6)], (.if_icmp .ge 39, 3, (0, 0, 0), [6, 2])),
  (17, [(.aload_n 1, 1, 0, 0), (.getfield 31, 3, 9, 3), (.iload 4, 2, 0, 0), (.iaload, 1, 0, 0), (.iload_n 2, 1, 0, 0)], (.if_icmp .ne 22, 3, (0, 0, 0), [5, 3])),
  (28, [(.iload_n 3, 1, 0, 0), (.aload_n 0, 1, 0, 0), (.getfield 9, 3, 2, 0), (.iload 4, 2, 0, 0), (.aload_n 1, 1, 0, 0), (.getfield 21, 3, 9, 2), (.iload 4, 2, 0, 0), (.iaload, 1, 0, 0)], (.invokevirtual 41, 3, (63, 3, 6), [4])),
  (45, [(.ior, 1, 0, 0), (.istore_n 3, 1, 0, 0)], (.nop, 0, (0, 0, 0), [5])),
  (47, [(.iinc 4 1, 3, 0, 0)], (.goto (-45), 3, (0, 0, 0), [1])),
  (53, [(.iload_n 3, 1, 0, 0)], (.ireturn, 1, (0, 0, 0), []))])
def am_X2_longestDay : ab_M := (6, [], [
  (0, [(.aload_n 0, 1, 0, 0), (.aload_n 1, 1, 0, 0), (.iload_n 2, 1, 0, 0)], (.invokevirtual 67, 3, (17, 3, 2), [1])),
  (6, [(.istore_n 3, 1, 0, 0), (.iconst 0, 1, 0, 0), (.istore 4, 2, 0, 0), (.iconst 0, 1, 0, 0), (.istore 5, 2, 0, 0)], (.nop, 0, (0, 0, 0), [2])),
  (13, [(.iload 5, 2, 0, 0), (.aload_n 0, 1, 0, 0), (.getfield 9, 3, 2, 0), (.getfield 84, 3, 6, 0)], (.if_icmp .ge 30, 3, (0, 0, 0), [6, 3])),
  (25, [(.iload 4, 2, 0, 0), (.iload_n 3, 1, 0, 0), (.aload_n 0, 1, 0, 0), (.getfield 9, 3, 2, 0), (.iload 5, 2, 0, 0)], (.invokevirtual 87, 3, (60, 2, 6), [4])),
  (37, [(.iand, 1, 0, 0)], (.invokestatic 91, 3, (277, 1, 200), [5])),
  (41, [(.invokestatic 96, 3, 1, 0), (.istore 4, 2, 0, 0), (.iinc 5 1, 3, 0, 0)], (.goto (-36), 3, (0, 0, 0), [2])),
  (52, [(.iload 4, 2, 0, 0)], (.ireturn, 1, (0, 0, 0), []))])
def am_X2_lessonsIn : ab_M := (5, [], [
  (0, [(.iconst 0, 1, 0, 0), (.istore_n 3, 1, 0, 0), (.iconst 0, 1, 0, 0), (.istore 4, 2, 0, 0)], (.nop, 0, (0, 0, 0), [1])),
  (5, [(.iload 4, 2, 0, 0), (.aload_n 0, 1, 0, 0), (.getfield 9, 3, 2, 0), (.getfield 15, 3, 6, 6)], (.if_icmp .ge 39, 3, (0, 0, 0), [6, 2])),
  (17, [(.aload_n 0, 1, 0, 0), (.getfield 9, 3, 2, 0), (.iload 4, 2, 0, 0), (.aload_n 1, 1, 0, 0), (.getfield 21, 3, 9, 2), (.iload 4, 2, 0, 0), (.iaload, 1, 0, 0)], (.invokevirtual 41, 3, (63, 3, 6), [3])),
  (33, [(.iload_n 2, 1, 0, 0), (.ishr, 1, 0, 0), (.iconst 1, 1, 0, 0), (.iand, 1, 0, 0)], (.ifCond .eq 10, 3, (0, 0, 0), [5, 4])),
  (40, [(.iload_n 3, 1, 0, 0), (.iconst 1, 1, 0, 0), (.iload 4, 2, 0, 0), (.ishl, 1, 0, 0), (.ior, 1, 0, 0), (.istore_n 3, 1, 0, 0)], (.nop, 0, (0, 0, 0), [5])),
  (47, [(.iinc 4 1, 3, 0, 0)], (.goto (-45), 3, (0, 0, 0), [1])),
  (53, [(.iload_n 3, 1, 0, 0)], (.ireturn, 1, (0, 0, 0), []))])
def am_X2_lessonOf : ab_M := (8, [], [
  (0, [(.aload_n 0, 1, 0, 0), (.aload_n 1, 1, 0, 0), (.iload 4, 2, 0, 0)], (.invokevirtual 101, 3, (20, 3, 2), [1])),
  (7, [(.istore 5, 2, 0, 0), (.iconst 0, 1, 0, 0), (.istore 6, 2, 0, 0)], (.nop, 0, (0, 0, 0), [2])),
  (12, [(.iload 6, 2, 0, 0), (.aload_n 0, 1, 0, 0), (.getfield 9, 3, 2, 0), (.getfield 15, 3, 6, 6)], (.if_icmp .ge 72, 3, (0, 0, 0), [12, 3])),
  (24, [(.iload_n 2, 1, 0, 0)], (.ifCond .ne 16, 3, (0, 0, 0), [5, 4])),
  (28, [(.aload_n 0, 1, 0, 0), (.getfield 9, 3, 2, 0), (.getfield 104, 3, 6, 12), (.iload 6, 2, 0, 0), (.iaload, 1, 0, 0)], (.goto 28, 3, (0, 0, 0), [8])),
  (41, [(.iload_n 2, 1, 0, 0), (.iconst 1, 1, 0, 0)], (.if_icmp .ne 16, 3, (0, 0, 0), [7, 6])),
  (46, [(.aload_n 0, 1, 0, 0), (.getfield 9, 3, 2, 0), (.getfield 81, 3, 6, 13), (.iload 6, 2, 0, 0), (.iaload, 1, 0, 0)], (.goto 10, 3, (0, 0, 0), [8])),
  (59, [(.aload_n 1, 1, 0, 0), (.getfield 31, 3, 9, 3), (.iload 6, 2, 0, 0), (.iaload, 1, 0, 0)], (.nop, 0, (0, 0, 0), [8])),
  (66, [(.istore 7, 2, 0, 0), (.iload 5, 2, 0, 0), (.iload 6, 2, 0, 0), (.ishr, 1, 0, 0), (.iconst 1, 1, 0, 0), (.iand, 1, 0, 0)], (.ifCond .eq 12, 3, (0, 0, 0), [11, 9])),
  (78, [(.iload 7, 2, 0, 0), (.iload_n 3, 1, 0, 0)], (.if_icmp .ne 6, 3, (0, 0, 0), [11, 10])),
  (84, [(.iload 6, 2, 0, 0)], (.ireturn, 1, (0, 0, 0), [])),
  (87, [(.iinc 6 1, 3, 0, 0)], (.goto (-78), 3, (0, 0, 0), [2])),
  (93, [(.iconst (-1), 1, 0, 0)], (.ireturn, 1, (0, 0, 0), []))])
def am_X2_weightOf : ab_M := (4, [], [
  (0, [(.iconst 0, 1, 0, 0), (.istore_n 2, 1, 0, 0), (.iconst 0, 1, 0, 0), (.istore_n 3, 1, 0, 0)], (.nop, 0, (0, 0, 0), [1])),
  (4, [(.iload_n 3, 1, 0, 0), (.aload_n 0, 1, 0, 0), (.getfield 9, 3, 2, 0), (.getfield 15, 3, 6, 6)], (.if_icmp .ge 32, 3, (0, 0, 0), [4, 2])),
  (15, [(.iload_n 2, 1, 0, 0), (.aload_n 0, 1, 0, 0), (.getfield 9, 3, 2, 0), (.iload_n 3, 1, 0, 0), (.aload_n 1, 1, 0, 0), (.getfield 21, 3, 9, 2), (.iload_n 3, 1, 0, 0), (.iaload, 1, 0, 0), (.aload_n 1, 1, 0, 0), (.getfield 31, 3, 9, 3), (.iload_n 3, 1, 0, 0), (.iaload, 1, 0, 0)], (.invokevirtual 107, 3, (68, 4, 6), [3])),
  (36, [(.iadd, 1, 0, 0), (.istore_n 2, 1, 0, 0), (.iinc 3 1, 3, 0, 0)], (.goto (-37), 3, (0, 0, 0), [1])),
  (44, [(.iconst 0, 1, 0, 0), (.istore_n 3, 1, 0, 0)], (.nop, 0, (0, 0, 0), [5])),
  (46, [(.iload_n 3, 1, 0, 0), (.aload_n 0, 1, 0, 0), (.getfield 9, 3, 2, 0), (.getfield 111, 3, 6, 4)], (.if_icmp .ge 32, 3, (0, 0, 0), [9, 6])),
  (57, [(.iload_n 2, 1, 0, 0), (.aload_n 0, 1, 0, 0), (.getfield 9, 3, 2, 0), (.getfield 114, 3, 6, 18), (.iconst 2, 1, 0, 0), (.iaload, 1, 0, 0), (.aload_n 0, 1, 0, 0), (.aload_n 0, 1, 0, 0), (.aload_n 1, 1, 0, 0), (.iload_n 3, 1, 0, 0)], (.invokevirtual 67, 3, (17, 3, 2), [7])),
  (74, [], (.invokevirtual 117, 3, (23, 2, 2), [8])),
  (77, [(.imul, 1, 0, 0), (.iadd, 1, 0, 0), (.istore_n 2, 1, 0, 0), (.iinc 3 1, 3, 0, 0)], (.goto (-37), 3, (0, 0, 0), [5])),
  (86, [(.iload_n 2, 1, 0, 0)], (.ireturn, 1, (0, 0, 0), []))])
def am_X2_gapsIn : ab_M := (4, [], [
  (0, [(.iconst 0, 1, 0, 0), (.istore_n 2, 1, 0, 0), (.iconst 0, 1, 0, 0), (.istore_n 3, 1, 0, 0)], (.nop, 0, (0, 0, 0), [1])),
  (4, [(.iload_n 3, 1, 0, 0), (.aload_n 0, 1, 0, 0), (.getfield 9, 3, 2, 0), (.getfield 84, 3, 6, 0)], (.if_icmp .ge 36, 3, (0, 0, 0), [6, 2])),
  (15, [(.iload_n 1, 1, 0, 0), (.aload_n 0, 1, 0, 0), (.getfield 9, 3, 2, 0), (.iload_n 3, 1, 0, 0)], (.invokevirtual 87, 3, (60, 2, 6), [3])),
  (24, [(.iand, 1, 0, 0), (.iload_n 3, 1, 0, 0), (.aload_n 0, 1, 0, 0), (.getfield 9, 3, 2, 0), (.getfield 120, 3, 6, 1), (.imul, 1, 0, 0), (.ishr, 1, 0, 0), (.iconst 5, 1, 0, 0)], (.if_icmp .ne 6, 3, (0, 0, 0), [5, 4])),
  (39, [(.iinc 2 1, 3, 0, 0)], (.nop, 0, (0, 0, 0), [5])),
  (42, [(.iinc 3 1, 3, 0, 0)], (.goto (-41), 3, (0, 0, 0), [1])),
  (48, [(.iload_n 2, 1, 0, 0)], (.ireturn, 1, (0, 0, 0), []))])
def am_X2_shareOf : ab_M := (5, [], [
  (0, [(.iconst 0, 1, 0, 0), (.istore_n 3, 1, 0, 0), (.iconst 0, 1, 0, 0), (.istore 4, 2, 0, 0)], (.nop, 0, (0, 0, 0), [1])),
  (5, [(.iload 4, 2, 0, 0), (.aload_n 0, 1, 0, 0), (.getfield 9, 3, 2, 0), (.getfield 15, 3, 6, 6)], (.if_icmp .ge 53, 3, (0, 0, 0), [8, 2])),
  (17, [(.aload_n 0, 1, 0, 0), (.getfield 9, 3, 2, 0), (.getfield 81, 3, 6, 13), (.iload 4, 2, 0, 0), (.iaload, 1, 0, 0), (.iload_n 2, 1, 0, 0)], (.if_icmp .ne 33, 3, (0, 0, 0), [7, 3])),
  (31, [(.aload_n 0, 1, 0, 0), (.getfield 9, 3, 2, 0), (.iload 4, 2, 0, 0), (.aload_n 1, 1, 0, 0), (.getfield 21, 3, 9, 2), (.iload 4, 2, 0, 0), (.iaload, 1, 0, 0)], (.invokevirtual 41, 3, (63, 3, 6), [4])),
  (47, [(.aload_n 0, 1, 0, 0), (.getfield 9, 3, 2, 0)], (.invokevirtual 123, 3, (61, 1, 6), [5])),
  (54, [(.iand, 1, 0, 0)], (.ifCond .eq 6, 3, (0, 0, 0), [7, 6])),
  (58, [(.iinc 3 1, 3, 0, 0)], (.nop, 0, (0, 0, 0), [7])),
  (61, [(.iinc 4 1, 3, 0, 0)], (.goto (-59), 3, (0, 0, 0), [1])),
  (67, [(.iload_n 3, 1, 0, 0)], (.ireturn, 1, (0, 0, 0), []))])
def am_X3_init : ab_M := (2, [], [
  (0, [(.aload_n 0, 1, 0, 0), (.invokespecial 3, 3, 0, 0), (.aload_n 0, 1, 0, 0), (.bipush 6, 2, 0, 0), (.newarray .int, 2, 0, 0), (.putfield 9, 3, 3, 1), (.aload_n 0, 1, 0, 0), (.bipush 6, 2, 0, 0), (.newarray .int, 2, 0, 0), (.putfield 15, 3, 3, 2), (.aload_n 0, 1, 0, 0), (.iconst 4, 1, 0, 0), (.newarray .int, 2, 0, 0), (.putfield 18, 3, 3, 3), (.aload_n 0, 1, 0, 0), (.sipush 216, 3, 0, 0), (.newarray .int, 2, 0, 0), (.putfield 21, 3, 3, 4), (.aload_n 0, 1, 0, 0), (.sipush 216, 3, 0, 0), (.newarray .int, 2, 0, 0), (.putfield 24, 3, 3, 5), (.aload_n 0, 1, 0, 0), (.bipush 36, 2, 0, 0), (.newarray .int, 2, 0, 0), (.putfield 27, 3, 3, 6), (.aload_n 0, 1, 0, 0), (.bipush 108, 2, 0, 0), (.newarray .int, 2, 0, 0), (.putfield 30, 3, 3, 7), (.aload_n 0, 1, 0, 0), (.bipush 36, 2, 0, 0), (.newarray .int, 2, 0, 0), (.putfield 33, 3, 3, 8), (.aload_n 0, 1, 0, 0), (.iconst 0, 1, 0, 0), (.putfield 36, 3, 3, 9), (.aload_n 0, 1, 0, 0), (.iconst 0, 1, 0, 0), (.putfield 40, 3, 3, 10), (.aload_n 0, 1, 0, 0), (.iconst (-1), 1, 0, 0), (.putfield 43, 3, 3, 11), (.aload_n 0, 1, 0, 0), (.aload_n 1, 1, 0, 0), (.putfield 46, 3, 3, 0)], (.return_, 1, (0, 0, 0), []))])
def am_X3_ask : ab_M := (4, [], [
  (0, [(.aload_n 0, 1, 0, 0), (.getfield 43, 3, 3, 11), (.aload_n 0, 1, 0, 0), (.getfield 46, 3, 3, 0), (.getfield 50, 3, 6, 8)], (.if_icmp .eq 18, 3, (0, 0, 0), [2, 1])),
  (14, [(.aload_n 0, 1, 0, 0), (.aload_n 0, 1, 0, 0), (.getfield 46, 3, 3, 0), (.getfield 50, 3, 6, 8), (.putfield 43, 3, 3, 11), (.aload_n 0, 1, 0, 0)], (.invokevirtual 55, 3, (29, 1, 3), [2])),
  (29, [(.aload_n 0, 1, 0, 0), (.iconst 0, 1, 0, 0), (.putfield 40, 3, 3, 10), (.aload_n 0, 1, 0, 0), (.getfield 30, 3, 3, 7), (.iconst 0, 1, 0, 0)], (.invokestatic 58, 3, (278, 2, 200), [3])),
  (42, [(.aload_n 0, 1, 0, 0), (.getfield 33, 3, 3, 8), (.iconst 0, 1, 0, 0)], (.invokestatic 58, 3, (278, 2, 200), [4])),
  (50, [(.aload_n 0, 1, 0, 0), (.getfield 18, 3, 3, 3), (.iconst 3, 1, 0, 0)], (.invokestatic 58, 3, (278, 2, 200), [5])),
  (58, [(.aload_n 0, 1, 0, 0), (.getfield 24, 3, 3, 5), (.iconst 0, 1, 0, 0), (.aload_n 0, 1, 0, 0), (.getfield 21, 3, 3, 4), (.iconst 0, 1, 0, 0), (.aload_n 0, 1, 0, 0), (.getfield 21, 3, 3, 4), (.arraylength, 1, 0, 0), (.invokestatic 64, 3, 0, 0), (.iconst 0, 1, 0, 0), (.istore_n 2, 1, 0, 0)], (.nop, 0, (0, 0, 0), [6])),
  (78, [(.iload_n 2, 1, 0, 0), (.aload_n 0, 1, 0, 0), (.getfield 46, 3, 3, 0), (.getfield 70, 3, 6, 6)], (.if_icmp .ge 14, 3, (0, 0, 0), [9, 7])),
  (89, [(.aload_n 0, 1, 0, 0), (.iload_n 2, 1, 0, 0)], (.invokevirtual 73, 3, (31, 2, 3), [8])),
  (94, [(.iinc 2 1, 3, 0, 0)], (.goto (-19), 3, (0, 0, 0), [6])),
  (100, [(.iconst 0, 1, 0, 0), (.istore_n 2, 1, 0, 0)], (.nop, 0, (0, 0, 0), [10])),
  (102, [(.iload_n 2, 1, 0, 0), (.aload_n 0, 1, 0, 0), (.getfield 46, 3, 3, 0), (.getfield 77, 3, 6, 7)], (.if_icmp .ge 22, 3, (0, 0, 0), [14, 11])),
  (113, [(.iload_n 1, 1, 0, 0), (.iload_n 2, 1, 0, 0), (.ishr, 1, 0, 0), (.iconst 1, 1, 0, 0), (.iand, 1, 0, 0)], (.ifCond .eq 8, 3, (0, 0, 0), [13, 12])),
  (121, [(.aload_n 0, 1, 0, 0), (.iload_n 2, 1, 0, 0)], (.invokevirtual 80, 3, (32, 2, 3), [13])),
  (126, [(.iinc 2 1, 3, 0, 0)], (.goto (-27), 3, (0, 0, 0), [10])),
  (132, [(.iconst 0, 1, 0, 0), (.istore_n 2, 1, 0, 0)], (.nop, 0, (0, 0, 0), [15])),
  (134, [(.iload_n 2, 1, 0, 0), (.aload_n 0, 1, 0, 0), (.getfield 46, 3, 3, 0), (.getfield 70, 3, 6, 6)], (.if_icmp .ge 28, 3, (0, 0, 0), [21, 16])),
  (145, [(.iconst 0, 1, 0, 0), (.istore_n 3, 1, 0, 0)], (.nop, 0, (0, 0, 0), [17])),
  (147, [(.iload_n 3, 1, 0, 0), (.iload_n 2, 1, 0, 0)], (.if_icmp .ge 15, 3, (0, 0, 0), [20, 18])),
  (152, [(.aload_n 0, 1, 0, 0), (.iload_n 2, 1, 0, 0), (.iload_n 3, 1, 0, 0)], (.invokevirtual 83, 3, (34, 3, 3), [19])),
  (158, [(.iinc 3 1, 3, 0, 0)], (.goto (-14), 3, (0, 0, 0), [17])),
  (164, [(.iinc 2 1, 3, 0, 0)], (.goto (-33), 3, (0, 0, 0), [15])),
  (170, [(.iconst 1, 1, 0, 0), (.istore_n 2, 1, 0, 0), (.iconst 0, 1, 0, 0), (.istore_n 3, 1, 0, 0)], (.nop, 0, (0, 0, 0), [22])),
  (174, [(.iload_n 3, 1, 0, 0), (.bipush 36, 2, 0, 0)], (.if_icmp .gt 18, 3, (0, 0, 0), [26, 23])),
  (180, [(.iload_n 2, 1, 0, 0)], (.ifCond .eq 14, 3, (0, 0, 0), [26, 24])),
  (184, [(.aload_n 0, 1, 0, 0)], (.invokevirtual 87, 3, (35, 1, 3), [25])),
  (188, [(.istore_n 2, 1, 0, 0), (.iinc 3 1, 3, 0, 0)], (.goto (-18), 3, (0, 0, 0), [22])),
  (195, [], (.return_, 1, (0, 0, 0), []))])
def am_X3_pairIndex : ab_M := (3, [], [
  (0, [(.iload_n 0, 1, 0, 0), (.bipush 6, 2, 0, 0), (.imul, 1, 0, 0), (.iload_n 1, 1, 0, 0), (.iadd, 1, 0, 0), (.bipush 6, 2, 0, 0), (.imul, 1, 0, 0), (.iload_n 2, 1, 0, 0), (.iadd, 1, 0, 0)], (.ireturn, 1, (0, 0, 0), []))])
def am_X3_valueIndex : ab_M := (3, [], [
  (0, [(.iload_n 0, 1, 0, 0), (.bipush 6, 2, 0, 0), (.imul, 1, 0, 0), (.iload_n 1, 1, 0, 0), (.iadd, 1, 0, 0), (.iconst 3, 1, 0, 0), (.imul, 1, 0, 0), (.iload_n 2, 1, 0, 0), (.iadd, 1, 0, 0)], (.ireturn, 1, (0, 0, 0), []))])
def am_X3_learnGround : ab_M := (4, [], [
  (0, [(.aload_n 0, 1, 0, 0), (.aload_n 0, 1, 0, 0), (.getfield 46, 3, 3, 0)], (.invokevirtual 91, 3, (61, 1, 6), [1])),
  (8, [(.putfield 36, 3, 3, 9), (.iconst 0, 1, 0, 0), (.istore_n 1, 1, 0, 0)], (.nop, 0, (0, 0, 0), [2])),
  (13, [(.iload_n 1, 1, 0, 0), (.aload_n 0, 1, 0, 0), (.getfield 46, 3, 3, 0), (.getfield 70, 3, 6, 6)], (.if_icmp .ge 85, 3, (0, 0, 0), [13, 3])),
  (24, [(.iconst 0, 1, 0, 0), (.istore_n 2, 1, 0, 0)], (.nop, 0, (0, 0, 0), [4])),
  (26, [(.iload_n 2, 1, 0, 0), (.aload_n 0, 1, 0, 0), (.getfield 46, 3, 3, 0), (.getfield 94, 3, 6, 2)], (.if_icmp .ge 66, 3, (0, 0, 0), [12, 5])),
  (37, [(.aload_n 0, 1, 0, 0), (.getfield 27, 3, 3, 6), (.iload_n 1, 1, 0, 0), (.bipush 6, 2, 0, 0), (.imul, 1, 0, 0), (.iload_n 2, 1, 0, 0), (.iadd, 1, 0, 0), (.aload_n 0, 1, 0, 0), (.getfield 46, 3, 3, 0), (.iload_n 1, 1, 0, 0), (.iload_n 2, 1, 0, 0)], (.invokevirtual 97, 3, (63, 3, 6), [6])),
  (56, [(.iastore, 1, 0, 0), (.iconst 0, 1, 0, 0), (.istore_n 3, 1, 0, 0)], (.nop, 0, (0, 0, 0), [7])),
  (59, [(.iload_n 3, 1, 0, 0), (.aload_n 0, 1, 0, 0), (.getfield 46, 3, 3, 0), (.getfield 70, 3, 6, 6)], (.if_icmp .ge 27, 3, (0, 0, 0), [11, 8])),
  (70, [(.aload_n 0, 1, 0, 0), (.getfield 24, 3, 3, 5), (.iload_n 1, 1, 0, 0), (.iload_n 2, 1, 0, 0), (.iload_n 3, 1, 0, 0)], (.invokestatic 100, 3, (27, 3, 200), [9])),
  (80, [(.aload_n 0, 1, 0, 0), (.iload_n 1, 1, 0, 0), (.iload_n 2, 1, 0, 0), (.iload_n 3, 1, 0, 0)], (.invokevirtual 104, 3, (30, 4, 3), [10])),
  (87, [(.iastore, 1, 0, 0), (.iinc 3 1, 3, 0, 0)], (.goto (-32), 3, (0, 0, 0), [7])),
  (94, [(.iinc 2 1, 3, 0, 0)], (.goto (-71), 3, (0, 0, 0), [4])),
  (100, [(.iinc 1 1, 3, 0, 0)], (.goto (-90), 3, (0, 0, 0), [2])),
  (106, [], (.return_, 1, (0, 0, 0), []))])
def am_X3_groundPartners : ab_M := (6, [], [
  (0, [(.aload_n 0, 1, 0, 0), (.getfield 46, 3, 3, 0), (.iload_n 1, 1, 0, 0), (.iload_n 3, 1, 0, 0)], (.invokevirtual 107, 3, (66, 3, 6), [1])),
  (9, [], (.ifCond .ne 23, 3, (0, 0, 0), [6, 2])),
  (12, [(.aload_n 0, 1, 0, 0), (.getfield 46, 3, 3, 0), (.iload_n 1, 1, 0, 0), (.iload_n 3, 1, 0, 0)], (.invokevirtual 111, 3, (67, 3, 6), [3])),
  (21, [], (.ifCond .ne 11, 3, (0, 0, 0), [6, 4])),
  (24, [(.aload_n 0, 1, 0, 0), (.getfield 46, 3, 3, 0)], (.invokevirtual 114, 3, (55, 1, 6), [5])),
  (31, [], (.ireturn, 1, (0, 0, 0), [])),
  (32, [(.iconst 0, 1, 0, 0), (.istore 4, 2, 0, 0), (.iconst 0, 1, 0, 0), (.istore 5, 2, 0, 0)], (.nop, 0, (0, 0, 0), [7])),
  (38, [(.iload 5, 2, 0, 0), (.aload_n 0, 1, 0, 0), (.getfield 46, 3, 3, 0), (.getfield 94, 3, 6, 2)], (.if_icmp .ge 41, 3, (0, 0, 0), [13, 8])),
  (50, [(.aload_n 0, 1, 0, 0), (.getfield 46, 3, 3, 0), (.iload_n 1, 1, 0, 0), (.iload_n 2, 1, 0, 0)], (.invokevirtual 97, 3, (63, 3, 6), [9])),
  (59, [(.aload_n 0, 1, 0, 0), (.getfield 46, 3, 3, 0), (.iload_n 3, 1, 0, 0), (.iload 5, 2, 0, 0)], (.invokevirtual 97, 3, (63, 3, 6), [10])),
  (69, [(.iand, 1, 0, 0)], (.ifCond .ne 12, 3, (0, 0, 0), [12, 11])),
  (73, [(.iload 4, 2, 0, 0), (.iconst 1, 1, 0, 0), (.iload 5, 2, 0, 0), (.ishl, 1, 0, 0), (.ior, 1, 0, 0), (.istore 4, 2, 0, 0)], (.nop, 0, (0, 0, 0), [12])),
  (82, [(.iinc 5 1, 3, 0, 0)], (.goto (-47), 3, (0, 0, 0), [7])),
  (88, [(.iload 4, 2, 0, 0)], (.ireturn, 1, (0, 0, 0), []))])
def am_X3_openLesson : ab_M := (5, [], [
  (0, [(.iconst 0, 1, 0, 0), (.istore_n 2, 1, 0, 0), (.iconst 0, 1, 0, 0), (.istore_n 3, 1, 0, 0)], (.nop, 0, (0, 0, 0), [1])),
  (4, [(.iload_n 3, 1, 0, 0), (.aload_n 0, 1, 0, 0), (.getfield 46, 3, 3, 0), (.getfield 94, 3, 6, 2)], (.if_icmp .ge 27, 3, (0, 0, 0), [6, 2])),
  (15, [(.aload_n 0, 1, 0, 0), (.getfield 46, 3, 3, 0), (.iload_n 1, 1, 0, 0), (.iload_n 3, 1, 0, 0)], (.invokevirtual 117, 3, (64, 3, 6), [3])),
  (24, [], (.ifCond .eq 9, 3, (0, 0, 0), [5, 4])),
  (27, [(.iload_n 2, 1, 0, 0), (.iconst 1, 1, 0, 0), (.iload_n 3, 1, 0, 0), (.ishl, 1, 0, 0), (.ior, 1, 0, 0), (.istore_n 2, 1, 0, 0)], (.nop, 0, (0, 0, 0), [5])),
  (33, [(.iinc 3 1, 3, 0, 0)], (.goto (-32), 3, (0, 0, 0), [1])),
  (39, [(.iconst 0, 1, 0, 0), (.istore_n 3, 1, 0, 0), (.iconst 0, 1, 0, 0), (.istore 4, 2, 0, 0)], (.nop, 0, (0, 0, 0), [7])),
  (44, [(.iload 4, 2, 0, 0), (.aload_n 0, 1, 0, 0), (.getfield 46, 3, 3, 0), (.getfield 120, 3, 6, 5)], (.if_icmp .ge 29, 3, (0, 0, 0), [12, 8])),
  (56, [(.aload_n 0, 1, 0, 0), (.getfield 46, 3, 3, 0), (.iload_n 1, 1, 0, 0), (.iload 4, 2, 0, 0)], (.invokevirtual 123, 3, (65, 3, 6), [9])),
  (66, [], (.ifCond .eq 10, 3, (0, 0, 0), [11, 10])),
  (69, [(.iload_n 3, 1, 0, 0), (.iconst 1, 1, 0, 0), (.iload 4, 2, 0, 0), (.ishl, 1, 0, 0), (.ior, 1, 0, 0), (.istore_n 3, 1, 0, 0)], (.nop, 0, (0, 0, 0), [11])),
  (76, [(.iinc 4 1, 3, 0, 0)], (.goto (-35), 3, (0, 0, 0), [7])),
  (82, [(.aload_n 0, 1, 0, 0), (.getfield 9, 3, 3, 1), (.iload_n 1, 1, 0, 0), (.iload_n 2, 1, 0, 0), (.iastore, 1, 0, 0), (.aload_n 0, 1, 0, 0), (.getfield 15, 3, 3, 2), (.iload_n 1, 1, 0, 0), (.iload_n 3, 1, 0, 0), (.iastore, 1, 0, 0)], (.return_, 1, (0, 0, 0), []))])
def am_X3_keep : ab_M := (4, [], [
  (0, [(.aload_n 0, 1, 0, 0), (.getfield 46, 3, 3, 0), (.getfield 126, 3, 6, 16), (.iload_n 1, 1, 0, 0), (.iaload, 1, 0, 0), (.istore_n 2, 1, 0, 0), (.aload_n 0, 1, 0, 0), (.getfield 46, 3, 3, 0), (.getfield 129, 3, 6, 17), (.iload_n 1, 1, 0, 0), (.iaload, 1, 0, 0), (.istore_n 3, 1, 0, 0), (.aload_n 0, 1, 0, 0), (.getfield 46, 3, 3, 0), (.getfield 132, 3, 6, 15), (.iload_n 1, 1, 0, 0), (.iaload, 1, 0, 0)], (.tableswitch 103 0 7 #[47, 58, 103, 103, 103, 103, 77, 92], 47, (0, 0, 0), [1, 3, 7, 7, 7, 7, 4, 5, 7])),
  (76, [(.aload_n 0, 1, 0, 0), (.iload_n 2, 1, 0, 0), (.iconst 1, 1, 0, 0), (.iload_n 3, 1, 0, 0), (.ishl, 1, 0, 0)], (.invokevirtual 135, 3, (37, 3, 3), [2])),
  (84, [], (.goto 55, 3, (0, 0, 0), [8])),
  (87, [(.aload_n 0, 1, 0, 0), (.getfield 18, 3, 3, 3), (.iload_n 2, 1, 0, 0), (.aload_n 0, 1, 0, 0), (.getfield 18, 3, 3, 3), (.iload_n 2, 1, 0, 0), (.iaload, 1, 0, 0), (.iload_n 3, 1, 0, 0), (.invokestatic 138, 3, 2, 0), (.iastore, 1, 0, 0)], (.goto 36, 3, (0, 0, 0), [8])),
  (106, [(.aload_n 0, 1, 0, 0), (.getfield 15, 3, 3, 2), (.iload_n 2, 1, 0, 0), (.dup2, 1, 0, 0), (.iaload, 1, 0, 0), (.iconst 1, 1, 0, 0), (.iload_n 3, 1, 0, 0), (.ishl, 1, 0, 0), (.iand, 1, 0, 0), (.iastore, 1, 0, 0)], (.goto 21, 3, (0, 0, 0), [8])),
  (121, [(.aload_n 0, 1, 0, 0), (.iload_n 2, 1, 0, 0), (.iconst 1, 1, 0, 0), (.iload_n 3, 1, 0, 0), (.ishl, 1, 0, 0)], (.invokevirtual 143, 3, (38, 3, 3), [6])),
  (129, [], (.goto 10, 3, (0, 0, 0), [8])),
  (132, [(.aload_n 0, 1, 0, 0), (.iload_n 1, 1, 0, 0), (.iload_n 2, 1, 0, 0), (.iload_n 3, 1, 0, 0)], (.invokevirtual 146, 3, (33, 4, 3), [8])),
  (139, [], (.return_, 1, (0, 0, 0), []))])
def am_X3_keepPair : ab_M := (6, [], [
  (0, [(.iconst 0, 1, 0, 0), (.istore 4, 2, 0, 0)], (.nop, 0, (0, 0, 0), [1])),
  (3, [(.iload 4, 2, 0, 0), (.aload_n 0, 1, 0, 0), (.getfield 46, 3, 3, 0), (.getfield 94, 3, 6, 2)], (.if_icmp .ge 87, 3, (0, 0, 0), [11, 2])),
  (15, [(.iconst 0, 1, 0, 0), (.istore 5, 2, 0, 0)], (.nop, 0, (0, 0, 0), [3])),
  (18, [(.iload 5, 2, 0, 0), (.aload_n 0, 1, 0, 0), (.getfield 46, 3, 3, 0), (.getfield 94, 3, 6, 2)], (.if_icmp .ge 66, 3, (0, 0, 0), [10, 4])),
  (30, [(.aload_n 0, 1, 0, 0), (.getfield 46, 3, 3, 0), (.iload_n 1, 1, 0, 0), (.iload 4, 2, 0, 0), (.iload 5, 2, 0, 0)], (.invokevirtual 150, 3, (72, 4, 6), [5])),
  (42, [], (.ifCond .ne 45, 3, (0, 0, 0), [9, 6])),
  (45, [(.aload_n 0, 1, 0, 0), (.getfield 21, 3, 3, 4), (.iload_n 2, 1, 0, 0), (.iload 4, 2, 0, 0), (.iload_n 3, 1, 0, 0)], (.invokestatic 100, 3, (27, 3, 200), [7])),
  (56, [(.dup2, 1, 0, 0), (.iaload, 1, 0, 0), (.iconst 1, 1, 0, 0), (.iload 5, 2, 0, 0), (.ishl, 1, 0, 0), (.iconst (-1), 1, 0, 0), (.ixor, 1, 0, 0), (.iand, 1, 0, 0), (.iastore, 1, 0, 0), (.aload_n 0, 1, 0, 0), (.getfield 21, 3, 3, 4), (.iload_n 3, 1, 0, 0), (.iload 5, 2, 0, 0), (.iload_n 2, 1, 0, 0)], (.invokestatic 100, 3, (27, 3, 200), [8])),
  (77, [(.dup2, 1, 0, 0), (.iaload, 1, 0, 0), (.iconst 1, 1, 0, 0), (.iload 4, 2, 0, 0), (.ishl, 1, 0, 0), (.iconst (-1), 1, 0, 0), (.ixor, 1, 0, 0), (.iand, 1, 0, 0), (.iastore, 1, 0, 0)], (.nop, 0, (0, 0, 0), [9])),
  (87, [(.iinc 5 1, 3, 0, 0)], (.goto (-72), 3, (0, 0, 0), [3])),
  (93, [(.iinc 4 1, 3, 0, 0)], (.goto (-93), 3, (0, 0, 0), [1])),
  (99, [], (.return_, 1, (0, 0, 0), []))])
def am_X3_keepRooms : ab_M := (5, [], [
  (0, [(.aload_n 0, 1, 0, 0), (.getfield 15, 3, 3, 2), (.iload_n 1, 1, 0, 0), (.iaload, 1, 0, 0), (.aload_n 0, 1, 0, 0), (.getfield 15, 3, 3, 2), (.iload_n 2, 1, 0, 0), (.iaload, 1, 0, 0)], (.if_icmp .ne 16, 3, (0, 0, 0), [3, 1])),
  (15, [(.aload_n 0, 1, 0, 0), (.getfield 15, 3, 3, 2), (.iload_n 1, 1, 0, 0), (.iaload, 1, 0, 0)], (.invokestatic 154, 3, (277, 1, 200), [2])),
  (24, [(.iconst 1, 1, 0, 0)], (.if_icmp .eq 4, 3, (0, 0, 0), [4, 3])),
  (28, [], (.return_, 1, (0, 0, 0), [])),
  (29, [(.iconst 0, 1, 0, 0), (.istore_n 3, 1, 0, 0)], (.nop, 0, (0, 0, 0), [5])),
  (31, [(.iload_n 3, 1, 0, 0), (.aload_n 0, 1, 0, 0), (.getfield 46, 3, 3, 0), (.getfield 94, 3, 6, 2)], (.if_icmp .ge 97, 3, (0, 0, 0), [14, 6])),
  (42, [(.iconst 0, 1, 0, 0), (.istore 4, 2, 0, 0)], (.nop, 0, (0, 0, 0), [7])),
  (45, [(.iload 4, 2, 0, 0), (.aload_n 0, 1, 0, 0), (.getfield 46, 3, 3, 0), (.getfield 94, 3, 6, 2)], (.if_icmp .ge 76, 3, (0, 0, 0), [13, 8])),
  (57, [(.aload_n 0, 1, 0, 0), (.getfield 27, 3, 3, 6), (.iload_n 1, 1, 0, 0), (.bipush 6, 2, 0, 0), (.imul, 1, 0, 0), (.iload_n 3, 1, 0, 0), (.iadd, 1, 0, 0), (.iaload, 1, 0, 0), (.aload_n 0, 1, 0, 0), (.getfield 27, 3, 3, 6), (.iload_n 2, 1, 0, 0), (.bipush 6, 2, 0, 0), (.imul, 1, 0, 0), (.iload 4, 2, 0, 0), (.iadd, 1, 0, 0), (.iaload, 1, 0, 0), (.iand, 1, 0, 0)], (.ifCond .eq 43, 3, (0, 0, 0), [12, 9])),
  (84, [(.aload_n 0, 1, 0, 0), (.getfield 21, 3, 3, 4), (.iload_n 1, 1, 0, 0), (.iload_n 3, 1, 0, 0), (.iload_n 2, 1, 0, 0)], (.invokestatic 100, 3, (27, 3, 200), [10])),
  (94, [(.dup2, 1, 0, 0), (.iaload, 1, 0, 0), (.iconst 1, 1, 0, 0), (.iload 4, 2, 0, 0), (.ishl, 1, 0, 0), (.iconst (-1), 1, 0, 0), (.ixor, 1, 0, 0), (.iand, 1, 0, 0), (.iastore, 1, 0, 0), (.aload_n 0, 1, 0, 0), (.getfield 21, 3, 3, 4), (.iload_n 2, 1, 0, 0), (.iload 4, 2, 0, 0), (.iload_n 1, 1, 0, 0)], (.invokestatic 100, 3, (27, 3, 200), [11])),
  (115, [(.dup2, 1, 0, 0), (.iaload, 1, 0, 0), (.iconst 1, 1, 0, 0), (.iload_n 3, 1, 0, 0), (.ishl, 1, 0, 0), (.iconst (-1), 1, 0, 0), (.ixor, 1, 0, 0), (.iand, 1, 0, 0), (.iastore, 1, 0, 0)], (.nop, 0, (0, 0, 0), [12])),
  (124, [(.iinc 4 1, 3, 0, 0)], (.goto (-82), 3, (0, 0, 0), [7])),
  (130, [(.iinc 3 1, 3, 0, 0)], (.goto (-102), 3, (0, 0, 0), [5])),
  (136, [], (.return_, 1, (0, 0, 0), []))])
def am_X3_dropLonelyStarts : ab_M := (4, [], [
  (0, [(.iconst 0, 1, 0, 0), (.istore_n 1, 1, 0, 0), (.iconst 0, 1, 0, 0), (.istore_n 2, 1, 0, 0)], (.nop, 0, (0, 0, 0), [1])),
  (4, [(.iload_n 2, 1, 0, 0), (.aload_n 0, 1, 0, 0), (.getfield 46, 3, 3, 0), (.getfield 70, 3, 6, 6)], (.if_icmp .ge 66, 3, (0, 0, 0), [10, 2])),
  (15, [(.iconst 0, 1, 0, 0), (.istore_n 3, 1, 0, 0)], (.nop, 0, (0, 0, 0), [3])),
  (17, [(.iload_n 3, 1, 0, 0), (.aload_n 0, 1, 0, 0), (.getfield 46, 3, 3, 0), (.getfield 94, 3, 6, 2)], (.if_icmp .ge 47, 3, (0, 0, 0), [9, 4])),
  (28, [(.aload_n 0, 1, 0, 0), (.getfield 9, 3, 3, 1), (.iload_n 2, 1, 0, 0), (.iaload, 1, 0, 0), (.iload_n 3, 1, 0, 0), (.ishr, 1, 0, 0), (.iconst 1, 1, 0, 0), (.iand, 1, 0, 0)], (.ifCond .eq 28, 3, (0, 0, 0), [8, 5])),
  (41, [(.aload_n 0, 1, 0, 0), (.iload_n 2, 1, 0, 0), (.iload_n 3, 1, 0, 0)], (.invokevirtual 160, 3, (36, 3, 3), [6])),
  (47, [], (.ifCond .eq 19, 3, (0, 0, 0), [8, 7])),
  (50, [(.aload_n 0, 1, 0, 0), (.getfield 9, 3, 3, 1), (.iload_n 2, 1, 0, 0), (.dup2, 1, 0, 0), (.iaload, 1, 0, 0), (.iconst 1, 1, 0, 0), (.iload_n 3, 1, 0, 0), (.ishl, 1, 0, 0), (.iconst (-1), 1, 0, 0), (.ixor, 1, 0, 0), (.iand, 1, 0, 0), (.iastore, 1, 0, 0), (.iconst 1, 1, 0, 0), (.istore_n 1, 1, 0, 0)], (.nop, 0, (0, 0, 0), [8])),
  (66, [(.iinc 3 1, 3, 0, 0)], (.goto (-52), 3, (0, 0, 0), [3])),
  (72, [(.iinc 2 1, 3, 0, 0)], (.goto (-71), 3, (0, 0, 0), [1])),
  (78, [(.iload_n 1, 1, 0, 0)], (.ireturn, 1, (1, 0, 0), []))])
def am_X3_isLonelyStart : ab_M := (4, [], [
  (0, [(.iconst 0, 1, 0, 0), (.istore_n 3, 1, 0, 0)], (.nop, 0, (0, 0, 0), [1])),
  (2, [(.iload_n 3, 1, 0, 0), (.aload_n 0, 1, 0, 0), (.getfield 46, 3, 3, 0), (.getfield 70, 3, 6, 6)], (.if_icmp .ge 37, 3, (0, 0, 0), [7, 2])),
  (13, [(.iload_n 3, 1, 0, 0), (.iload_n 1, 1, 0, 0)], (.if_icmp .eq 26, 3, (0, 0, 0), [6, 3])),
  (18, [(.aload_n 0, 1, 0, 0), (.getfield 21, 3, 3, 4), (.iload_n 1, 1, 0, 0), (.iload_n 2, 1, 0, 0), (.iload_n 3, 1, 0, 0)], (.invokestatic 100, 3, (27, 3, 200), [4])),
  (28, [(.iaload, 1, 0, 0), (.aload_n 0, 1, 0, 0), (.getfield 9, 3, 3, 1), (.iload_n 3, 1, 0, 0), (.iaload, 1, 0, 0), (.iand, 1, 0, 0)], (.ifCond .ne 5, 3, (0, 0, 0), [6, 5])),
  (39, [(.iconst 1, 1, 0, 0)], (.ireturn, 1, (1, 0, 0), [])),
  (41, [(.iinc 3 1, 3, 0, 0)], (.goto (-42), 3, (0, 0, 0), [1])),
  (47, [(.iconst 0, 1, 0, 0)], (.ireturn, 1, (1, 0, 0), []))])
def am_X3_barLesson : ab_M := (4, [], [
  (0, [(.iconst 0, 1, 0, 0), (.istore_n 3, 1, 0, 0)], (.nop, 0, (0, 0, 0), [1])),
  (2, [(.iload_n 3, 1, 0, 0), (.aload_n 0, 1, 0, 0), (.getfield 46, 3, 3, 0), (.getfield 94, 3, 6, 2)], (.if_icmp .ge 39, 3, (0, 0, 0), [5, 2])),
  (13, [(.aload_n 0, 1, 0, 0), (.getfield 27, 3, 3, 6), (.iload_n 1, 1, 0, 0), (.bipush 6, 2, 0, 0), (.imul, 1, 0, 0), (.iload_n 3, 1, 0, 0), (.iadd, 1, 0, 0), (.iaload, 1, 0, 0), (.iload_n 2, 1, 0, 0), (.iand, 1, 0, 0)], (.ifCond .eq 17, 3, (0, 0, 0), [4, 3])),
  (29, [(.aload_n 0, 1, 0, 0), (.getfield 9, 3, 3, 1), (.iload_n 1, 1, 0, 0), (.dup2, 1, 0, 0), (.iaload, 1, 0, 0), (.iconst 1, 1, 0, 0), (.iload_n 3, 1, 0, 0), (.ishl, 1, 0, 0), (.iconst (-1), 1, 0, 0), (.ixor, 1, 0, 0), (.iand, 1, 0, 0), (.iastore, 1, 0, 0)], (.nop, 0, (0, 0, 0), [4])),
  (43, [(.iinc 3 1, 3, 0, 0)], (.goto (-44), 3, (0, 0, 0), [1])),
  (49, [], (.return_, 1, (0, 0, 0), []))])
def am_X3_barTeacher : ab_M := (4, [], [
  (0, [(.iconst 0, 1, 0, 0), (.istore_n 3, 1, 0, 0)], (.nop, 0, (0, 0, 0), [1])),
  (2, [(.iload_n 3, 1, 0, 0), (.aload_n 0, 1, 0, 0), (.getfield 46, 3, 3, 0), (.getfield 70, 3, 6, 6)], (.if_icmp .ge 28, 3, (0, 0, 0), [5, 2])),
  (13, [(.aload_n 0, 1, 0, 0), (.getfield 46, 3, 3, 0), (.getfield 163, 3, 6, 13), (.iload_n 3, 1, 0, 0), (.iaload, 1, 0, 0), (.iload_n 1, 1, 0, 0)], (.if_icmp .ne 9, 3, (0, 0, 0), [4, 3])),
  (26, [(.aload_n 0, 1, 0, 0), (.iload_n 3, 1, 0, 0), (.iload_n 2, 1, 0, 0)], (.invokevirtual 135, 3, (37, 3, 3), [4])),
  (32, [(.iinc 3 1, 3, 0, 0)], (.goto (-33), 3, (0, 0, 0), [1])),
  (38, [], (.return_, 1, (0, 0, 0), []))])
def am_X3_allow : ab_M := (4, [], [
  (0, [(.aload_n 0, 1, 0, 0), (.getfield 9, 3, 3, 1), (.iload_n 1, 1, 0, 0), (.iload_n 2, 1, 0, 0), (.iastore, 1, 0, 0), (.aload_n 0, 1, 0, 0), (.getfield 15, 3, 3, 2), (.iload_n 1, 1, 0, 0), (.iload_n 3, 1, 0, 0), (.iastore, 1, 0, 0), (.aload_n 0, 1, 0, 0), (.iload_n 1, 1, 0, 0)], (.invokevirtual 166, 3, (43, 2, 3), [1])),
  (19, [], (.return_, 1, (0, 0, 0), []))])
def am_X3_costWeights : ab_M := (4, [], [
  (0, [(.aload_n 0, 1, 0, 0), (.iconst 1, 1, 0, 0), (.putfield 40, 3, 3, 10), (.iconst 0, 1, 0, 0), (.istore_n 1, 1, 0, 0)], (.nop, 0, (0, 0, 0), [1])),
  (7, [(.iload_n 1, 1, 0, 0), (.aload_n 0, 1, 0, 0), (.getfield 46, 3, 3, 0), (.getfield 70, 3, 6, 6)], (.if_icmp .ge 73, 3, (0, 0, 0), [12, 2])),
  (18, [(.iconst 0, 1, 0, 0), (.istore_n 2, 1, 0, 0)], (.nop, 0, (0, 0, 0), [3])),
  (20, [(.iload_n 2, 1, 0, 0), (.aload_n 0, 1, 0, 0), (.getfield 46, 3, 3, 0), (.getfield 94, 3, 6, 2)], (.if_icmp .ge 49, 3, (0, 0, 0), [10, 4])),
  (31, [(.iconst 0, 1, 0, 0), (.istore_n 3, 1, 0, 0)], (.nop, 0, (0, 0, 0), [5])),
  (33, [(.iload_n 3, 1, 0, 0), (.aload_n 0, 1, 0, 0), (.getfield 46, 3, 3, 0), (.getfield 120, 3, 6, 5)], (.if_icmp .ge 30, 3, (0, 0, 0), [9, 6])),
  (44, [(.aload_n 0, 1, 0, 0), (.getfield 30, 3, 3, 7), (.iload_n 1, 1, 0, 0), (.iload_n 2, 1, 0, 0), (.iload_n 3, 1, 0, 0)], (.invokestatic 169, 3, (28, 3, 200), [7])),
  (54, [(.aload_n 0, 1, 0, 0), (.getfield 46, 3, 3, 0), (.iload_n 1, 1, 0, 0), (.iload_n 2, 1, 0, 0), (.iload_n 3, 1, 0, 0)], (.invokevirtual 172, 3, (68, 4, 6), [8])),
  (64, [(.iastore, 1, 0, 0), (.iinc 3 1, 3, 0, 0)], (.goto (-35), 3, (0, 0, 0), [5])),
  (71, [(.iinc 2 1, 3, 0, 0)], (.goto (-54), 3, (0, 0, 0), [3])),
  (77, [(.aload_n 0, 1, 0, 0), (.iload_n 1, 1, 0, 0)], (.invokevirtual 166, 3, (43, 2, 3), [11])),
  (82, [(.iinc 1 1, 3, 0, 0)], (.goto (-78), 3, (0, 0, 0), [1])),
  (88, [], (.return_, 1, (0, 0, 0), []))])
def am_X3_costChanges : ab_M := (6, [], [
  (0, [(.aload_n 0, 1, 0, 0), (.iconst 2, 1, 0, 0), (.putfield 40, 3, 3, 10), (.iconst 0, 1, 0, 0), (.istore_n 2, 1, 0, 0)], (.nop, 0, (0, 0, 0), [1])),
  (7, [(.iload_n 2, 1, 0, 0), (.aload_n 0, 1, 0, 0), (.getfield 46, 3, 3, 0), (.getfield 70, 3, 6, 6)], (.if_icmp .ge 104, 3, (0, 0, 0), [18, 2])),
  (18, [(.iconst 0, 1, 0, 0), (.istore_n 3, 1, 0, 0)], (.nop, 0, (0, 0, 0), [3])),
  (20, [(.iload_n 3, 1, 0, 0), (.aload_n 0, 1, 0, 0), (.getfield 46, 3, 3, 0), (.getfield 94, 3, 6, 2)], (.if_icmp .ge 80, 3, (0, 0, 0), [16, 4])),
  (31, [(.iconst 0, 1, 0, 0), (.istore 4, 2, 0, 0)], (.nop, 0, (0, 0, 0), [5])),
  (34, [(.iload 4, 2, 0, 0), (.aload_n 0, 1, 0, 0), (.getfield 46, 3, 3, 0), (.getfield 120, 3, 6, 5)], (.if_icmp .ge 59, 3, (0, 0, 0), [15, 6])),
  (46, [(.iload_n 3, 1, 0, 0), (.aload_n 1, 1, 0, 0), (.getfield 175, 3, 9, 2), (.iload_n 2, 1, 0, 0), (.iaload, 1, 0, 0)], (.if_icmp .ne 18, 3, (0, 0, 0), [9, 7])),
  (56, [(.iload 4, 2, 0, 0), (.aload_n 1, 1, 0, 0), (.getfield 180, 3, 9, 3), (.iload_n 2, 1, 0, 0), (.iaload, 1, 0, 0)], (.if_icmp .ne 7, 3, (0, 0, 0), [9, 8])),
  (67, [(.iconst 1, 1, 0, 0)], (.goto 4, 3, (0, 0, 0), [10])),
  (71, [(.iconst 0, 1, 0, 0)], (.nop, 0, (0, 0, 0), [10])),
  (72, [(.istore 5, 2, 0, 0), (.aload_n 0, 1, 0, 0), (.getfield 30, 3, 3, 7), (.iload_n 2, 1, 0, 0), (.iload_n 3, 1, 0, 0), (.iload 4, 2, 0, 0)], (.invokestatic 169, 3, (28, 3, 200), [11])),
  (85, [(.iload 5, 2, 0, 0)], (.ifCond .eq 7, 3, (0, 0, 0), [13, 12])),
  (90, [(.iconst 0, 1, 0, 0)], (.goto 4, 3, (0, 0, 0), [14])),
  (94, [(.iconst 1, 1, 0, 0)], (.nop, 0, (0, 0, 0), [14])),
  (95, [(.iastore, 1, 0, 0), (.iinc 4 1, 3, 0, 0)], (.goto (-65), 3, (0, 0, 0), [5])),
  (102, [(.iinc 3 1, 3, 0, 0)], (.goto (-85), 3, (0, 0, 0), [3])),
  (108, [(.aload_n 0, 1, 0, 0), (.iload_n 2, 1, 0, 0)], (.invokevirtual 166, 3, (43, 2, 3), [17])),
  (113, [(.iinc 2 1, 3, 0, 0)], (.goto (-109), 3, (0, 0, 0), [1])),
  (119, [], (.return_, 1, (0, 0, 0), []))])
def am_X3_costShares : ab_M := (1, [], [
  (0, [(.aload_n 0, 1, 0, 0), (.iconst 3, 1, 0, 0), (.putfield 40, 3, 3, 10)], (.return_, 1, (0, 0, 0), []))])
def am_X3_price : ab_M := (5, [], [
  (0, [(.iconst 0, 1, 0, 0), (.istore_n 2, 1, 0, 0)], (.nop, 0, (0, 0, 0), [1])),
  (2, [(.iload_n 2, 1, 0, 0), (.aload_n 0, 1, 0, 0), (.getfield 46, 3, 3, 0), (.getfield 94, 3, 6, 2)], (.if_icmp .ge 86, 3, (0, 0, 0), [12, 2])),
  (13, [(.ldc 185, 2, 100000, 0), (.istore_n 3, 1, 0, 0), (.iconst 0, 1, 0, 0), (.istore 4, 2, 0, 0)], (.nop, 0, (0, 0, 0), [3])),
  (19, [(.iload 4, 2, 0, 0), (.aload_n 0, 1, 0, 0), (.getfield 46, 3, 3, 0), (.getfield 120, 3, 6, 5)], (.if_icmp .ge 40, 3, (0, 0, 0), [8, 4])),
  (31, [(.aload_n 0, 1, 0, 0), (.getfield 15, 3, 3, 2), (.iload_n 1, 1, 0, 0), (.iaload, 1, 0, 0), (.iload 4, 2, 0, 0), (.ishr, 1, 0, 0), (.iconst 1, 1, 0, 0), (.iand, 1, 0, 0)], (.ifCond .eq 20, 3, (0, 0, 0), [7, 5])),
  (45, [(.iload_n 3, 1, 0, 0), (.aload_n 0, 1, 0, 0), (.getfield 30, 3, 3, 7), (.iload_n 1, 1, 0, 0), (.iload_n 2, 1, 0, 0), (.iload 4, 2, 0, 0)], (.invokestatic 169, 3, (28, 3, 200), [6])),
  (57, [(.iaload, 1, 0, 0), (.invokestatic 138, 3, 2, 0), (.istore_n 3, 1, 0, 0)], (.nop, 0, (0, 0, 0), [7])),
  (62, [(.iinc 4 1, 3, 0, 0)], (.goto (-46), 3, (0, 0, 0), [3])),
  (68, [(.aload_n 0, 1, 0, 0), (.getfield 33, 3, 3, 8), (.iload_n 1, 1, 0, 0), (.bipush 6, 2, 0, 0), (.imul, 1, 0, 0), (.iload_n 2, 1, 0, 0), (.iadd, 1, 0, 0), (.iload_n 3, 1, 0, 0), (.ldc 185, 2, 100000, 0)], (.if_icmp .ne 7, 3, (0, 0, 0), [10, 9])),
  (84, [(.iconst 0, 1, 0, 0)], (.goto 4, 3, (0, 0, 0), [11])),
  (88, [(.iload_n 3, 1, 0, 0)], (.nop, 0, (0, 0, 0), [11])),
  (89, [(.iastore, 1, 0, 0), (.iinc 2 1, 3, 0, 0)], (.goto (-91), 3, (0, 0, 0), [1])),
  (96, [], (.return_, 1, (0, 0, 0), []))])
def am_X4_init : ab_M := (3, [], [
  (0, [(.aload_n 0, 1, 0, 0), (.invokespecial 1, 3, 0, 0), (.aload_n 0, 1, 0, 0), (.new 7, 3, 9, 0), (.dup, 1, 0, 0)], (.invokespecial 9, 3, (97, 1, 101), [1])),
  (12, [(.putfield 10, 3, 4, 2), (.aload_n 0, 1, 0, 0), (.new 7, 3, 9, 0), (.dup, 1, 0, 0)], (.invokespecial 9, 3, (97, 1, 101), [2])),
  (23, [(.putfield 16, 3, 4, 3), (.aload_n 0, 1, 0, 0), (.iconst 4, 1, 0, 0), (.newarray .int, 2, 0, 0), (.putfield 19, 3, 4, 4), (.aload_n 0, 1, 0, 0), (.iconst 0, 1, 0, 0), (.putfield 23, 3, 4, 5), (.aload_n 0, 1, 0, 0), (.aload_n 1, 1, 0, 0), (.putfield 27, 3, 4, 0), (.aload_n 0, 1, 0, 0), (.aload_n 2, 1, 0, 0), (.putfield 31, 3, 4, 1)], (.return_, 1, (0, 0, 0), []))])
def am_X4_moveOne : ab_M := (5, [], [
  (0, [(.aload_n 0, 1, 0, 0), (.getfield 31, 3, 4, 1), (.aload_n 1, 1, 0, 0)], (.invokevirtual 35, 3, (22, 2, 2), [1])),
  (8, [(.istore_n 2, 1, 0, 0), (.aload_n 0, 1, 0, 0), (.iload_n 2, 1, 0, 0), (.putfield 23, 3, 4, 5), (.aload_n 0, 1, 0, 0), (.getfield 16, 3, 4, 3), (.aload_n 1, 1, 0, 0)], (.invokevirtual 41, 3, (99, 2, 9), [2])),
  (22, [(.iconst 2, 1, 0, 0), (.istore_n 3, 1, 0, 0)], (.nop, 0, (0, 0, 0), [3])),
  (24, [(.iload_n 3, 1, 0, 0), (.iconst 4, 1, 0, 0)], (.if_icmp .gt 45, 3, (0, 0, 0), [9, 4])),
  (29, [(.iconst 0, 1, 0, 0), (.istore 4, 2, 0, 0)], (.nop, 0, (0, 0, 0), [5])),
  (32, [(.iload 4, 2, 0, 0), (.aload_n 0, 1, 0, 0), (.getfield 27, 3, 4, 0), (.getfield 45, 3, 6, 6)], (.if_icmp .ge 24, 3, (0, 0, 0), [8, 6])),
  (44, [(.aload_n 0, 1, 0, 0), (.getfield 19, 3, 4, 4), (.iconst 0, 1, 0, 0), (.iload 4, 2, 0, 0), (.iastore, 1, 0, 0), (.aload_n 0, 1, 0, 0), (.aload_n 1, 1, 0, 0), (.iconst 1, 1, 0, 0), (.iload_n 3, 1, 0, 0)], (.invokevirtual 50, 3, (46, 4, 4), [7])),
  (59, [(.iinc 4 1, 3, 0, 0)], (.goto (-30), 3, (0, 0, 0), [5])),
  (65, [(.iinc 3 1, 3, 0, 0)], (.goto (-44), 3, (0, 0, 0), [3])),
  (71, [(.aload_n 1, 1, 0, 0), (.aload_n 0, 1, 0, 0), (.getfield 16, 3, 4, 3)], (.invokevirtual 41, 3, (99, 2, 9), [10])),
  (79, [(.iload_n 2, 1, 0, 0), (.aload_n 0, 1, 0, 0), (.getfield 23, 3, 4, 5), (.isub, 1, 0, 0)], (.ireturn, 1, (0, 0, 0), []))])
def am_X4_extend : ab_M := (5, [], [
  (0, [(.iload_n 2, 1, 0, 0), (.iload_n 3, 1, 0, 0)], (.if_icmp .ge 8, 3, (0, 0, 0), [2, 1])),
  (5, [(.iload_n 2, 1, 0, 0), (.iconst 4, 1, 0, 0)], (.if_icmp .lt 10, 3, (0, 0, 0), [4, 2])),
  (10, [(.aload_n 0, 1, 0, 0), (.aload_n 1, 1, 0, 0), (.iload_n 2, 1, 0, 0)], (.invokevirtual 54, 3, (48, 3, 4), [3])),
  (16, [], (.return_, 1, (0, 0, 0), [])),
  (17, [(.aload_n 0, 1, 0, 0), (.getfield 19, 3, 4, 4), (.iconst 0, 1, 0, 0), (.iaload, 1, 0, 0), (.iconst 1, 1, 0, 0), (.iadd, 1, 0, 0), (.istore 4, 2, 0, 0)], (.nop, 0, (0, 0, 0), [5])),
  (27, [(.iload 4, 2, 0, 0), (.aload_n 0, 1, 0, 0), (.getfield 27, 3, 4, 0), (.getfield 45, 3, 6, 6)], (.if_icmp .ge 63, 3, (0, 0, 0), [11, 6])),
  (39, [(.aload_n 0, 1, 0, 0), (.getfield 27, 3, 4, 0), (.getfield 58, 3, 6, 14), (.iload 4, 2, 0, 0), (.iaload, 1, 0, 0), (.aload_n 0, 1, 0, 0), (.getfield 27, 3, 4, 0), (.getfield 58, 3, 6, 14), (.aload_n 0, 1, 0, 0), (.getfield 19, 3, 4, 4), (.iconst 0, 1, 0, 0), (.iaload, 1, 0, 0), (.iaload, 1, 0, 0)], (.if_icmp .ne 30, 3, (0, 0, 0), [10, 7])),
  (66, [(.aload_n 0, 1, 0, 0), (.iload 4, 2, 0, 0), (.iload_n 2, 1, 0, 0)], (.invokevirtual 61, 3, (47, 3, 4), [8])),
  (73, [], (.ifCond .ne 20, 3, (0, 0, 0), [10, 9])),
  (76, [(.aload_n 0, 1, 0, 0), (.getfield 19, 3, 4, 4), (.iload_n 2, 1, 0, 0), (.iload 4, 2, 0, 0), (.iastore, 1, 0, 0), (.aload_n 0, 1, 0, 0), (.aload_n 1, 1, 0, 0), (.iload_n 2, 1, 0, 0), (.iconst 1, 1, 0, 0), (.iadd, 1, 0, 0), (.iload_n 3, 1, 0, 0)], (.invokevirtual 50, 3, (46, 4, 4), [10])),
  (93, [(.iinc 4 1, 3, 0, 0)], (.goto (-69), 3, (0, 0, 0), [5])),
  (99, [], (.return_, 1, (0, 0, 0), []))])
def am_X4_isIn : ab_M := (4, [], [
  (0, [(.iconst 0, 1, 0, 0), (.istore_n 3, 1, 0, 0)], (.nop, 0, (0, 0, 0), [1])),
  (2, [(.iload_n 3, 1, 0, 0), (.iload_n 2, 1, 0, 0)], (.if_icmp .ge 21, 3, (0, 0, 0), [5, 2])),
  (7, [(.aload_n 0, 1, 0, 0), (.getfield 19, 3, 4, 4), (.iload_n 3, 1, 0, 0), (.iaload, 1, 0, 0), (.iload_n 1, 1, 0, 0)], (.if_icmp .ne 5, 3, (0, 0, 0), [4, 3])),
  (17, [(.iconst 1, 1, 0, 0)], (.ireturn, 1, (1, 0, 0), [])),
  (19, [(.iinc 3 1, 3, 0, 0)], (.goto (-20), 3, (0, 0, 0), [1])),
  (25, [(.iconst 0, 1, 0, 0)], (.ireturn, 1, (1, 0, 0), []))])
def am_X4_weigh : ab_M := (5, [], [
  (0, [(.aload_n 0, 1, 0, 0), (.getfield 10, 3, 4, 2), (.aload_n 1, 1, 0, 0)], (.invokevirtual 41, 3, (99, 2, 9), [1])),
  (8, [(.iconst 0, 1, 0, 0), (.istore_n 3, 1, 0, 0)], (.nop, 0, (0, 0, 0), [2])),
  (10, [(.iload_n 3, 1, 0, 0), (.iload_n 2, 1, 0, 0)], (.if_icmp .ge 72, 3, (0, 0, 0), [7, 3])),
  (15, [(.aload_n 0, 1, 0, 0), (.getfield 19, 3, 4, 4), (.iload_n 3, 1, 0, 0), (.iconst 1, 1, 0, 0), (.iadd, 1, 0, 0), (.iload_n 2, 1, 0, 0)], (.if_icmp .ge 9, 3, (0, 0, 0), [5, 4])),
  (26, [(.iload_n 3, 1, 0, 0), (.iconst 1, 1, 0, 0), (.iadd, 1, 0, 0)], (.goto 4, 3, (0, 0, 0), [6])),
  (32, [(.iconst 0, 1, 0, 0)], (.nop, 0, (0, 0, 0), [6])),
  (33, [(.iaload, 1, 0, 0), (.istore 4, 2, 0, 0), (.aload_n 0, 1, 0, 0), (.getfield 10, 3, 4, 2), (.getfield 65, 3, 9, 2), (.aload_n 0, 1, 0, 0), (.getfield 19, 3, 4, 4), (.iload_n 3, 1, 0, 0), (.iaload, 1, 0, 0), (.aload_n 1, 1, 0, 0), (.getfield 65, 3, 9, 2), (.iload 4, 2, 0, 0), (.iaload, 1, 0, 0), (.iastore, 1, 0, 0), (.aload_n 0, 1, 0, 0), (.getfield 10, 3, 4, 2), (.getfield 68, 3, 9, 3), (.aload_n 0, 1, 0, 0), (.getfield 19, 3, 4, 4), (.iload_n 3, 1, 0, 0), (.iaload, 1, 0, 0), (.aload_n 1, 1, 0, 0), (.getfield 68, 3, 9, 3), (.iload 4, 2, 0, 0), (.iaload, 1, 0, 0), (.iastore, 1, 0, 0), (.iinc 3 1, 3, 0, 0)], (.goto (-71), 3, (0, 0, 0), [2])),
  (84, [(.aload_n 0, 1, 0, 0), (.getfield 31, 3, 4, 1), (.aload_n 0, 1, 0, 0), (.getfield 10, 3, 4, 2)], (.invokevirtual 35, 3, (22, 2, 2), [8])),
  (95, [(.istore_n 3, 1, 0, 0), (.iload_n 3, 1, 0, 0), (.aload_n 0, 1, 0, 0), (.getfield 23, 3, 4, 5)], (.if_icmp .ge 47, 3, (0, 0, 0), [14, 9])),
  (104, [(.aload_n 0, 1, 0, 0), (.getfield 31, 3, 4, 1), (.aload_n 0, 1, 0, 0), (.getfield 10, 3, 4, 2)], (.invokevirtual 71, 3, (13, 2, 2), [10])),
  (115, [], (.ifCond .ne 33, 3, (0, 0, 0), [14, 11])),
  (118, [(.aload_n 0, 1, 0, 0), (.getfield 31, 3, 4, 1), (.aload_n 0, 1, 0, 0), (.getfield 10, 3, 4, 2)], (.invokevirtual 74, 3, (15, 2, 2), [12])),
  (129, [], (.ifCond .ne 19, 3, (0, 0, 0), [14, 13])),
  (132, [(.aload_n 0, 1, 0, 0), (.iload_n 3, 1, 0, 0), (.putfield 23, 3, 4, 5), (.aload_n 0, 1, 0, 0), (.getfield 16, 3, 4, 3), (.aload_n 0, 1, 0, 0), (.getfield 10, 3, 4, 2)], (.invokevirtual 41, 3, (99, 2, 9), [14])),
  (148, [], (.return_, 1, (0, 0, 0), []))])
def am_X5_init : ab_M := (5, [], [
  (0, [(.aload_n 0, 1, 0, 0), (.invokespecial 3, 3, 0, 0), (.aload_n 0, 1, 0, 0), (.sipush 252, 3, 0, 0), (.newarray .int, 2, 0, 0), (.putfield 11, 3, 5, 4), (.aload_n 0, 1, 0, 0), (.iconst 0, 1, 0, 0), (.putfield 15, 3, 5, 5), (.aload_n 0, 1, 0, 0), (.bipush 64, 2, 0, 0), (.newarray .int, 2, 0, 0), (.putfield 19, 3, 5, 6), (.aload_n 0, 1, 0, 0), (.iconst 0, 1, 0, 0), (.putfield 22, 3, 5, 7), (.aload_n 0, 1, 0, 0), (.iconst (-1), 1, 0, 0), (.putfield 25, 3, 5, 8), (.aload_n 0, 1, 0, 0), (.aload_n 1, 1, 0, 0), (.putfield 28, 3, 5, 0), (.aload_n 0, 1, 0, 0), (.aload_n 2, 1, 0, 0), (.putfield 32, 3, 5, 1), (.aload_n 0, 1, 0, 0), (.aload_n 3, 1, 0, 0), (.putfield 36, 3, 5, 2), (.aload_n 0, 1, 0, 0), (.aload 4, 2, 0, 0), (.putfield 40, 3, 5, 3)], (.return_, 1, (0, 0, 0), []))])
def am_X5_keepable : ab_M := (4, [], [
  (0, [(.aload_n 0, 1, 0, 0), (.getfield 36, 3, 5, 2), (.iload_n 1, 1, 0, 0)], (.invokevirtual 44, 3, (26, 2, 3), [1])),
  (8, [(.iload_n 2, 1, 0, 0), (.iconst (-1), 1, 0, 0)], (.if_icmp .eq 19, 3, (0, 0, 0), [4, 2])),
  (13, [(.aload_n 0, 1, 0, 0), (.getfield 36, 3, 5, 2), (.iload_n 2, 1, 0, 0), (.aload_n 0, 1, 0, 0), (.getfield 28, 3, 5, 0), (.iload_n 3, 1, 0, 0)], (.invokevirtual 50, 3, (60, 2, 6), [3])),
  (26, [], (.invokevirtual 56, 3, (38, 3, 3), [4])),
  (29, [(.aload_n 0, 1, 0, 0), (.getfield 40, 3, 5, 3), (.iconst 0, 1, 0, 0), (.iconst 0, 1, 0, 0)], (.invokevirtual 60, 3, (74, 3, 7), [5])),
  (38, [(.iconst (-1), 1, 0, 0)], (.if_icmp .eq 7, 3, (0, 0, 0), [7, 6])),
  (42, [(.iconst 1, 1, 0, 0)], (.goto 4, 3, (0, 0, 0), [8])),
  (46, [(.iconst 0, 1, 0, 0)], (.nop, 0, (0, 0, 0), [8])),
  (47, [], (.ireturn, 1, (1, 0, 0), []))])
def am_X5_stubborn : ab_M := (6, [], [
  (0, [(.aload_n 0, 1, 0, 0), (.getfield 28, 3, 5, 0)], (.invokevirtual 66, 3, (56, 1, 6), [1])),
  (7, [(.istore_n 3, 1, 0, 0), (.aload_n 0, 1, 0, 0), (.iload_n 3, 1, 0, 0), (.iload_n 1, 1, 0, 0), (.iload_n 2, 1, 0, 0)], (.invokevirtual 70, 3, (50, 4, 5), [2])),
  (15, [], (.ifCond .eq 5, 3, (0, 0, 0), [4, 3])),
  (18, [(.iconst (-1), 1, 0, 0)], (.ireturn, 1, (0, 0, 0), [])),
  (20, [(.aload_n 0, 1, 0, 0), (.getfield 28, 3, 5, 0), (.getfield 74, 3, 6, 7), (.iconst 1, 1, 0, 0), (.isub, 1, 0, 0), (.istore 4, 2, 0, 0)], (.nop, 0, (0, 0, 0), [5])),
  (31, [(.iload 4, 2, 0, 0)], (.ifCond .lt 33, 3, (0, 0, 0), [10, 6])),
  (36, [(.iload_n 3, 1, 0, 0), (.iconst 1, 1, 0, 0), (.iload 4, 2, 0, 0), (.ishl, 1, 0, 0), (.iconst (-1), 1, 0, 0), (.ixor, 1, 0, 0), (.iand, 1, 0, 0), (.istore 5, 2, 0, 0), (.aload_n 0, 1, 0, 0), (.iload 5, 2, 0, 0), (.iload_n 1, 1, 0, 0), (.iload_n 2, 1, 0, 0)], (.invokevirtual 70, 3, (50, 4, 5), [7])),
  (54, [], (.ifCond .ne 6, 3, (0, 0, 0), [9, 8])),
  (57, [(.iload 5, 2, 0, 0), (.istore_n 3, 1, 0, 0)], (.nop, 0, (0, 0, 0), [9])),
  (60, [(.iinc 4 (-1), 3, 0, 0)], (.goto (-32), 3, (0, 0, 0), [5])),
  (66, [(.iload_n 3, 1, 0, 0)], (.ireturn, 1, (0, 0, 0), []))])
def am_X5_refresh : ab_M := (4, [], [
  (0, [(.aload_n 0, 1, 0, 0), (.getfield 25, 3, 5, 8), (.aload_n 0, 1, 0, 0), (.getfield 28, 3, 5, 0), (.getfield 77, 3, 6, 8)], (.if_icmp .ne 4, 3, (0, 0, 0), [2, 1])),
  (14, [], (.return_, 1, (0, 0, 0), [])),
  (15, [(.aload_n 0, 1, 0, 0), (.aload_n 0, 1, 0, 0), (.getfield 28, 3, 5, 0), (.getfield 77, 3, 6, 8), (.putfield 25, 3, 5, 8), (.aload_n 0, 1, 0, 0), (.iconst 0, 1, 0, 0), (.putfield 15, 3, 5, 5), (.aload_n 0, 1, 0, 0), (.iconst 0, 1, 0, 0), (.putfield 22, 3, 5, 7), (.aload_n 0, 1, 0, 0), (.getfield 28, 3, 5, 0)], (.invokevirtual 66, 3, (56, 1, 6), [3])),
  (43, [(.istore_n 1, 1, 0, 0), (.aload_n 0, 1, 0, 0), (.iload_n 1, 1, 0, 0)], (.invokevirtual 80, 3, (53, 2, 5), [4])),
  (49, [], (.ifCond .eq 4, 3, (0, 0, 0), [6, 5])),
  (52, [], (.return_, 1, (0, 0, 0), [])),
  (53, [(.iconst 0, 1, 0, 0), (.istore_n 2, 1, 0, 0)], (.nop, 0, (0, 0, 0), [7])),
  (55, [(.iload_n 2, 1, 0, 0), (.aload_n 0, 1, 0, 0), (.getfield 28, 3, 5, 0), (.getfield 74, 3, 6, 7)], (.if_icmp .gt 75, 3, (0, 0, 0), [19, 8])),
  (66, [(.aload_n 0, 1, 0, 0), (.getfield 15, 3, 5, 5)], (.ifCond .ne 68, 3, (0, 0, 0), [19, 9])),
  (73, [(.iconst 0, 1, 0, 0), (.istore_n 3, 1, 0, 0)], (.nop, 0, (0, 0, 0), [10])),
  (75, [(.iload_n 3, 1, 0, 0), (.iload_n 1, 1, 0, 0)], (.if_icmp .gt 55, 3, (0, 0, 0), [18, 11])),
  (80, [(.iload_n 3, 1, 0, 0)], (.invokestatic 84, 3, (277, 1, 200), [12])),
  (84, [(.iload_n 2, 1, 0, 0)], (.if_icmp .ne 41, 3, (0, 0, 0), [17, 13])),
  (88, [(.aload_n 0, 1, 0, 0), (.getfield 15, 3, 5, 5), (.sipush 252, 3, 0, 0)], (.if_icmp .ge 31, 3, (0, 0, 0), [17, 14])),
  (98, [(.aload_n 0, 1, 0, 0), (.iload_n 3, 1, 0, 0)], (.invokevirtual 80, 3, (53, 2, 5), [15])),
  (103, [], (.ifCond .ne 23, 3, (0, 0, 0), [17, 16])),
  (106, [(.aload_n 0, 1, 0, 0), (.getfield 11, 3, 5, 4), (.aload_n 0, 1, 0, 0), (.getfield 15, 3, 5, 5), (.iload_n 3, 1, 0, 0), (.iastore, 1, 0, 0), (.aload_n 0, 1, 0, 0), (.dup, 1, 0, 0), (.getfield 15, 3, 5, 5), (.iconst 1, 1, 0, 0), (.iadd, 1, 0, 0), (.putfield 15, 3, 5, 5)], (.nop, 0, (0, 0, 0), [17])),
  (126, [(.iinc 3 1, 3, 0, 0)], (.goto (-54), 3, (0, 0, 0), [10])),
  (132, [(.iinc 2 1, 3, 0, 0)], (.goto (-80), 3, (0, 0, 0), [7])),
  (138, [], (.return_, 1, (0, 0, 0), []))])
def am_X5_isKept : ab_M := (3, [], [
  (0, [(.iconst 0, 1, 0, 0), (.istore_n 2, 1, 0, 0)], (.nop, 0, (0, 0, 0), [1])),
  (2, [(.iload_n 2, 1, 0, 0), (.aload_n 0, 1, 0, 0), (.getfield 22, 3, 5, 7)], (.if_icmp .ge 24, 3, (0, 0, 0), [5, 2])),
  (10, [(.iload_n 1, 1, 0, 0), (.aload_n 0, 1, 0, 0), (.getfield 19, 3, 5, 6), (.iload_n 2, 1, 0, 0), (.iaload, 1, 0, 0), (.iconst (-1), 1, 0, 0), (.ixor, 1, 0, 0), (.iand, 1, 0, 0)], (.ifCond .ne 5, 3, (0, 0, 0), [4, 3])),
  (23, [(.iconst 1, 1, 0, 0)], (.ireturn, 1, (1, 0, 0), [])),
  (25, [(.iinc 2 1, 3, 0, 0)], (.goto (-26), 3, (0, 0, 0), [1])),
  (31, [(.aload_n 0, 1, 0, 0), (.getfield 36, 3, 5, 2), (.iload_n 1, 1, 0, 0)], (.invokevirtual 44, 3, (26, 2, 3), [6])),
  (39, [(.aload_n 0, 1, 0, 0), (.getfield 40, 3, 5, 3), (.iconst 0, 1, 0, 0), (.iconst 0, 1, 0, 0)], (.invokevirtual 60, 3, (74, 3, 7), [7])),
  (48, [(.iconst (-1), 1, 0, 0)], (.if_icmp .ne 5, 3, (0, 0, 0), [9, 8])),
  (52, [(.iconst 0, 1, 0, 0)], (.ireturn, 1, (1, 0, 0), [])),
  (54, [(.aload_n 0, 1, 0, 0), (.getfield 22, 3, 5, 7), (.aload_n 0, 1, 0, 0), (.getfield 19, 3, 5, 6), (.arraylength, 1, 0, 0)], (.if_icmp .ge 46, 3, (0, 0, 0), [13, 10])),
  (66, [(.aload_n 0, 1, 0, 0), (.getfield 19, 3, 5, 6), (.aload_n 0, 1, 0, 0), (.getfield 22, 3, 5, 7), (.aload_n 0, 1, 0, 0), (.getfield 28, 3, 5, 0)], (.invokevirtual 66, 3, (56, 1, 6), [11])),
  (81, [(.aload_n 0, 1, 0, 0), (.getfield 32, 3, 5, 1), (.aload_n 0, 1, 0, 0), (.getfield 40, 3, 5, 3), (.getfield 89, 3, 7, 2)], (.invokevirtual 93, 3, (15, 2, 2), [12])),
  (95, [(.iconst (-1), 1, 0, 0), (.ixor, 1, 0, 0), (.iand, 1, 0, 0), (.iastore, 1, 0, 0), (.aload_n 0, 1, 0, 0), (.dup, 1, 0, 0), (.getfield 22, 3, 5, 7), (.iconst 1, 1, 0, 0), (.iadd, 1, 0, 0), (.putfield 22, 3, 5, 7)], (.nop, 0, (0, 0, 0), [13])),
  (109, [(.iconst 1, 1, 0, 0)], (.ireturn, 1, (1, 0, 0), []))])
def am_X6_init : ab_M := (1, [], [
  (0, [(.aload_n 0, 1, 0, 0), (.invokespecial 3, 3, 0, 0), (.aload_n 0, 1, 0, 0), (.iconst 2, 1, 0, 0), (.putfield 9, 3, 6, 0), (.aload_n 0, 1, 0, 0), (.iconst 3, 1, 0, 0), (.putfield 15, 3, 6, 1), (.aload_n 0, 1, 0, 0), (.bipush 6, 2, 0, 0), (.putfield 18, 3, 6, 2), (.aload_n 0, 1, 0, 0), (.iconst 0, 1, 0, 0), (.putfield 21, 3, 6, 3), (.aload_n 0, 1, 0, 0), (.iconst 0, 1, 0, 0), (.putfield 24, 3, 6, 4), (.aload_n 0, 1, 0, 0), (.iconst 0, 1, 0, 0), (.putfield 27, 3, 6, 5), (.aload_n 0, 1, 0, 0), (.iconst 0, 1, 0, 0), (.putfield 30, 3, 6, 6), (.aload_n 0, 1, 0, 0), (.iconst 0, 1, 0, 0), (.putfield 33, 3, 6, 7), (.aload_n 0, 1, 0, 0), (.iconst 0, 1, 0, 0), (.putfield 36, 3, 6, 8), (.aload_n 0, 1, 0, 0), (.iconst 4, 1, 0, 0), (.newarray .int, 2, 0, 0), (.putfield 39, 3, 6, 9), (.aload_n 0, 1, 0, 0), (.iconst 4, 1, 0, 0), (.newarray .int, 2, 0, 0), (.putfield 43, 3, 6, 10), (.aload_n 0, 1, 0, 0), (.iconst 3, 1, 0, 0), (.newarray .int, 2, 0, 0), (.putfield 46, 3, 6, 11), (.aload_n 0, 1, 0, 0), (.bipush 6, 2, 0, 0), (.newarray .int, 2, 0, 0), (.putfield 49, 3, 6, 12), (.aload_n 0, 1, 0, 0), (.bipush 6, 2, 0, 0), (.newarray .int, 2, 0, 0), (.putfield 52, 3, 6, 13), (.aload_n 0, 1, 0, 0), (.bipush 6, 2, 0, 0), (.newarray .int, 2, 0, 0), (.putfield 55, 3, 6, 14), (.aload_n 0, 1, 0, 0), (.bipush 10, 2, 0, 0), (.newarray .int, 2, 0, 0), (.putfield 58, 3, 6, 15), (.aload_n 0, 1, 0, 0), (.bipush 10, 2, 0, 0), (.newarray .int, 2, 0, 0), (.putfield 61, 3, 6, 16), (.aload_n 0, 1, 0, 0), (.bipush 10, 2, 0, 0), (.newarray .int, 2, 0, 0), (.putfield 64, 3, 6, 17), (.aload_n 0, 1, 0, 0), (.iconst 3, 1, 0, 0), (.newarray .int, 2, 0, 0), (.dup, 1, 0, 0), (.iconst 0, 1, 0, 0), (.iconst 1, 1, 0, 0), (.iastore, 1, 0, 0), (.dup, 1, 0, 0), (.iconst 1, 1, 0, 0), (.iconst 1, 1, 0, 0), (.iastore, 1, 0, 0), (.dup, 1, 0, 0), (.iconst 2, 1, 0, 0), (.iconst 1, 1, 0, 0), (.iastore, 1, 0, 0), (.putfield 67, 3, 6, 18)], (.return_, 1, (0, 0, 0), []))])
def am_X6_allSlots : ab_M := (1, [], [
  (0, [(.iconst 1, 1, 0, 0), (.aload_n 0, 1, 0, 0), (.getfield 18, 3, 6, 2), (.ishl, 1, 0, 0), (.iconst 1, 1, 0, 0), (.isub, 1, 0, 0)], (.ireturn, 1, (0, 0, 0), []))])
def am_X6_allRules : ab_M := (1, [], [
  (0, [(.iconst 1, 1, 0, 0), (.aload_n 0, 1, 0, 0), (.getfield 33, 3, 6, 7), (.ishl, 1, 0, 0), (.iconst 1, 1, 0, 0), (.isub, 1, 0, 0)], (.ireturn, 1, (0, 0, 0), []))])
def am_X6_areLessons : ab_M := (2, [], [
  (0, [(.iload_n 1, 1, 0, 0)], (.ifCond .lt 17, 3, (0, 0, 0), [3, 1])),
  (4, [(.iload_n 1, 1, 0, 0), (.iconst 1, 1, 0, 0), (.aload_n 0, 1, 0, 0), (.getfield 30, 3, 6, 6), (.ishl, 1, 0, 0)], (.if_icmp .ge 7, 3, (0, 0, 0), [3, 2])),
  (14, [(.iconst 1, 1, 0, 0)], (.goto 4, 3, (0, 0, 0), [4])),
  (18, [(.iconst 0, 1, 0, 0)], (.nop, 0, (0, 0, 0), [4])),
  (19, [], (.ireturn, 1, (1, 0, 0), []))])
def am_X6_dayOf : ab_M := (2, [], [
  (0, [(.iload_n 1, 1, 0, 0), (.aload_n 0, 1, 0, 0), (.getfield 15, 3, 6, 1)], (.if_icmp .ge 7, 3, (0, 0, 0), [2, 1])),
  (8, [(.iconst 0, 1, 0, 0)], (.goto 4, 3, (0, 0, 0), [3])),
  (12, [(.iconst 1, 1, 0, 0)], (.nop, 0, (0, 0, 0), [3])),
  (13, [], (.ireturn, 1, (0, 0, 0), []))])
def am_X6_hourOf : ab_M := (2, [], [
  (0, [(.iload_n 1, 1, 0, 0), (.aload_n 0, 1, 0, 0), (.getfield 15, 3, 6, 1)], (.if_icmp .ge 7, 3, (0, 0, 0), [2, 1])),
  (8, [(.iload_n 1, 1, 0, 0)], (.goto 9, 3, (0, 0, 0), [3])),
  (12, [(.iload_n 1, 1, 0, 0), (.aload_n 0, 1, 0, 0), (.getfield 15, 3, 6, 1), (.isub, 1, 0, 0)], (.nop, 0, (0, 0, 0), [3])),
  (18, [], (.ireturn, 1, (0, 0, 0), []))])
def am_X6_dayMask : ab_M := (2, [], [
  (0, [(.iconst 1, 1, 0, 0), (.aload_n 0, 1, 0, 0), (.getfield 15, 3, 6, 1), (.ishl, 1, 0, 0), (.iconst 1, 1, 0, 0), (.isub, 1, 0, 0), (.iload_n 1, 1, 0, 0), (.aload_n 0, 1, 0, 0), (.getfield 15, 3, 6, 1), (.imul, 1, 0, 0), (.ishl, 1, 0, 0)], (.ireturn, 1, (0, 0, 0), []))])
def am_X6_lastHours : ab_M := (3, [], [
  (0, [(.iconst 0, 1, 0, 0), (.istore_n 1, 1, 0, 0), (.iconst 0, 1, 0, 0), (.istore_n 2, 1, 0, 0)], (.nop, 0, (0, 0, 0), [1])),
  (4, [(.iload_n 2, 1, 0, 0), (.aload_n 0, 1, 0, 0), (.getfield 9, 3, 6, 0)], (.if_icmp .ge 27, 3, (0, 0, 0), [3, 2])),
  (12, [(.iload_n 1, 1, 0, 0), (.iconst 1, 1, 0, 0), (.iload_n 2, 1, 0, 0), (.aload_n 0, 1, 0, 0), (.getfield 15, 3, 6, 1), (.imul, 1, 0, 0), (.aload_n 0, 1, 0, 0), (.getfield 15, 3, 6, 1), (.iadd, 1, 0, 0), (.iconst 1, 1, 0, 0), (.isub, 1, 0, 0), (.ishl, 1, 0, 0), (.ior, 1, 0, 0), (.istore_n 1, 1, 0, 0), (.iinc 2 1, 3, 0, 0)], (.goto (-29), 3, (0, 0, 0), [1])),
  (36, [(.iload_n 1, 1, 0, 0)], (.ireturn, 1, (0, 0, 0), []))])
def am_X6_lastSlot : ab_M := (3, [], [
  (0, [(.aload_n 0, 1, 0, 0), (.getfield 55, 3, 6, 14), (.iload_n 1, 1, 0, 0), (.iaload, 1, 0, 0), (.iconst 2, 1, 0, 0)], (.if_icmp .ne 19, 3, (0, 0, 0), [3, 1])),
  (10, [(.iload_n 2, 1, 0, 0), (.iconst 1, 1, 0, 0), (.iadd, 1, 0, 0), (.aload_n 0, 1, 0, 0), (.getfield 18, 3, 6, 2)], (.if_icmp .ge 9, 3, (0, 0, 0), [3, 2])),
  (20, [(.iload_n 2, 1, 0, 0), (.iconst 1, 1, 0, 0), (.iadd, 1, 0, 0)], (.goto 4, 3, (0, 0, 0), [4])),
  (26, [(.iload_n 2, 1, 0, 0)], (.nop, 0, (0, 0, 0), [4])),
  (27, [], (.ireturn, 1, (0, 0, 0), []))])
def am_X6_cover : ab_M := (4, [], [
  (0, [(.aload_n 0, 1, 0, 0), (.getfield 55, 3, 6, 14), (.iload_n 1, 1, 0, 0), (.iaload, 1, 0, 0), (.iconst 2, 1, 0, 0)], (.if_icmp .ne 17, 3, (0, 0, 0), [3, 1])),
  (10, [(.iload_n 2, 1, 0, 0), (.iconst 1, 1, 0, 0), (.iadd, 1, 0, 0), (.aload_n 0, 1, 0, 0), (.getfield 18, 3, 6, 2)], (.if_icmp .ge 7, 3, (0, 0, 0), [3, 2])),
  (20, [(.iconst 3, 1, 0, 0)], (.goto 4, 3, (0, 0, 0), [4])),
  (24, [(.iconst 1, 1, 0, 0)], (.nop, 0, (0, 0, 0), [4])),
  (25, [(.istore_n 3, 1, 0, 0), (.iload_n 3, 1, 0, 0), (.iload_n 2, 1, 0, 0), (.ishl, 1, 0, 0)], (.ireturn, 1, (0, 0, 0), []))])
def am_X6_staysInDay : ab_M := (3, [], [
  (0, [(.aload_n 0, 1, 0, 0), (.getfield 55, 3, 6, 14), (.iload_n 1, 1, 0, 0), (.iaload, 1, 0, 0), (.iconst 1, 1, 0, 0)], (.if_icmp .eq 17, 3, (0, 0, 0), [3, 1])),
  (10, [(.aload_n 0, 1, 0, 0), (.iload_n 2, 1, 0, 0)], (.invokevirtual 70, 3, (59, 2, 6), [2])),
  (15, [(.iconst 1, 1, 0, 0), (.iadd, 1, 0, 0), (.aload_n 0, 1, 0, 0), (.getfield 15, 3, 6, 1)], (.if_icmp .ge 7, 3, (0, 0, 0), [4, 3])),
  (24, [(.iconst 1, 1, 0, 0)], (.goto 4, 3, (0, 0, 0), [5])),
  (28, [(.iconst 0, 1, 0, 0)], (.nop, 0, (0, 0, 0), [5])),
  (29, [], (.ireturn, 1, (1, 0, 0), []))])
def am_X6_hasSeats : ab_M := (3, [], [
  (0, [(.aload_n 0, 1, 0, 0), (.getfield 46, 3, 6, 11), (.iload_n 2, 1, 0, 0), (.iaload, 1, 0, 0), (.aload_n 0, 1, 0, 0), (.getfield 39, 3, 6, 9), (.aload_n 0, 1, 0, 0), (.getfield 49, 3, 6, 12), (.iload_n 1, 1, 0, 0), (.iaload, 1, 0, 0), (.iaload, 1, 0, 0)], (.if_icmp .lt 7, 3, (0, 0, 0), [2, 1])),
  (20, [(.iconst 1, 1, 0, 0)], (.goto 4, 3, (0, 0, 0), [3])),
  (24, [(.iconst 0, 1, 0, 0)], (.nop, 0, (0, 0, 0), [3])),
  (25, [], (.ireturn, 1, (1, 0, 0), []))])
def am_X6_shareClass : ab_M := (3, [], [
  (0, [(.aload_n 0, 1, 0, 0), (.getfield 49, 3, 6, 12), (.iload_n 1, 1, 0, 0), (.iaload, 1, 0, 0), (.aload_n 0, 1, 0, 0), (.getfield 49, 3, 6, 12), (.iload_n 2, 1, 0, 0), (.iaload, 1, 0, 0)], (.if_icmp .ne 7, 3, (0, 0, 0), [2, 1])),
  (15, [(.iconst 1, 1, 0, 0)], (.goto 4, 3, (0, 0, 0), [3])),
  (19, [(.iconst 0, 1, 0, 0)], (.nop, 0, (0, 0, 0), [3])),
  (20, [], (.ireturn, 1, (1, 0, 0), []))])
def am_X6_shareTeacher : ab_M := (3, [], [
  (0, [(.aload_n 0, 1, 0, 0), (.getfield 52, 3, 6, 13), (.iload_n 1, 1, 0, 0), (.iaload, 1, 0, 0), (.aload_n 0, 1, 0, 0), (.getfield 52, 3, 6, 13), (.iload_n 2, 1, 0, 0), (.iaload, 1, 0, 0)], (.if_icmp .ne 7, 3, (0, 0, 0), [2, 1])),
  (15, [(.iconst 1, 1, 0, 0)], (.goto 4, 3, (0, 0, 0), [3])),
  (19, [(.iconst 0, 1, 0, 0)], (.nop, 0, (0, 0, 0), [3])),
  (20, [], (.ireturn, 1, (1, 0, 0), []))])
def am_X6_weightOfValue : ab_M := (6, [], [
  (0, [(.aload_n 0, 1, 0, 0), (.getfield 43, 3, 6, 10), (.aload_n 0, 1, 0, 0), (.getfield 49, 3, 6, 12), (.iload_n 1, 1, 0, 0), (.iaload, 1, 0, 0), (.iaload, 1, 0, 0), (.istore 4, 2, 0, 0), (.iload 4, 2, 0, 0), (.iconst (-1), 1, 0, 0)], (.if_icmp .eq 13, 3, (0, 0, 0), [3, 1])),
  (19, [(.iload 4, 2, 0, 0), (.iload_n 3, 1, 0, 0)], (.if_icmp .eq 7, 3, (0, 0, 0), [3, 2])),
  (25, [(.iconst 1, 1, 0, 0)], (.goto 4, 3, (0, 0, 0), [4])),
  (29, [(.iconst 0, 1, 0, 0)], (.nop, 0, (0, 0, 0), [4])),
  (30, [(.istore 5, 2, 0, 0), (.aload_n 0, 1, 0, 0), (.getfield 67, 3, 6, 18), (.iconst 0, 1, 0, 0), (.iaload, 1, 0, 0), (.aload_n 0, 1, 0, 0), (.aload_n 0, 1, 0, 0), (.iload_n 1, 1, 0, 0), (.iload_n 2, 1, 0, 0)], (.invokevirtual 74, 3, (62, 3, 6), [5])),
  (45, [], (.invokevirtual 70, 3, (59, 2, 6), [6])),
  (48, [(.imul, 1, 0, 0), (.iload 5, 2, 0, 0)], (.ifCond .eq 12, 3, (0, 0, 0), [8, 7])),
  (54, [(.aload_n 0, 1, 0, 0), (.getfield 67, 3, 6, 18), (.iconst 1, 1, 0, 0), (.iaload, 1, 0, 0)], (.goto 4, 3, (0, 0, 0), [9])),
  (63, [(.iconst 0, 1, 0, 0)], (.nop, 0, (0, 0, 0), [9])),
  (64, [(.iadd, 1, 0, 0)], (.ireturn, 1, (0, 0, 0), []))])
def am_X6_hasRuleWithSlot : ab_M := (2, [], [
  (0, [(.iconst 0, 1, 0, 0), (.istore_n 1, 1, 0, 0)], (.nop, 0, (0, 0, 0), [1])),
  (2, [(.iload_n 1, 1, 0, 0), (.aload_n 0, 1, 0, 0), (.getfield 33, 3, 6, 7)], (.if_icmp .ge 31, 3, (0, 0, 0), [6, 2])),
  (10, [(.aload_n 0, 1, 0, 0), (.getfield 58, 3, 6, 15), (.iload_n 1, 1, 0, 0), (.iaload, 1, 0, 0)], (.ifCond .eq 14, 3, (0, 0, 0), [4, 3])),
  (19, [(.aload_n 0, 1, 0, 0), (.getfield 58, 3, 6, 15), (.iload_n 1, 1, 0, 0), (.iaload, 1, 0, 0), (.bipush 7, 2, 0, 0)], (.if_icmp .ne 5, 3, (0, 0, 0), [5, 4])),
  (30, [(.iconst 1, 1, 0, 0)], (.ireturn, 1, (1, 0, 0), [])),
  (32, [(.iinc 1 1, 3, 0, 0)], (.goto (-33), 3, (0, 0, 0), [1])),
  (38, [(.iconst 0, 1, 0, 0)], (.ireturn, 1, (1, 0, 0), []))])
def am_X6_canBeRule : ab_M := (4, [], [
  (0, [(.iload_n 1, 1, 0, 0)], (.ifCond .lt 17, 3, (0, 0, 0), [4, 1])),
  (4, [(.iload_n 1, 1, 0, 0), (.bipush 7, 2, 0, 0)], (.if_icmp .gt 11, 3, (0, 0, 0), [4, 2])),
  (10, [(.iload_n 2, 1, 0, 0)], (.ifCond .lt 7, 3, (0, 0, 0), [4, 3])),
  (14, [(.iload_n 3, 1, 0, 0)], (.ifCond .ge 5, 3, (0, 0, 0), [5, 4])),
  (18, [(.iconst 0, 1, 0, 0)], (.ireturn, 1, (1, 0, 0), [])),
  (20, [(.iload_n 2, 1, 0, 0), (.iload_n 1, 1, 0, 0), (.iconst 1, 1, 0, 0)], (.if_icmp .eq 9, 3, (0, 0, 0), [7, 6])),
  (26, [(.iload_n 1, 1, 0, 0), (.bipush 7, 2, 0, 0)], (.if_icmp .ne 10, 3, (0, 0, 0), [8, 7])),
  (32, [(.aload_n 0, 1, 0, 0), (.getfield 24, 3, 6, 4)], (.goto 7, 3, (0, 0, 0), [9])),
  (39, [(.aload_n 0, 1, 0, 0), (.getfield 30, 3, 6, 6)], (.nop, 0, (0, 0, 0), [9])),
  (43, [], (.if_icmp .lt 5, 3, (0, 0, 0), [11, 10])),
  (46, [(.iconst 0, 1, 0, 0)], (.ireturn, 1, (1, 0, 0), [])),
  (48, [(.iload_n 1, 1, 0, 0)], (.tableswitch 86 0 7 #[47, 61, 86, 86, 86, 86, 72, 47], 47, (0, 0, 0), [12, 16, 24, 24, 24, 24, 20, 12, 24])),
  (96, [(.iload_n 3, 1, 0, 0), (.aload_n 0, 1, 0, 0), (.getfield 18, 3, 6, 2)], (.if_icmp .ge 7, 3, (0, 0, 0), [14, 13])),
  (104, [(.iconst 1, 1, 0, 0)], (.goto 4, 3, (0, 0, 0), [15])),
  (108, [(.iconst 0, 1, 0, 0)], (.nop, 0, (0, 0, 0), [15])),
  (109, [], (.ireturn, 1, (1, 0, 0), [])),
  (110, [(.iload_n 3, 1, 0, 0), (.iconst 3, 1, 0, 0)], (.if_icmp .gt 7, 3, (0, 0, 0), [18, 17])),
  (115, [(.iconst 1, 1, 0, 0)], (.goto 4, 3, (0, 0, 0), [19])),
  (119, [(.iconst 0, 1, 0, 0)], (.nop, 0, (0, 0, 0), [19])),
  (120, [], (.ireturn, 1, (1, 0, 0), [])),
  (121, [(.iload_n 3, 1, 0, 0), (.aload_n 0, 1, 0, 0), (.getfield 27, 3, 6, 5)], (.if_icmp .ge 7, 3, (0, 0, 0), [22, 21])),
  (129, [(.iconst 1, 1, 0, 0)], (.goto 4, 3, (0, 0, 0), [23])),
  (133, [(.iconst 0, 1, 0, 0)], (.nop, 0, (0, 0, 0), [23])),
  (134, [], (.ireturn, 1, (1, 0, 0), [])),
  (135, [(.iload_n 3, 1, 0, 0), (.aload_n 0, 1, 0, 0), (.getfield 30, 3, 6, 6)], (.if_icmp .ge 12, 3, (0, 0, 0), [27, 25])),
  (143, [(.iload_n 2, 1, 0, 0), (.iload_n 3, 1, 0, 0)], (.if_icmp .eq 7, 3, (0, 0, 0), [27, 26])),
  (148, [(.iconst 1, 1, 0, 0)], (.goto 4, 3, (0, 0, 0), [28])),
  (152, [(.iconst 0, 1, 0, 0)], (.nop, 0, (0, 0, 0), [28])),
  (153, [], (.ireturn, 1, (1, 0, 0), []))])
def am_X6_removeRule : ab_M := (3, [], [
  (0, [(.iload_n 1, 1, 0, 0), (.iconst 1, 1, 0, 0), (.iadd, 1, 0, 0), (.istore_n 2, 1, 0, 0)], (.nop, 0, (0, 0, 0), [1])),
  (4, [(.iload_n 2, 1, 0, 0), (.aload_n 0, 1, 0, 0), (.getfield 33, 3, 6, 7)], (.if_icmp .ge 51, 3, (0, 0, 0), [3, 2])),
  (12, [(.aload_n 0, 1, 0, 0), (.getfield 58, 3, 6, 15), (.iload_n 2, 1, 0, 0), (.iconst 1, 1, 0, 0), (.isub, 1, 0, 0), (.aload_n 0, 1, 0, 0), (.getfield 58, 3, 6, 15), (.iload_n 2, 1, 0, 0), (.iaload, 1, 0, 0), (.iastore, 1, 0, 0), (.aload_n 0, 1, 0, 0), (.getfield 61, 3, 6, 16), (.iload_n 2, 1, 0, 0), (.iconst 1, 1, 0, 0), (.isub, 1, 0, 0), (.aload_n 0, 1, 0, 0), (.getfield 61, 3, 6, 16), (.iload_n 2, 1, 0, 0), (.iaload, 1, 0, 0), (.iastore, 1, 0, 0), (.aload_n 0, 1, 0, 0), (.getfield 64, 3, 6, 17), (.iload_n 2, 1, 0, 0), (.iconst 1, 1, 0, 0), (.isub, 1, 0, 0), (.aload_n 0, 1, 0, 0), (.getfield 64, 3, 6, 17), (.iload_n 2, 1, 0, 0), (.iaload, 1, 0, 0), (.iastore, 1, 0, 0), (.iinc 2 1, 3, 0, 0)], (.goto (-53), 3, (0, 0, 0), [1])),
  (60, [(.aload_n 0, 1, 0, 0), (.dup, 1, 0, 0), (.getfield 33, 3, 6, 7), (.iconst 1, 1, 0, 0), (.isub, 1, 0, 0), (.putfield 33, 3, 6, 7)], (.return_, 1, (0, 0, 0), []))])
def am_X6_pairKept : ab_M := (6, [], [
  (0, [(.aload_n 0, 1, 0, 0), (.aload_n 0, 1, 0, 0), (.getfield 61, 3, 6, 16), (.iload_n 1, 1, 0, 0), (.iaload, 1, 0, 0), (.iload_n 2, 1, 0, 0)], (.invokevirtual 74, 3, (62, 3, 6), [1])),
  (11, [(.istore 4, 2, 0, 0), (.aload_n 0, 1, 0, 0), (.getfield 58, 3, 6, 15), (.iload_n 1, 1, 0, 0), (.iaload, 1, 0, 0)], (.tableswitch 67 2 4 #[25, 36, 55], 25, (0, 0, 0), [2, 6, 12, 16])),
  (44, [(.iload_n 2, 1, 0, 0), (.iload_n 3, 1, 0, 0)], (.if_icmp .ne 7, 3, (0, 0, 0), [4, 3])),
  (49, [(.iconst 1, 1, 0, 0)], (.goto 4, 3, (0, 0, 0), [5])),
  (53, [(.iconst 0, 1, 0, 0)], (.nop, 0, (0, 0, 0), [5])),
  (54, [], (.ireturn, 1, (1, 0, 0), [])),
  (55, [(.aload_n 0, 1, 0, 0), (.iload_n 2, 1, 0, 0)], (.invokevirtual 78, 3, (58, 2, 6), [7])),
  (60, [(.aload_n 0, 1, 0, 0), (.iload_n 3, 1, 0, 0)], (.invokevirtual 78, 3, (58, 2, 6), [8])),
  (65, [], (.if_icmp .eq 7, 3, (0, 0, 0), [10, 9])),
  (68, [(.iconst 1, 1, 0, 0)], (.goto 4, 3, (0, 0, 0), [11])),
  (72, [(.iconst 0, 1, 0, 0)], (.nop, 0, (0, 0, 0), [11])),
  (73, [], (.ireturn, 1, (1, 0, 0), [])),
  (74, [(.iload 4, 2, 0, 0), (.iload_n 3, 1, 0, 0)], (.if_icmp .ge 7, 3, (0, 0, 0), [14, 13])),
  (80, [(.iconst 1, 1, 0, 0)], (.goto 4, 3, (0, 0, 0), [15])),
  (84, [(.iconst 0, 1, 0, 0)], (.nop, 0, (0, 0, 0), [15])),
  (85, [], (.ireturn, 1, (1, 0, 0), [])),
  (86, [(.aload_n 0, 1, 0, 0), (.aload_n 0, 1, 0, 0), (.getfield 64, 3, 6, 17), (.iload_n 1, 1, 0, 0), (.iaload, 1, 0, 0), (.iload_n 3, 1, 0, 0)], (.invokevirtual 74, 3, (62, 3, 6), [17])),
  (97, [(.istore 5, 2, 0, 0), (.aload_n 0, 1, 0, 0), (.iload_n 2, 1, 0, 0)], (.invokevirtual 78, 3, (58, 2, 6), [18])),
  (104, [(.aload_n 0, 1, 0, 0), (.iload_n 3, 1, 0, 0)], (.invokevirtual 78, 3, (58, 2, 6), [19])),
  (109, [], (.if_icmp .ne 23, 3, (0, 0, 0), [23, 20])),
  (112, [(.iload_n 3, 1, 0, 0), (.iload 4, 2, 0, 0), (.iconst 1, 1, 0, 0), (.iadd, 1, 0, 0)], (.if_icmp .eq 11, 3, (0, 0, 0), [22, 21])),
  (120, [(.iload_n 2, 1, 0, 0), (.iload 5, 2, 0, 0), (.iconst 1, 1, 0, 0), (.iadd, 1, 0, 0)], (.if_icmp .ne 7, 3, (0, 0, 0), [23, 22])),
  (128, [(.iconst 1, 1, 0, 0)], (.goto 4, 3, (0, 0, 0), [24])),
  (132, [(.iconst 0, 1, 0, 0)], (.nop, 0, (0, 0, 0), [24])),
  (133, [], (.ireturn, 1, (1, 0, 0), []))])
def am_X7_init : ab_M := (3, [], [
  (0, [(.aload_n 0, 1, 0, 0), (.invokespecial 3, 3, 0, 0), (.aload_n 0, 1, 0, 0), (.new 9, 3, 9, 0), (.dup, 1, 0, 0)], (.invokespecial 11, 3, (97, 1, 101), [1])),
  (12, [(.putfield 12, 3, 7, 2), (.aload_n 0, 1, 0, 0), (.bipush 42, 2, 0, 0), (.newarray .int, 2, 0, 0), (.putfield 18, 3, 7, 3), (.aload_n 0, 1, 0, 0), (.bipush 6, 2, 0, 0), (.newarray .int, 2, 0, 0), (.putfield 22, 3, 7, 4), (.aload_n 0, 1, 0, 0), (.bipush 6, 2, 0, 0), (.newarray .int, 2, 0, 0), (.putfield 25, 3, 7, 5), (.aload_n 0, 1, 0, 0), (.bipush 6, 2, 0, 0), (.newarray .int, 2, 0, 0), (.putfield 28, 3, 7, 6), (.aload_n 0, 1, 0, 0), (.iconst 4, 1, 0, 0), (.newarray .int, 2, 0, 0), (.putfield 31, 3, 7, 7), (.aload_n 0, 1, 0, 0), (.iconst 0, 1, 0, 0), (.putfield 34, 3, 7, 8), (.aload_n 0, 1, 0, 0), (.iconst 0, 1, 0, 0), (.putfield 38, 3, 7, 9), (.aload_n 0, 1, 0, 0), (.iconst (-1), 1, 0, 0), (.putfield 41, 3, 7, 10), (.aload_n 0, 1, 0, 0), (.iconst 0, 1, 0, 0), (.putfield 44, 3, 7, 11), (.aload_n 0, 1, 0, 0), (.aload_n 1, 1, 0, 0), (.putfield 48, 3, 7, 0), (.aload_n 0, 1, 0, 0), (.aload_n 2, 1, 0, 0), (.putfield 52, 3, 7, 1)], (.return_, 1, (0, 0, 0), []))])
def am_X7_seek : ab_M := (4, [], [
  (0, [(.aload_n 0, 1, 0, 0), (.iload_n 2, 1, 0, 0), (.putfield 44, 3, 7, 11), (.aload_n 0, 1, 0, 0), (.iload_n 1, 1, 0, 0), (.putfield 34, 3, 7, 8), (.aload_n 0, 1, 0, 0), (.iconst (-1), 1, 0, 0), (.putfield 41, 3, 7, 10), (.aload_n 0, 1, 0, 0), (.getfield 31, 3, 7, 7), (.iconst 0, 1, 0, 0)], (.invokestatic 56, 3, (278, 2, 200), [1])),
  (23, [(.iconst 0, 1, 0, 0), (.istore_n 3, 1, 0, 0)], (.nop, 0, (0, 0, 0), [2])),
  (25, [(.iload_n 3, 1, 0, 0), (.aload_n 0, 1, 0, 0), (.getfield 48, 3, 7, 0), (.getfield 62, 3, 6, 6)], (.if_icmp .ge 52, 3, (0, 0, 0), [8, 3])),
  (36, [(.aload_n 0, 1, 0, 0), (.getfield 18, 3, 7, 3), (.iload_n 3, 1, 0, 0), (.aload_n 0, 1, 0, 0), (.iload_n 3, 1, 0, 0), (.aload_n 0, 1, 0, 0), (.getfield 52, 3, 7, 1), (.getfield 67, 3, 3, 1), (.iload_n 3, 1, 0, 0), (.iaload, 1, 0, 0)], (.invokevirtual 72, 3, (82, 3, 7), [4])),
  (55, [(.iastore, 1, 0, 0), (.aload_n 0, 1, 0, 0), (.getfield 18, 3, 7, 3), (.iload_n 3, 1, 0, 0), (.iaload, 1, 0, 0)], (.ifCond .eq 15, 3, (0, 0, 0), [6, 5])),
  (65, [(.aload_n 0, 1, 0, 0), (.getfield 52, 3, 7, 1), (.getfield 76, 3, 3, 2), (.iload_n 3, 1, 0, 0), (.iaload, 1, 0, 0)], (.ifCond .ne 5, 3, (0, 0, 0), [7, 6])),
  (77, [(.iconst (-1), 1, 0, 0)], (.ireturn, 1, (0, 0, 0), [])),
  (79, [(.iinc 3 1, 3, 0, 0)], (.goto (-57), 3, (0, 0, 0), [2])),
  (85, [(.aload_n 0, 1, 0, 0), (.aload_n 0, 1, 0, 0), (.iconst 0, 1, 0, 0), (.iconst 0, 1, 0, 0)], (.invokevirtual 79, 3, (87, 3, 7), [9])),
  (92, [(.putfield 38, 3, 7, 9), (.aload_n 0, 1, 0, 0), (.iconst 0, 1, 0, 0), (.iconst 0, 1, 0, 0)], (.invokevirtual 82, 3, (80, 3, 7), [10])),
  (101, [(.pop, 1, 0, 0), (.aload_n 0, 1, 0, 0), (.getfield 41, 3, 7, 10)], (.ireturn, 1, (0, 0, 0), []))])
def am_X7_cheapest : ab_M := (2, [], [
  (0, [(.aload_n 0, 1, 0, 0), (.ldc 86, 2, 100000, 0), (.iconst 1, 1, 0, 0)], (.invokevirtual 87, 3, (74, 3, 7), [1])),
  (7, [(.istore_n 1, 1, 0, 0), (.iload_n 1, 1, 0, 0), (.iconst (-1), 1, 0, 0)], (.if_icmp .eq 8, 3, (0, 0, 0), [3, 2])),
  (13, [(.aload_n 0, 1, 0, 0), (.iload_n 1, 1, 0, 0)], (.invokevirtual 91, 3, (79, 2, 7), [3])),
  (18, [(.iload_n 1, 1, 0, 0)], (.ireturn, 1, (0, 0, 0), []))])
def am_X7_behind : ab_M := (6, [], [
  (0, [(.aload_n 0, 1, 0, 0), (.getfield 48, 3, 7, 0), (.getfield 62, 3, 6, 6), (.iconst 1, 1, 0, 0), (.isub, 1, 0, 0), (.istore_n 2, 1, 0, 0)], (.nop, 0, (0, 0, 0), [1])),
  (10, [(.iload_n 2, 1, 0, 0)], (.ifCond .lt 68, 3, (0, 0, 0), [9, 2])),
  (14, [(.aload_n 1, 1, 0, 0), (.getfield 95, 3, 9, 2), (.iload_n 2, 1, 0, 0), (.iaload, 1, 0, 0), (.istore_n 3, 1, 0, 0), (.iconst (-1), 1, 0, 0), (.aload_n 1, 1, 0, 0), (.getfield 98, 3, 9, 3), (.iload_n 2, 1, 0, 0), (.iaload, 1, 0, 0), (.iconst 1, 1, 0, 0), (.iadd, 1, 0, 0), (.ishl, 1, 0, 0), (.istore 4, 2, 0, 0), (.iconst (-1), 1, 0, 0), (.iload_n 3, 1, 0, 0), (.iconst 1, 1, 0, 0), (.iadd, 1, 0, 0), (.ishl, 1, 0, 0), (.istore 5, 2, 0, 0), (.aload_n 0, 1, 0, 0), (.aload_n 1, 1, 0, 0), (.iload_n 2, 1, 0, 0), (.iconst 1, 1, 0, 0), (.iload_n 3, 1, 0, 0), (.ishl, 1, 0, 0), (.iload 4, 2, 0, 0)], (.invokevirtual 101, 3, (77, 5, 7), [3])),
  (51, [], (.ifCond .ne 15, 3, (0, 0, 0), [6, 4])),
  (54, [(.aload_n 0, 1, 0, 0), (.aload_n 1, 1, 0, 0), (.iload_n 2, 1, 0, 0), (.iload 5, 2, 0, 0), (.iconst (-1), 1, 0, 0)], (.invokevirtual 101, 3, (77, 5, 7), [5])),
  (63, [], (.ifCond .eq 10, 3, (0, 0, 0), [8, 6])),
  (66, [(.aload_n 0, 1, 0, 0), (.iconst 0, 1, 0, 0)], (.invokevirtual 91, 3, (79, 2, 7), [7])),
  (71, [(.iconst 1, 1, 0, 0)], (.ireturn, 1, (1, 0, 0), [])),
  (73, [(.iinc 2 (-1), 3, 0, 0)], (.goto (-66), 3, (0, 0, 0), [1])),
  (79, [(.iconst 0, 1, 0, 0)], (.ireturn, 1, (1, 0, 0), []))])
def am_X7_existsBehind : ab_M := (6, [], [
  (0, [(.aload_n 0, 1, 0, 0), (.getfield 52, 3, 7, 1), (.aload_n 0, 1, 0, 0), (.getfield 48, 3, 7, 0)], (.invokevirtual 105, 3, (56, 1, 6), [1])),
  (11, [], (.invokevirtual 109, 3, (26, 2, 3), [2])),
  (14, [(.iconst 0, 1, 0, 0), (.istore 5, 2, 0, 0)], (.nop, 0, (0, 0, 0), [3])),
  (17, [(.iload 5, 2, 0, 0), (.iload_n 2, 1, 0, 0)], (.if_icmp .ge 33, 3, (0, 0, 0), [6, 4])),
  (23, [(.aload_n 0, 1, 0, 0), (.iload 5, 2, 0, 0), (.iconst 1, 1, 0, 0), (.aload_n 1, 1, 0, 0), (.getfield 95, 3, 9, 2), (.iload 5, 2, 0, 0), (.iaload, 1, 0, 0), (.ishl, 1, 0, 0), (.iconst 1, 1, 0, 0), (.aload_n 1, 1, 0, 0), (.getfield 98, 3, 9, 3), (.iload 5, 2, 0, 0), (.iaload, 1, 0, 0), (.ishl, 1, 0, 0)], (.invokevirtual 112, 3, (78, 4, 7), [5])),
  (47, [(.iinc 5 1, 3, 0, 0)], (.goto (-33), 3, (0, 0, 0), [3])),
  (53, [(.aload_n 0, 1, 0, 0), (.iload_n 2, 1, 0, 0), (.iload_n 3, 1, 0, 0), (.iload 4, 2, 0, 0)], (.invokevirtual 112, 3, (78, 4, 7), [7])),
  (61, [(.aload_n 0, 1, 0, 0), (.iconst 0, 1, 0, 0), (.iconst 0, 1, 0, 0)], (.invokevirtual 87, 3, (74, 3, 7), [8])),
  (67, [(.iconst (-1), 1, 0, 0)], (.if_icmp .eq 7, 3, (0, 0, 0), [10, 9])),
  (71, [(.iconst 1, 1, 0, 0)], (.goto 4, 3, (0, 0, 0), [11])),
  (75, [(.iconst 0, 1, 0, 0)], (.nop, 0, (0, 0, 0), [11])),
  (76, [], (.ireturn, 1, (1, 0, 0), []))])
def am_X7_restrict : ab_M := (4, [], [
  (0, [(.aload_n 0, 1, 0, 0), (.getfield 52, 3, 7, 1), (.iload_n 1, 1, 0, 0), (.aload_n 0, 1, 0, 0), (.getfield 52, 3, 7, 1), (.getfield 67, 3, 3, 1), (.iload_n 1, 1, 0, 0), (.iaload, 1, 0, 0), (.iload_n 2, 1, 0, 0), (.iand, 1, 0, 0), (.aload_n 0, 1, 0, 0), (.getfield 52, 3, 7, 1), (.getfield 76, 3, 3, 2), (.iload_n 1, 1, 0, 0), (.iaload, 1, 0, 0), (.iload_n 3, 1, 0, 0), (.iand, 1, 0, 0)], (.invokevirtual 116, 3, (39, 4, 3), [1])),
  (30, [], (.return_, 1, (0, 0, 0), []))])
def am_X7_lessen : ab_M := (7, [], [
  (0, [(.iconst 0, 1, 0, 0), (.istore_n 2, 1, 0, 0)], (.nop, 0, (0, 0, 0), [1])),
  (2, [(.iload_n 2, 1, 0, 0), (.aload_n 0, 1, 0, 0), (.getfield 48, 3, 7, 0), (.getfield 62, 3, 6, 6)], (.if_icmp .ge 206, 3, (0, 0, 0), [27, 2])),
  (13, [(.aload_n 0, 1, 0, 0), (.getfield 52, 3, 7, 1), (.getfield 67, 3, 3, 1), (.iload_n 2, 1, 0, 0), (.iaload, 1, 0, 0), (.istore_n 3, 1, 0, 0), (.aload_n 0, 1, 0, 0), (.getfield 52, 3, 7, 1), (.getfield 76, 3, 3, 2), (.iload_n 2, 1, 0, 0), (.iaload, 1, 0, 0), (.istore 4, 2, 0, 0), (.iconst 0, 1, 0, 0), (.istore 5, 2, 0, 0), (.iconst 0, 1, 0, 0), (.istore 6, 2, 0, 0)], (.nop, 0, (0, 0, 0), [3])),
  (40, [(.iload 6, 2, 0, 0), (.aload_n 0, 1, 0, 0), (.getfield 48, 3, 7, 0), (.getfield 119, 3, 6, 2)], (.if_icmp .ge 68, 3, (0, 0, 0), [14, 4])),
  (52, [(.iload 5, 2, 0, 0)], (.ifCond .ne 63, 3, (0, 0, 0), [14, 5])),
  (57, [(.iload_n 3, 1, 0, 0), (.iload 6, 2, 0, 0), (.ishr, 1, 0, 0), (.iconst 1, 1, 0, 0), (.iand, 1, 0, 0)], (.ifCond .eq 48, 3, (0, 0, 0), [13, 6])),
  (66, [(.aload_n 0, 1, 0, 0), (.getfield 52, 3, 7, 1), (.iload_n 2, 1, 0, 0), (.iconst 1, 1, 0, 0), (.iload 6, 2, 0, 0), (.ishl, 1, 0, 0), (.iload 4, 2, 0, 0)], (.invokevirtual 116, 3, (39, 4, 3), [7])),
  (80, [(.iload 6, 2, 0, 0), (.aload_n 0, 1, 0, 0), (.getfield 12, 3, 7, 2), (.getfield 95, 3, 9, 2), (.iload_n 2, 1, 0, 0), (.iaload, 1, 0, 0)], (.if_icmp .eq 13, 3, (0, 0, 0), [10, 8])),
  (94, [(.aload_n 0, 1, 0, 0), (.iload_n 1, 1, 0, 0), (.iconst 0, 1, 0, 0)], (.invokevirtual 87, 3, (74, 3, 7), [9])),
  (100, [(.iconst (-1), 1, 0, 0)], (.if_icmp .eq 7, 3, (0, 0, 0), [11, 10])),
  (104, [(.iconst 1, 1, 0, 0)], (.goto 4, 3, (0, 0, 0), [12])),
  (108, [(.iconst 0, 1, 0, 0)], (.nop, 0, (0, 0, 0), [12])),
  (109, [(.istore 5, 2, 0, 0)], (.nop, 0, (0, 0, 0), [13])),
  (111, [(.iinc 6 1, 3, 0, 0)], (.goto (-74), 3, (0, 0, 0), [3])),
  (117, [(.aload_n 0, 1, 0, 0), (.getfield 52, 3, 7, 1), (.getfield 67, 3, 3, 1), (.iload_n 2, 1, 0, 0), (.iaload, 1, 0, 0), (.istore_n 3, 1, 0, 0), (.iconst 0, 1, 0, 0), (.istore 5, 2, 0, 0), (.iconst 0, 1, 0, 0), (.istore 6, 2, 0, 0)], (.nop, 0, (0, 0, 0), [15])),
  (133, [(.iload 6, 2, 0, 0), (.aload_n 0, 1, 0, 0), (.getfield 48, 3, 7, 0), (.getfield 122, 3, 6, 5)], (.if_icmp .ge 68, 3, (0, 0, 0), [26, 16])),
  (145, [(.iload 5, 2, 0, 0)], (.ifCond .ne 63, 3, (0, 0, 0), [26, 17])),
  (150, [(.iload 4, 2, 0, 0), (.iload 6, 2, 0, 0), (.ishr, 1, 0, 0), (.iconst 1, 1, 0, 0), (.iand, 1, 0, 0)], (.ifCond .eq 47, 3, (0, 0, 0), [25, 18])),
  (160, [(.aload_n 0, 1, 0, 0), (.getfield 52, 3, 7, 1), (.iload_n 2, 1, 0, 0), (.iload_n 3, 1, 0, 0), (.iconst 1, 1, 0, 0), (.iload 6, 2, 0, 0), (.ishl, 1, 0, 0)], (.invokevirtual 116, 3, (39, 4, 3), [19])),
  (173, [(.iload 6, 2, 0, 0), (.aload_n 0, 1, 0, 0), (.getfield 12, 3, 7, 2), (.getfield 98, 3, 9, 3), (.iload_n 2, 1, 0, 0), (.iaload, 1, 0, 0)], (.if_icmp .eq 13, 3, (0, 0, 0), [22, 20])),
  (187, [(.aload_n 0, 1, 0, 0), (.iload_n 1, 1, 0, 0), (.iconst 0, 1, 0, 0)], (.invokevirtual 87, 3, (74, 3, 7), [21])),
  (193, [(.iconst (-1), 1, 0, 0)], (.if_icmp .eq 7, 3, (0, 0, 0), [23, 22])),
  (197, [(.iconst 1, 1, 0, 0)], (.goto 4, 3, (0, 0, 0), [24])),
  (201, [(.iconst 0, 1, 0, 0)], (.nop, 0, (0, 0, 0), [24])),
  (202, [(.istore 5, 2, 0, 0)], (.nop, 0, (0, 0, 0), [25])),
  (204, [(.iinc 6 1, 3, 0, 0)], (.goto (-74), 3, (0, 0, 0), [15])),
  (210, [(.iinc 2 1, 3, 0, 0)], (.goto (-211), 3, (0, 0, 0), [1])),
  (216, [], (.return_, 1, (0, 0, 0), []))])
def am_X7_explore : ab_M := (11, [], [
  (0, [(.aload_n 0, 1, 0, 0), (.iload_n 1, 1, 0, 0), (.iload_n 2, 1, 0, 0)], (.invokevirtual 79, 3, (87, 3, 7), [1])),
  (6, [(.istore_n 3, 1, 0, 0), (.iload_n 3, 1, 0, 0), (.aload_n 0, 1, 0, 0), (.getfield 34, 3, 7, 8)], (.if_icmp .gt 18, 3, (0, 0, 0), [4, 2])),
  (15, [(.aload_n 0, 1, 0, 0), (.iconst 0, 1, 0, 0), (.iload_n 1, 1, 0, 0), (.aload_n 0, 1, 0, 0), (.getfield 34, 3, 7, 8), (.iload_n 3, 1, 0, 0), (.isub, 1, 0, 0)], (.invokevirtual 125, 3, (84, 4, 7), [3])),
  (27, [], (.ifCond .ne 5, 3, (0, 0, 0), [5, 4])),
  (30, [(.iconst 0, 1, 0, 0)], (.ireturn, 1, (1, 0, 0), [])),
  (32, [(.iload_n 1, 1, 0, 0), (.aload_n 0, 1, 0, 0), (.getfield 48, 3, 7, 0), (.getfield 62, 3, 6, 6)], (.if_icmp .lt 9, 3, (0, 0, 0), [8, 6])),
  (43, [(.aload_n 0, 1, 0, 0), (.iload_n 3, 1, 0, 0)], (.invokevirtual 129, 3, (86, 2, 7), [7])),
  (48, [], (.ireturn, 1, (1, 0, 0), [])),
  (49, [(.aload_n 0, 1, 0, 0), (.iload_n 1, 1, 0, 0), (.iload_n 2, 1, 0, 0)], (.invokevirtual 133, 3, (83, 3, 7), [9])),
  (55, [(.istore 4, 2, 0, 0), (.iload_n 2, 1, 0, 0), (.iconst 1, 1, 0, 0), (.iload 4, 2, 0, 0), (.ishl, 1, 0, 0), (.ior, 1, 0, 0), (.istore 5, 2, 0, 0), (.aload_n 0, 1, 0, 0), (.getfield 18, 3, 7, 3), (.iload_n 1, 1, 0, 0), (.bipush 6, 2, 0, 0), (.imul, 1, 0, 0), (.iload 4, 2, 0, 0), (.iadd, 1, 0, 0), (.iaload, 1, 0, 0), (.istore 6, 2, 0, 0), (.aload_n 0, 1, 0, 0), (.getfield 48, 3, 7, 0), (.getfield 136, 3, 6, 13), (.iload 4, 2, 0, 0), (.iaload, 1, 0, 0), (.istore 7, 2, 0, 0), (.aload_n 0, 1, 0, 0), (.getfield 31, 3, 7, 7), (.iload 7, 2, 0, 0), (.iaload, 1, 0, 0), (.istore 8, 2, 0, 0), (.iconst 0, 1, 0, 0), (.istore 9, 2, 0, 0), (.aload_n 0, 1, 0, 0), (.getfield 22, 3, 7, 4), (.iload_n 1, 1, 0, 0), (.iload 4, 2, 0, 0), (.iastore, 1, 0, 0), (.iconst 0, 1, 0, 0), (.istore 10, 2, 0, 0)], (.nop, 0, (0, 0, 0), [10])),
  (114, [(.iload 10, 2, 0, 0), (.aload_n 0, 1, 0, 0), (.getfield 48, 3, 7, 0), (.getfield 119, 3, 6, 2)], (.if_icmp .ge 92, 3, (0, 0, 0), [21, 11])),
  (126, [(.iload 9, 2, 0, 0)], (.ifCond .ne 87, 3, (0, 0, 0), [21, 12])),
  (131, [(.iload 6, 2, 0, 0), (.iload 10, 2, 0, 0), (.ishr, 1, 0, 0), (.iconst 1, 1, 0, 0), (.iand, 1, 0, 0)], (.ifCond .eq 71, 3, (0, 0, 0), [20, 13])),
  (141, [(.aload_n 0, 1, 0, 0), (.getfield 25, 3, 7, 5), (.iload 4, 2, 0, 0), (.iload 10, 2, 0, 0), (.iastore, 1, 0, 0), (.aload_n 0, 1, 0, 0), (.getfield 31, 3, 7, 7), (.iload 7, 2, 0, 0), (.iload 8, 2, 0, 0), (.aload_n 0, 1, 0, 0), (.getfield 52, 3, 7, 1), (.getfield 139, 3, 3, 6), (.iload 4, 2, 0, 0), (.bipush 6, 2, 0, 0), (.imul, 1, 0, 0), (.iload 10, 2, 0, 0), (.iadd, 1, 0, 0), (.iaload, 1, 0, 0), (.ior, 1, 0, 0), (.iastore, 1, 0, 0), (.aload_n 0, 1, 0, 0), (.iload_n 1, 1, 0, 0), (.iload 5, 2, 0, 0), (.iload 4, 2, 0, 0), (.iload 10, 2, 0, 0)], (.invokevirtual 142, 3, (81, 5, 7), [14])),
  (187, [], (.ifCond .eq 19, 3, (0, 0, 0), [18, 15])),
  (190, [(.aload_n 0, 1, 0, 0), (.iload_n 1, 1, 0, 0), (.iconst 1, 1, 0, 0), (.iadd, 1, 0, 0), (.iload 5, 2, 0, 0)], (.invokevirtual 82, 3, (80, 3, 7), [16])),
  (199, [], (.ifCond .eq 7, 3, (0, 0, 0), [18, 17])),
  (202, [(.iconst 1, 1, 0, 0)], (.goto 4, 3, (0, 0, 0), [19])),
  (206, [(.iconst 0, 1, 0, 0)], (.nop, 0, (0, 0, 0), [19])),
  (207, [(.istore 9, 2, 0, 0)], (.nop, 0, (0, 0, 0), [20])),
  (209, [(.iinc 10 1, 3, 0, 0)], (.goto (-98), 3, (0, 0, 0), [10])),
  (215, [(.aload_n 0, 1, 0, 0), (.getfield 31, 3, 7, 7), (.iload 7, 2, 0, 0), (.iload 8, 2, 0, 0), (.iastore, 1, 0, 0), (.iload 9, 2, 0, 0)], (.ireturn, 1, (1, 0, 0), []))])
def am_X7_narrow : ab_M := (9, [], [
  (0, [(.iload_n 1, 1, 0, 0), (.bipush 6, 2, 0, 0), (.imul, 1, 0, 0), (.istore 5, 2, 0, 0), (.iload 5, 2, 0, 0), (.bipush 6, 2, 0, 0), (.iadd, 1, 0, 0), (.istore 6, 2, 0, 0), (.iconst 0, 1, 0, 0), (.istore 7, 2, 0, 0)], (.nop, 0, (0, 0, 0), [1])),
  (16, [(.iload 7, 2, 0, 0), (.aload_n 0, 1, 0, 0), (.getfield 48, 3, 7, 0), (.getfield 62, 3, 6, 6)], (.if_icmp .ge 89, 3, (0, 0, 0), [12, 2])),
  (28, [(.iload_n 2, 1, 0, 0), (.iload 7, 2, 0, 0), (.ishr, 1, 0, 0), (.iconst 1, 1, 0, 0), (.iand, 1, 0, 0)], (.ifCond .ne 74, 3, (0, 0, 0), [11, 3])),
  (37, [(.aload_n 0, 1, 0, 0), (.getfield 18, 3, 7, 3), (.iload 5, 2, 0, 0), (.iload 7, 2, 0, 0), (.iadd, 1, 0, 0), (.iaload, 1, 0, 0), (.aload_n 0, 1, 0, 0), (.getfield 52, 3, 7, 1), (.getfield 146, 3, 3, 4), (.iload_n 3, 1, 0, 0), (.iload 4, 2, 0, 0), (.iload 7, 2, 0, 0)], (.invokestatic 149, 3, (27, 3, 200), [4])),
  (62, [(.iaload, 1, 0, 0), (.iand, 1, 0, 0), (.istore 8, 2, 0, 0), (.aload_n 0, 1, 0, 0), (.getfield 48, 3, 7, 0), (.iload_n 3, 1, 0, 0), (.iload 7, 2, 0, 0)], (.invokevirtual 153, 3, (67, 3, 6), [5])),
  (76, [], (.ifCond .eq 13, 3, (0, 0, 0), [8, 6])),
  (79, [(.aload_n 0, 1, 0, 0), (.iload 7, 2, 0, 0), (.iload 8, 2, 0, 0)], (.invokevirtual 72, 3, (82, 3, 7), [7])),
  (87, [(.istore 8, 2, 0, 0)], (.nop, 0, (0, 0, 0), [8])),
  (89, [(.iload 8, 2, 0, 0)], (.ifCond .ne 5, 3, (0, 0, 0), [10, 9])),
  (94, [(.iconst 0, 1, 0, 0)], (.ireturn, 1, (1, 0, 0), [])),
  (96, [(.aload_n 0, 1, 0, 0), (.getfield 18, 3, 7, 3), (.iload 6, 2, 0, 0), (.iload 7, 2, 0, 0), (.iadd, 1, 0, 0), (.iload 8, 2, 0, 0), (.iastore, 1, 0, 0)], (.nop, 0, (0, 0, 0), [11])),
  (108, [(.iinc 7 1, 3, 0, 0)], (.goto (-95), 3, (0, 0, 0), [1])),
  (114, [(.iconst 1, 1, 0, 0)], (.ireturn, 1, (1, 0, 0), []))])
def am_X7_withinDayLimit : ab_M := (8, [], [
  (0, [(.aload_n 0, 1, 0, 0), (.getfield 48, 3, 7, 0), (.getfield 136, 3, 6, 13), (.iload_n 1, 1, 0, 0), (.iaload, 1, 0, 0), (.istore_n 3, 1, 0, 0), (.aload_n 0, 1, 0, 0), (.getfield 52, 3, 7, 1), (.getfield 156, 3, 3, 3), (.iload_n 3, 1, 0, 0), (.iaload, 1, 0, 0), (.istore 4, 2, 0, 0), (.iload 4, 2, 0, 0), (.aload_n 0, 1, 0, 0), (.getfield 48, 3, 7, 0), (.getfield 159, 3, 6, 1)], (.if_icmp .lt 5, 3, (0, 0, 0), [2, 1])),
  (33, [(.iload_n 2, 1, 0, 0)], (.ireturn, 1, (0, 0, 0), [])),
  (35, [(.iload_n 2, 1, 0, 0), (.istore 5, 2, 0, 0), (.iconst 0, 1, 0, 0), (.istore 6, 2, 0, 0)], (.nop, 0, (0, 0, 0), [3])),
  (41, [(.iload 6, 2, 0, 0), (.aload_n 0, 1, 0, 0), (.getfield 48, 3, 7, 0), (.getfield 119, 3, 6, 2)], (.if_icmp .ge 71, 3, (0, 0, 0), [10, 4])),
  (53, [(.aload_n 0, 1, 0, 0), (.getfield 31, 3, 7, 7), (.iload_n 3, 1, 0, 0), (.iaload, 1, 0, 0), (.aload_n 0, 1, 0, 0), (.getfield 52, 3, 7, 1), (.getfield 139, 3, 3, 6), (.iload_n 1, 1, 0, 0), (.bipush 6, 2, 0, 0), (.imul, 1, 0, 0), (.iload 6, 2, 0, 0), (.iadd, 1, 0, 0), (.iaload, 1, 0, 0), (.ior, 1, 0, 0), (.istore 7, 2, 0, 0), (.iload 7, 2, 0, 0), (.aload_n 0, 1, 0, 0), (.getfield 48, 3, 7, 0), (.aload_n 0, 1, 0, 0), (.getfield 48, 3, 7, 0), (.iload 6, 2, 0, 0)], (.invokevirtual 162, 3, (58, 2, 6), [5])),
  (92, [], (.invokevirtual 166, 3, (60, 2, 6), [6])),
  (95, [(.iand, 1, 0, 0)], (.invokestatic 169, 3, (277, 1, 200), [7])),
  (99, [(.iload 4, 2, 0, 0)], (.if_icmp .le 14, 3, (0, 0, 0), [9, 8])),
  (104, [(.iload 5, 2, 0, 0), (.iconst 1, 1, 0, 0), (.iload 6, 2, 0, 0), (.ishl, 1, 0, 0), (.iconst (-1), 1, 0, 0), (.ixor, 1, 0, 0), (.iand, 1, 0, 0), (.istore 5, 2, 0, 0)], (.nop, 0, (0, 0, 0), [9])),
  (115, [(.iinc 6 1, 3, 0, 0)], (.goto (-77), 3, (0, 0, 0), [3])),
  (121, [(.iload 5, 2, 0, 0)], (.ireturn, 1, (0, 0, 0), []))])
def am_X7_tightest : ab_M := (7, [], [
  (0, [(.iconst 0, 1, 0, 0), (.istore_n 3, 1, 0, 0), (.bipush 7, 2, 0, 0), (.istore 4, 2, 0, 0), (.iconst 0, 1, 0, 0), (.istore 5, 2, 0, 0)], (.nop, 0, (0, 0, 0), [1])),
  (9, [(.iload 5, 2, 0, 0), (.aload_n 0, 1, 0, 0), (.getfield 48, 3, 7, 0), (.getfield 62, 3, 6, 6)], (.if_icmp .ge 49, 3, (0, 0, 0), [7, 2])),
  (21, [(.aload_n 0, 1, 0, 0), (.getfield 18, 3, 7, 3), (.iload_n 1, 1, 0, 0), (.bipush 6, 2, 0, 0), (.imul, 1, 0, 0), (.iload 5, 2, 0, 0), (.iadd, 1, 0, 0), (.iaload, 1, 0, 0)], (.invokestatic 169, 3, (277, 1, 200), [3])),
  (36, [(.istore 6, 2, 0, 0), (.iload_n 2, 1, 0, 0), (.iload 5, 2, 0, 0), (.ishr, 1, 0, 0), (.iconst 1, 1, 0, 0), (.iand, 1, 0, 0)], (.ifCond .ne 17, 3, (0, 0, 0), [6, 4])),
  (47, [(.iload 6, 2, 0, 0), (.iload 4, 2, 0, 0)], (.if_icmp .ge 10, 3, (0, 0, 0), [6, 5])),
  (54, [(.iload 5, 2, 0, 0), (.istore_n 3, 1, 0, 0), (.iload 6, 2, 0, 0), (.istore 4, 2, 0, 0)], (.nop, 0, (0, 0, 0), [6])),
  (61, [(.iinc 5 1, 3, 0, 0)], (.goto (-55), 3, (0, 0, 0), [1])),
  (67, [(.iload_n 3, 1, 0, 0)], (.ireturn, 1, (0, 0, 0), []))])
def am_X7_seat : ab_M := (9, [], [
  (0, [(.iload_n 1, 1, 0, 0), (.iload_n 2, 1, 0, 0)], (.if_icmp .ge 9, 3, (0, 0, 0), [2, 1])),
  (5, [(.iload_n 1, 1, 0, 0), (.bipush 6, 2, 0, 0)], (.if_icmp .lt 5, 3, (0, 0, 0), [3, 2])),
  (11, [(.iconst 1, 1, 0, 0)], (.ireturn, 1, (1, 0, 0), [])),
  (13, [(.aload_n 0, 1, 0, 0), (.getfield 22, 3, 7, 4), (.iload_n 1, 1, 0, 0), (.iaload, 1, 0, 0), (.istore 4, 2, 0, 0), (.aload_n 0, 1, 0, 0), (.getfield 25, 3, 7, 5), (.iload 4, 2, 0, 0), (.iaload, 1, 0, 0), (.istore 5, 2, 0, 0), (.aload_n 0, 1, 0, 0), (.getfield 52, 3, 7, 1), (.getfield 76, 3, 3, 2), (.iload 4, 2, 0, 0), (.iaload, 1, 0, 0), (.aload_n 0, 1, 0, 0), (.iload_n 1, 1, 0, 0)], (.invokevirtual 174, 3, (85, 2, 7), [4])),
  (45, [(.iconst (-1), 1, 0, 0), (.ixor, 1, 0, 0), (.iand, 1, 0, 0), (.istore 6, 2, 0, 0), (.iconst 0, 1, 0, 0), (.istore 7, 2, 0, 0)], (.nop, 0, (0, 0, 0), [5])),
  (53, [(.iload 7, 2, 0, 0), (.aload_n 0, 1, 0, 0), (.getfield 48, 3, 7, 0), (.getfield 122, 3, 6, 5)], (.if_icmp .ge 87, 3, (0, 0, 0), [13, 6])),
  (65, [(.aload_n 0, 1, 0, 0), (.getfield 52, 3, 7, 1), (.getfield 177, 3, 3, 7), (.iload 4, 2, 0, 0), (.iload 5, 2, 0, 0), (.iload 7, 2, 0, 0)], (.invokestatic 180, 3, (28, 3, 200), [7])),
  (81, [(.iaload, 1, 0, 0), (.aload_n 0, 1, 0, 0), (.getfield 52, 3, 7, 1), (.getfield 183, 3, 3, 8), (.iload 4, 2, 0, 0), (.bipush 6, 2, 0, 0), (.imul, 1, 0, 0), (.iload 5, 2, 0, 0), (.iadd, 1, 0, 0), (.iaload, 1, 0, 0), (.isub, 1, 0, 0), (.istore 8, 2, 0, 0), (.iload 6, 2, 0, 0), (.iload 7, 2, 0, 0), (.ishr, 1, 0, 0), (.iconst 1, 1, 0, 0), (.iand, 1, 0, 0)], (.ifCond .eq 35, 3, (0, 0, 0), [12, 8])),
  (111, [(.iload 8, 2, 0, 0), (.iload_n 3, 1, 0, 0)], (.if_icmp .gt 29, 3, (0, 0, 0), [12, 9])),
  (117, [(.aload_n 0, 1, 0, 0), (.getfield 28, 3, 7, 6), (.iload 4, 2, 0, 0), (.iload 7, 2, 0, 0), (.iastore, 1, 0, 0), (.aload_n 0, 1, 0, 0), (.iload_n 1, 1, 0, 0), (.iconst 1, 1, 0, 0), (.iadd, 1, 0, 0), (.iload_n 2, 1, 0, 0), (.iload_n 3, 1, 0, 0), (.iload 8, 2, 0, 0), (.isub, 1, 0, 0)], (.invokevirtual 125, 3, (84, 4, 7), [10])),
  (138, [], (.ifCond .eq 5, 3, (0, 0, 0), [12, 11])),
  (141, [(.iconst 1, 1, 0, 0)], (.ireturn, 1, (1, 0, 0), [])),
  (143, [(.iinc 7 1, 3, 0, 0)], (.goto (-93), 3, (0, 0, 0), [5])),
  (149, [(.iconst 0, 1, 0, 0)], (.ireturn, 1, (1, 0, 0), []))])
def am_X7_takenRooms : ab_M := (7, [], [
  (0, [(.aload_n 0, 1, 0, 0), (.getfield 22, 3, 7, 4), (.iload_n 1, 1, 0, 0), (.iaload, 1, 0, 0), (.istore_n 2, 1, 0, 0), (.aload_n 0, 1, 0, 0), (.getfield 52, 3, 7, 1), (.getfield 139, 3, 3, 6), (.iload_n 2, 1, 0, 0), (.bipush 6, 2, 0, 0), (.imul, 1, 0, 0), (.aload_n 0, 1, 0, 0), (.getfield 25, 3, 7, 5), (.iload_n 2, 1, 0, 0), (.iaload, 1, 0, 0), (.iadd, 1, 0, 0), (.iaload, 1, 0, 0), (.istore_n 3, 1, 0, 0), (.iconst 0, 1, 0, 0), (.istore 4, 2, 0, 0), (.iconst 0, 1, 0, 0), (.istore 5, 2, 0, 0)], (.nop, 0, (0, 0, 0), [1])),
  (33, [(.iload 5, 2, 0, 0), (.iload_n 1, 1, 0, 0)], (.if_icmp .ge 58, 3, (0, 0, 0), [5, 2])),
  (39, [(.aload_n 0, 1, 0, 0), (.getfield 22, 3, 7, 4), (.iload 5, 2, 0, 0), (.iaload, 1, 0, 0), (.istore 6, 2, 0, 0), (.iload_n 3, 1, 0, 0), (.aload_n 0, 1, 0, 0), (.getfield 52, 3, 7, 1), (.getfield 139, 3, 3, 6), (.iload 6, 2, 0, 0), (.bipush 6, 2, 0, 0), (.imul, 1, 0, 0), (.aload_n 0, 1, 0, 0), (.getfield 25, 3, 7, 5), (.iload 6, 2, 0, 0), (.iaload, 1, 0, 0), (.iadd, 1, 0, 0), (.iaload, 1, 0, 0), (.iand, 1, 0, 0)], (.ifCond .eq 17, 3, (0, 0, 0), [4, 3])),
  (74, [(.iload 4, 2, 0, 0), (.iconst 1, 1, 0, 0), (.aload_n 0, 1, 0, 0), (.getfield 28, 3, 7, 6), (.iload 6, 2, 0, 0), (.iaload, 1, 0, 0), (.ishl, 1, 0, 0), (.ior, 1, 0, 0), (.istore 4, 2, 0, 0)], (.nop, 0, (0, 0, 0), [4])),
  (88, [(.iinc 5 1, 3, 0, 0)], (.goto (-58), 3, (0, 0, 0), [1])),
  (94, [(.iload 4, 2, 0, 0)], (.ireturn, 1, (0, 0, 0), []))])
def am_X7_record : ab_M := (4, [], [
  (0, [(.iconst 0, 1, 0, 0), (.istore_n 2, 1, 0, 0), (.iconst 0, 1, 0, 0), (.istore_n 3, 1, 0, 0)], (.nop, 0, (0, 0, 0), [1])),
  (4, [(.iload_n 3, 1, 0, 0), (.aload_n 0, 1, 0, 0), (.getfield 34, 3, 7, 8), (.iload_n 1, 1, 0, 0), (.isub, 1, 0, 0)], (.if_icmp .gt 38, 3, (0, 0, 0), [7, 2])),
  (14, [(.iload_n 2, 1, 0, 0)], (.ifCond .ne 34, 3, (0, 0, 0), [7, 3])),
  (18, [(.aload_n 0, 1, 0, 0), (.iconst 0, 1, 0, 0), (.aload_n 0, 1, 0, 0), (.getfield 48, 3, 7, 0), (.getfield 62, 3, 6, 6), (.iload_n 3, 1, 0, 0)], (.invokevirtual 125, 3, (84, 4, 7), [4])),
  (31, [], (.ifCond .eq 12, 3, (0, 0, 0), [6, 5])),
  (34, [(.iconst 1, 1, 0, 0), (.istore_n 2, 1, 0, 0), (.aload_n 0, 1, 0, 0), (.iload_n 1, 1, 0, 0), (.iload_n 3, 1, 0, 0), (.iadd, 1, 0, 0), (.putfield 41, 3, 7, 10)], (.nop, 0, (0, 0, 0), [6])),
  (43, [(.iinc 3 1, 3, 0, 0)], (.goto (-42), 3, (0, 0, 0), [1])),
  (49, [(.aload_n 0, 1, 0, 0), (.getfield 12, 3, 7, 2), (.iconst 1, 1, 0, 0), (.putfield 186, 3, 9, 0), (.aload_n 0, 1, 0, 0), (.getfield 12, 3, 7, 2), (.aload_n 0, 1, 0, 0), (.getfield 48, 3, 7, 0), (.getfield 62, 3, 6, 6), (.putfield 189, 3, 9, 1), (.aload_n 0, 1, 0, 0), (.getfield 25, 3, 7, 5), (.iconst 0, 1, 0, 0), (.aload_n 0, 1, 0, 0), (.getfield 12, 3, 7, 2), (.getfield 95, 3, 9, 2), (.iconst 0, 1, 0, 0), (.bipush 6, 2, 0, 0), (.invokestatic 190, 3, 0, 0), (.aload_n 0, 1, 0, 0), (.getfield 28, 3, 7, 6), (.iconst 0, 1, 0, 0), (.aload_n 0, 1, 0, 0), (.getfield 12, 3, 7, 2), (.getfield 98, 3, 9, 3), (.iconst 0, 1, 0, 0), (.bipush 6, 2, 0, 0), (.invokestatic 190, 3, 0, 0), (.aload_n 0, 1, 0, 0), (.getfield 44, 3, 7, 11)], (.ifCond .ne 5, 3, (0, 0, 0), [9, 8])),
  (114, [(.iconst 1, 1, 0, 0)], (.ireturn, 1, (1, 0, 0), [])),
  (116, [(.aload_n 0, 1, 0, 0), (.aload_n 0, 1, 0, 0), (.getfield 41, 3, 7, 10), (.iconst 1, 1, 0, 0), (.isub, 1, 0, 0), (.putfield 34, 3, 7, 8), (.aload_n 0, 1, 0, 0), (.getfield 34, 3, 7, 8), (.aload_n 0, 1, 0, 0), (.getfield 38, 3, 7, 9)], (.if_icmp .ge 7, 3, (0, 0, 0), [11, 10])),
  (137, [(.iconst 1, 1, 0, 0)], (.goto 4, 3, (0, 0, 0), [12])),
  (141, [(.iconst 0, 1, 0, 0)], (.nop, 0, (0, 0, 0), [12])),
  (142, [], (.ireturn, 1, (1, 0, 0), []))])
def am_X7_lowest : ab_M := (5, [], [
  (0, [(.aload_n 0, 1, 0, 0), (.getfield 52, 3, 7, 1), (.getfield 196, 3, 3, 10)], (.ifCond .ne 5, 3, (0, 0, 0), [2, 1])),
  (10, [(.iconst 0, 1, 0, 0)], (.ireturn, 1, (0, 0, 0), [])),
  (12, [(.aload_n 0, 1, 0, 0), (.getfield 52, 3, 7, 1), (.getfield 196, 3, 3, 10), (.iconst 3, 1, 0, 0)], (.if_icmp .ne 10, 3, (0, 0, 0), [5, 3])),
  (23, [(.aload_n 0, 1, 0, 0), (.iload_n 1, 1, 0, 0), (.iload_n 2, 1, 0, 0)], (.invokevirtual 199, 3, (91, 3, 7), [4])),
  (29, [], (.ireturn, 1, (0, 0, 0), [])),
  (30, [(.aload_n 0, 1, 0, 0), (.getfield 52, 3, 7, 1), (.getfield 196, 3, 3, 10), (.iconst 1, 1, 0, 0)], (.if_icmp .ne 22, 3, (0, 0, 0), [8, 6])),
  (41, [(.aload_n 0, 1, 0, 0), (.getfield 48, 3, 7, 0), (.getfield 202, 3, 6, 18), (.iconst 2, 1, 0, 0), (.iaload, 1, 0, 0), (.aload_n 0, 1, 0, 0), (.iload_n 1, 1, 0, 0), (.iload_n 2, 1, 0, 0)], (.invokevirtual 205, 3, (89, 3, 7), [7])),
  (56, [(.imul, 1, 0, 0)], (.goto 4, 3, (0, 0, 0), [9])),
  (60, [(.iconst 0, 1, 0, 0)], (.nop, 0, (0, 0, 0), [9])),
  (61, [(.istore_n 3, 1, 0, 0), (.iconst 0, 1, 0, 0), (.istore 4, 2, 0, 0)], (.nop, 0, (0, 0, 0), [10])),
  (65, [(.iload 4, 2, 0, 0), (.aload_n 0, 1, 0, 0), (.getfield 48, 3, 7, 0), (.getfield 62, 3, 6, 6)], (.if_icmp .ge 66, 3, (0, 0, 0), [16, 11])),
  (77, [(.iload_n 2, 1, 0, 0), (.iload 4, 2, 0, 0), (.ishr, 1, 0, 0), (.iconst 1, 1, 0, 0), (.iand, 1, 0, 0)], (.ifCond .eq 30, 3, (0, 0, 0), [13, 12])),
  (86, [(.iload_n 3, 1, 0, 0), (.aload_n 0, 1, 0, 0), (.getfield 52, 3, 7, 1), (.getfield 183, 3, 3, 8), (.iload 4, 2, 0, 0), (.bipush 6, 2, 0, 0), (.imul, 1, 0, 0), (.aload_n 0, 1, 0, 0), (.getfield 25, 3, 7, 5), (.iload 4, 2, 0, 0), (.iaload, 1, 0, 0), (.iadd, 1, 0, 0), (.iaload, 1, 0, 0), (.iadd, 1, 0, 0), (.istore_n 3, 1, 0, 0)], (.goto 24, 3, (0, 0, 0), [15])),
  (113, [(.iload_n 3, 1, 0, 0), (.aload_n 0, 1, 0, 0), (.iload 4, 2, 0, 0), (.aload_n 0, 1, 0, 0), (.getfield 18, 3, 7, 3), (.iload_n 1, 1, 0, 0), (.bipush 6, 2, 0, 0), (.imul, 1, 0, 0), (.iload 4, 2, 0, 0), (.iadd, 1, 0, 0), (.iaload, 1, 0, 0)], (.invokevirtual 208, 3, (88, 3, 7), [14])),
  (132, [(.iadd, 1, 0, 0), (.istore_n 3, 1, 0, 0)], (.nop, 0, (0, 0, 0), [15])),
  (134, [(.iinc 4 1, 3, 0, 0)], (.goto (-72), 3, (0, 0, 0), [10])),
  (140, [(.iload_n 3, 1, 0, 0)], (.ireturn, 1, (0, 0, 0), []))])
def am_X7_cheapestSlot : ab_M := (5, [], [
  (0, [(.ldc 86, 2, 100000, 0), (.istore_n 3, 1, 0, 0), (.iconst 0, 1, 0, 0), (.istore 4, 2, 0, 0)], (.nop, 0, (0, 0, 0), [1])),
  (6, [(.iload 4, 2, 0, 0), (.aload_n 0, 1, 0, 0), (.getfield 48, 3, 7, 0), (.getfield 119, 3, 6, 2)], (.if_icmp .ge 38, 3, (0, 0, 0), [5, 2])),
  (18, [(.iload_n 2, 1, 0, 0), (.iload 4, 2, 0, 0), (.ishr, 1, 0, 0), (.iconst 1, 1, 0, 0), (.iand, 1, 0, 0)], (.ifCond .eq 23, 3, (0, 0, 0), [4, 3])),
  (27, [(.iload_n 3, 1, 0, 0), (.aload_n 0, 1, 0, 0), (.getfield 52, 3, 7, 1), (.getfield 183, 3, 3, 8), (.iload_n 1, 1, 0, 0), (.bipush 6, 2, 0, 0), (.imul, 1, 0, 0), (.iload 4, 2, 0, 0), (.iadd, 1, 0, 0), (.iaload, 1, 0, 0), (.invokestatic 211, 3, 2, 0), (.istore_n 3, 1, 0, 0)], (.nop, 0, (0, 0, 0), [4])),
  (47, [(.iinc 4 1, 3, 0, 0)], (.goto (-44), 3, (0, 0, 0), [1])),
  (53, [(.iload_n 3, 1, 0, 0)], (.ireturn, 1, (0, 0, 0), []))])
def am_X7_sureGaps : ab_M := (7, [], [
  (0, [(.iconst 0, 1, 0, 0), (.istore_n 3, 1, 0, 0), (.iconst 0, 1, 0, 0), (.istore 4, 2, 0, 0)], (.nop, 0, (0, 0, 0), [1])),
  (5, [(.iload 4, 2, 0, 0), (.aload_n 0, 1, 0, 0), (.getfield 48, 3, 7, 0), (.getfield 216, 3, 6, 4)], (.if_icmp .ge 84, 3, (0, 0, 0), [11, 2])),
  (17, [(.iconst 0, 1, 0, 0), (.istore 5, 2, 0, 0)], (.nop, 0, (0, 0, 0), [3])),
  (20, [(.iload 5, 2, 0, 0), (.aload_n 0, 1, 0, 0), (.getfield 48, 3, 7, 0), (.getfield 219, 3, 6, 0)], (.if_icmp .ge 63, 3, (0, 0, 0), [10, 4])),
  (32, [(.iload 5, 2, 0, 0), (.aload_n 0, 1, 0, 0), (.getfield 48, 3, 7, 0), (.getfield 159, 3, 6, 1), (.imul, 1, 0, 0), (.istore 6, 2, 0, 0), (.aload_n 0, 1, 0, 0), (.getfield 31, 3, 7, 7), (.iload 4, 2, 0, 0), (.iaload, 1, 0, 0), (.aload_n 0, 1, 0, 0), (.getfield 48, 3, 7, 0), (.iload 5, 2, 0, 0)], (.invokevirtual 166, 3, (60, 2, 6), [5])),
  (60, [(.iand, 1, 0, 0), (.iload 6, 2, 0, 0), (.ishr, 1, 0, 0), (.iconst 5, 1, 0, 0)], (.if_icmp .ne 21, 3, (0, 0, 0), [9, 6])),
  (68, [(.aload_n 0, 1, 0, 0), (.iload_n 1, 1, 0, 0), (.iload_n 2, 1, 0, 0), (.iload 4, 2, 0, 0), (.iload 6, 2, 0, 0), (.iconst 1, 1, 0, 0), (.iadd, 1, 0, 0)], (.invokevirtual 222, 3, (90, 5, 7), [7])),
  (80, [], (.ifCond .ne 6, 3, (0, 0, 0), [9, 8])),
  (83, [(.iinc 3 1, 3, 0, 0)], (.nop, 0, (0, 0, 0), [9])),
  (86, [(.iinc 5 1, 3, 0, 0)], (.goto (-69), 3, (0, 0, 0), [3])),
  (92, [(.iinc 4 1, 3, 0, 0)], (.goto (-90), 3, (0, 0, 0), [1])),
  (98, [(.iload_n 3, 1, 0, 0)], (.ireturn, 1, (0, 0, 0), []))])
def am_X7_canFill : ab_M := (6, [], [
  (0, [(.iconst 0, 1, 0, 0), (.istore 5, 2, 0, 0)], (.nop, 0, (0, 0, 0), [1])),
  (3, [(.iload 5, 2, 0, 0), (.aload_n 0, 1, 0, 0), (.getfield 48, 3, 7, 0), (.getfield 62, 3, 6, 6)], (.if_icmp .ge 54, 3, (0, 0, 0), [7, 2])),
  (15, [(.iload_n 2, 1, 0, 0), (.iload 5, 2, 0, 0), (.ishr, 1, 0, 0), (.iconst 1, 1, 0, 0), (.iand, 1, 0, 0)], (.ifCond .ne 39, 3, (0, 0, 0), [6, 3])),
  (24, [(.aload_n 0, 1, 0, 0), (.getfield 48, 3, 7, 0), (.getfield 136, 3, 6, 13), (.iload 5, 2, 0, 0), (.iaload, 1, 0, 0), (.iload_n 3, 1, 0, 0)], (.if_icmp .ne 25, 3, (0, 0, 0), [6, 4])),
  (38, [(.aload_n 0, 1, 0, 0), (.getfield 18, 3, 7, 3), (.iload_n 1, 1, 0, 0), (.bipush 6, 2, 0, 0), (.imul, 1, 0, 0), (.iload 5, 2, 0, 0), (.iadd, 1, 0, 0), (.iaload, 1, 0, 0), (.iload 4, 2, 0, 0), (.ishr, 1, 0, 0), (.iconst 1, 1, 0, 0), (.iand, 1, 0, 0)], (.ifCond .eq 5, 3, (0, 0, 0), [6, 5])),
  (58, [(.iconst 1, 1, 0, 0)], (.ireturn, 1, (1, 0, 0), [])),
  (60, [(.iinc 5 1, 3, 0, 0)], (.goto (-60), 3, (0, 0, 0), [1])),
  (66, [(.iconst 0, 1, 0, 0)], (.ireturn, 1, (1, 0, 0), []))])
def am_X7_lowestShares : ab_M := (7, [], [
  (0, [(.iconst 0, 1, 0, 0), (.istore_n 3, 1, 0, 0), (.iconst 0, 1, 0, 0), (.istore 4, 2, 0, 0)], (.nop, 0, (0, 0, 0), [1])),
  (5, [(.iload 4, 2, 0, 0), (.aload_n 0, 1, 0, 0), (.getfield 48, 3, 7, 0), (.getfield 216, 3, 6, 4)], (.if_icmp .ge 76, 3, (0, 0, 0), [10, 2])),
  (17, [(.iconst 0, 1, 0, 0), (.istore 5, 2, 0, 0), (.iconst 0, 1, 0, 0), (.istore 6, 2, 0, 0)], (.nop, 0, (0, 0, 0), [3])),
  (23, [(.iload 6, 2, 0, 0), (.aload_n 0, 1, 0, 0), (.getfield 48, 3, 7, 0), (.getfield 62, 3, 6, 6)], (.if_icmp .ge 38, 3, (0, 0, 0), [9, 4])),
  (35, [(.aload_n 0, 1, 0, 0), (.getfield 48, 3, 7, 0), (.getfield 136, 3, 6, 13), (.iload 6, 2, 0, 0), (.iaload, 1, 0, 0), (.iload 4, 2, 0, 0)], (.if_icmp .ne 17, 3, (0, 0, 0), [8, 5])),
  (50, [(.aload_n 0, 1, 0, 0), (.iload_n 1, 1, 0, 0), (.iload_n 2, 1, 0, 0), (.iload 6, 2, 0, 0)], (.invokevirtual 225, 3, (92, 4, 7), [6])),
  (58, [], (.ifCond .eq 6, 3, (0, 0, 0), [8, 7])),
  (61, [(.iinc 5 1, 3, 0, 0)], (.nop, 0, (0, 0, 0), [8])),
  (64, [(.iinc 6 1, 3, 0, 0)], (.goto (-44), 3, (0, 0, 0), [3])),
  (70, [(.iload_n 3, 1, 0, 0), (.getstatic 228, 3, 0, 0), (.iload 5, 2, 0, 0), (.bipush 6, 2, 0, 0), (.invokestatic 211, 3, 2, 0), (.iaload, 1, 0, 0), (.iadd, 1, 0, 0), (.istore_n 3, 1, 0, 0), (.iinc 4 1, 3, 0, 0)], (.goto (-82), 3, (0, 0, 0), [1])),
  (90, [(.iload_n 3, 1, 0, 0)], (.ireturn, 1, (0, 0, 0), []))])
def am_X7_mustEndLast : ab_M := (6, [], [
  (0, [(.iload_n 2, 1, 0, 0), (.iload_n 3, 1, 0, 0), (.ishr, 1, 0, 0), (.iconst 1, 1, 0, 0), (.iand, 1, 0, 0)], (.ifCond .eq 14, 3, (0, 0, 0), [2, 1])),
  (8, [(.iconst 1, 1, 0, 0), (.aload_n 0, 1, 0, 0), (.getfield 25, 3, 7, 5), (.iload_n 3, 1, 0, 0), (.iaload, 1, 0, 0), (.ishl, 1, 0, 0)], (.goto 14, 3, (0, 0, 0), [3])),
  (19, [(.aload_n 0, 1, 0, 0), (.getfield 18, 3, 7, 3), (.iload_n 1, 1, 0, 0), (.bipush 6, 2, 0, 0), (.imul, 1, 0, 0), (.iload_n 3, 1, 0, 0), (.iadd, 1, 0, 0), (.iaload, 1, 0, 0)], (.nop, 0, (0, 0, 0), [3])),
  (30, [(.istore 4, 2, 0, 0), (.iconst 0, 1, 0, 0), (.istore 5, 2, 0, 0)], (.nop, 0, (0, 0, 0), [4])),
  (35, [(.iload 5, 2, 0, 0), (.aload_n 0, 1, 0, 0), (.getfield 48, 3, 7, 0), (.getfield 119, 3, 6, 2)], (.if_icmp .ge 47, 3, (0, 0, 0), [9, 5])),
  (47, [(.iload 4, 2, 0, 0), (.iload 5, 2, 0, 0), (.ishr, 1, 0, 0), (.iconst 1, 1, 0, 0), (.iand, 1, 0, 0)], (.ifCond .eq 31, 3, (0, 0, 0), [8, 6])),
  (57, [(.aload_n 0, 1, 0, 0), (.getfield 52, 3, 7, 1), (.getfield 139, 3, 3, 6), (.iload_n 3, 1, 0, 0), (.bipush 6, 2, 0, 0), (.imul, 1, 0, 0), (.iload 5, 2, 0, 0), (.iadd, 1, 0, 0), (.iaload, 1, 0, 0), (.aload_n 0, 1, 0, 0), (.getfield 52, 3, 7, 1), (.getfield 231, 3, 3, 9), (.iand, 1, 0, 0)], (.ifCond .ne 5, 3, (0, 0, 0), [8, 7])),
  (83, [(.iconst 0, 1, 0, 0)], (.ireturn, 1, (1, 0, 0), [])),
  (85, [(.iinc 5 1, 3, 0, 0)], (.goto (-53), 3, (0, 0, 0), [4])),
  (91, [(.iconst 1, 1, 0, 0)], (.ireturn, 1, (1, 0, 0), []))])
def am_X8_init : ab_M := (2, [], [
  (0, [(.aload_n 0, 1, 0, 0), (.invokespecial 1, 3, 0, 0), (.aload_n 0, 1, 0, 0), (.aload_n 1, 1, 0, 0), (.putfield 7, 3, 8, 0)], (.return_, 1, (0, 0, 0), []))])
def am_X8_mostSeated : ab_M := (4, [], [
  (0, [(.iconst 0, 1, 0, 0), (.istore_n 2, 1, 0, 0), (.iconst 1, 1, 0, 0), (.istore_n 3, 1, 0, 0)], (.nop, 0, (0, 0, 0), [1])),
  (4, [(.iload_n 3, 1, 0, 0), (.iload_n 1, 1, 0, 0)], (.if_icmp .gt 32, 3, (0, 0, 0), [7, 2])),
  (9, [(.iload_n 3, 1, 0, 0), (.iload_n 1, 1, 0, 0), (.iconst (-1), 1, 0, 0), (.ixor, 1, 0, 0), (.iand, 1, 0, 0)], (.ifCond .ne 18, 3, (0, 0, 0), [6, 3])),
  (17, [(.iload_n 2, 1, 0, 0), (.iload_n 3, 1, 0, 0)], (.invokestatic 13, 3, (277, 1, 200), [4])),
  (22, [(.aload_n 0, 1, 0, 0), (.iload_n 3, 1, 0, 0)], (.invokevirtual 19, 3, (96, 2, 8), [5])),
  (27, [(.isub, 1, 0, 0), (.invokestatic 22, 3, 1, 0), (.istore_n 2, 1, 0, 0)], (.nop, 0, (0, 0, 0), [6])),
  (32, [(.iinc 3 1, 3, 0, 0)], (.goto (-31), 3, (0, 0, 0), [1])),
  (38, [(.iload_n 1, 1, 0, 0)], (.invokestatic 13, 3, (277, 1, 200), [8])),
  (42, [(.iload_n 2, 1, 0, 0), (.isub, 1, 0, 0)], (.ireturn, 1, (0, 0, 0), []))])
def am_X8_fewestUnseated : ab_M := (4, [], [
  (0, [(.iconst 0, 1, 0, 0), (.istore_n 2, 1, 0, 0), (.iconst 1, 1, 0, 0), (.istore_n 3, 1, 0, 0)], (.nop, 0, (0, 0, 0), [1])),
  (4, [(.iload_n 3, 1, 0, 0), (.iload_n 1, 1, 0, 0)], (.if_icmp .gt 46, 3, (0, 0, 0), [12, 2])),
  (9, [(.iload_n 3, 1, 0, 0), (.iload_n 1, 1, 0, 0), (.iconst (-1), 1, 0, 0), (.ixor, 1, 0, 0), (.iand, 1, 0, 0)], (.ifCond .ne 32, 3, (0, 0, 0), [11, 3])),
  (17, [(.iload_n 3, 1, 0, 0)], (.invokestatic 13, 3, (277, 1, 200), [4])),
  (21, [(.aload_n 0, 1, 0, 0), (.iload_n 3, 1, 0, 0)], (.invokevirtual 19, 3, (96, 2, 8), [5])),
  (26, [], (.if_icmp .le 20, 3, (0, 0, 0), [11, 6])),
  (29, [(.iload_n 2, 1, 0, 0)], (.ifCond .eq 14, 3, (0, 0, 0), [10, 7])),
  (33, [(.iload_n 3, 1, 0, 0)], (.invokestatic 13, 3, (277, 1, 200), [8])),
  (37, [(.iload_n 2, 1, 0, 0)], (.invokestatic 13, 3, (277, 1, 200), [9])),
  (41, [], (.if_icmp .ge 5, 3, (0, 0, 0), [11, 10])),
  (44, [(.iload_n 3, 1, 0, 0), (.istore_n 2, 1, 0, 0)], (.nop, 0, (0, 0, 0), [11])),
  (46, [(.iinc 3 1, 3, 0, 0)], (.goto (-45), 3, (0, 0, 0), [1])),
  (52, [(.iload_n 2, 1, 0, 0)], (.ireturn, 1, (0, 0, 0), []))])
def am_X8_roomsFor : ab_M := (4, [], [
  (0, [(.iconst 0, 1, 0, 0), (.istore_n 2, 1, 0, 0), (.iconst 0, 1, 0, 0), (.istore_n 3, 1, 0, 0)], (.nop, 0, (0, 0, 0), [1])),
  (4, [(.iload_n 3, 1, 0, 0), (.aload_n 0, 1, 0, 0), (.getfield 7, 3, 8, 0), (.getfield 28, 3, 6, 5)], (.if_icmp .ge 26, 3, (0, 0, 0), [7, 2])),
  (15, [(.iload_n 2, 1, 0, 0), (.aload_n 0, 1, 0, 0), (.iload_n 1, 1, 0, 0), (.iload_n 3, 1, 0, 0)], (.invokevirtual 34, 3, (311, 3, 8), [3])),
  (22, [], (.ifCond .eq 7, 3, (0, 0, 0), [5, 4])),
  (25, [(.iconst 1, 1, 0, 0)], (.goto 4, 3, (0, 0, 0), [6])),
  (29, [(.iconst 0, 1, 0, 0)], (.nop, 0, (0, 0, 0), [6])),
  (30, [(.iadd, 1, 0, 0), (.istore_n 2, 1, 0, 0), (.iinc 3 1, 3, 0, 0)], (.goto (-31), 3, (0, 0, 0), [1])),
  (38, [(.iload_n 2, 1, 0, 0)], (.ireturn, 1, (0, 0, 0), []))])
def am_X9_init : ab_M := (1, [], [
  (0, [(.aload_n 0, 1, 0, 0), (.invokespecial 3, 3, 0, 0), (.aload_n 0, 1, 0, 0), (.iconst 0, 1, 0, 0), (.putfield 9, 3, 9, 0), (.aload_n 0, 1, 0, 0), (.iconst 0, 1, 0, 0), (.putfield 15, 3, 9, 1), (.aload_n 0, 1, 0, 0), (.bipush 6, 2, 0, 0), (.newarray .int, 2, 0, 0), (.putfield 19, 3, 9, 2), (.aload_n 0, 1, 0, 0), (.bipush 6, 2, 0, 0), (.newarray .int, 2, 0, 0), (.putfield 23, 3, 9, 3)], (.return_, 1, (0, 0, 0), []))])
def am_X9_begin : ab_M := (2, [], [
  (0, [(.aload_n 0, 1, 0, 0), (.iconst 1, 1, 0, 0), (.putfield 9, 3, 9, 0), (.aload_n 0, 1, 0, 0), (.iload_n 1, 1, 0, 0), (.putfield 15, 3, 9, 1), (.aload_n 0, 1, 0, 0), (.getfield 19, 3, 9, 2), (.iconst 0, 1, 0, 0)], (.invokestatic 26, 3, (278, 2, 200), [1])),
  (18, [(.aload_n 0, 1, 0, 0), (.getfield 23, 3, 9, 3), (.iconst 0, 1, 0, 0)], (.invokestatic 26, 3, (278, 2, 200), [2])),
  (26, [], (.return_, 1, (0, 0, 0), []))])
def am_X9_copyFrom : ab_M := (2, [], [
  (0, [(.aload_n 0, 1, 0, 0), (.aload_n 1, 1, 0, 0), (.getfield 9, 3, 9, 0), (.putfield 9, 3, 9, 0), (.aload_n 0, 1, 0, 0), (.aload_n 1, 1, 0, 0), (.getfield 15, 3, 9, 1), (.putfield 15, 3, 9, 1), (.aload_n 1, 1, 0, 0), (.getfield 19, 3, 9, 2), (.iconst 0, 1, 0, 0), (.aload_n 0, 1, 0, 0), (.getfield 19, 3, 9, 2), (.iconst 0, 1, 0, 0), (.bipush 6, 2, 0, 0), (.invokestatic 32, 3, 0, 0), (.aload_n 1, 1, 0, 0), (.getfield 23, 3, 9, 3), (.iconst 0, 1, 0, 0), (.aload_n 0, 1, 0, 0), (.getfield 23, 3, 9, 3), (.iconst 0, 1, 0, 0), (.bipush 6, 2, 0, 0), (.invokestatic 32, 3, 0, 0)], (.return_, 1, (0, 0, 0), []))])
def am_X9_valueOf : ab_M := (2, [], [
  (0, [(.bipush 10, 2, 0, 0), (.aload_n 0, 1, 0, 0), (.getfield 19, 3, 9, 2), (.iload_n 1, 1, 0, 0), (.iaload, 1, 0, 0), (.imul, 1, 0, 0), (.aload_n 0, 1, 0, 0), (.getfield 23, 3, 9, 3), (.iload_n 1, 1, 0, 0), (.iaload, 1, 0, 0), (.iadd, 1, 0, 0)], (.ireturn, 1, (0, 0, 0), []))])
def am_X9_differences : ab_M := (4, [], [
  (0, [(.iconst 0, 1, 0, 0), (.istore_n 2, 1, 0, 0), (.iconst 0, 1, 0, 0), (.istore_n 3, 1, 0, 0)], (.nop, 0, (0, 0, 0), [1])),
  (4, [(.iload_n 3, 1, 0, 0), (.aload_n 0, 1, 0, 0), (.getfield 15, 3, 9, 1)], (.if_icmp .ge 42, 3, (0, 0, 0), [6, 2])),
  (12, [(.aload_n 0, 1, 0, 0), (.getfield 19, 3, 9, 2), (.iload_n 3, 1, 0, 0), (.iaload, 1, 0, 0), (.aload_n 1, 1, 0, 0), (.getfield 19, 3, 9, 2), (.iload_n 3, 1, 0, 0), (.iaload, 1, 0, 0)], (.if_icmp .ne 18, 3, (0, 0, 0), [4, 3])),
  (27, [(.aload_n 0, 1, 0, 0), (.getfield 23, 3, 9, 3), (.iload_n 3, 1, 0, 0), (.iaload, 1, 0, 0), (.aload_n 1, 1, 0, 0), (.getfield 23, 3, 9, 3), (.iload_n 3, 1, 0, 0), (.iaload, 1, 0, 0)], (.if_icmp .eq 6, 3, (0, 0, 0), [5, 4])),
  (42, [(.iinc 2 1, 3, 0, 0)], (.nop, 0, (0, 0, 0), [5])),
  (45, [(.iinc 3 1, 3, 0, 0)], (.goto (-44), 3, (0, 0, 0), [1])),
  (51, [(.iload_n 2, 1, 0, 0)], (.ireturn, 1, (0, 0, 0), []))])
def am_X9_standsIn : ab_M := (3, [], [
  (0, [(.iconst 0, 1, 0, 0), (.istore_n 2, 1, 0, 0)], (.nop, 0, (0, 0, 0), [1])),
  (2, [(.iload_n 2, 1, 0, 0), (.aload_n 0, 1, 0, 0), (.getfield 15, 3, 9, 1)], (.if_icmp .ge 37, 3, (0, 0, 0), [6, 2])),
  (10, [(.aload_n 0, 1, 0, 0), (.getfield 19, 3, 9, 2), (.iload_n 2, 1, 0, 0), (.iaload, 1, 0, 0), (.aload_n 1, 1, 0, 0), (.getfield 38, 3, 6, 2)], (.if_icmp .ge 16, 3, (0, 0, 0), [4, 3])),
  (23, [(.aload_n 0, 1, 0, 0), (.getfield 23, 3, 9, 3), (.iload_n 2, 1, 0, 0), (.iaload, 1, 0, 0), (.aload_n 1, 1, 0, 0), (.getfield 43, 3, 6, 5)], (.if_icmp .lt 5, 3, (0, 0, 0), [5, 4])),
  (36, [(.iconst 0, 1, 0, 0)], (.ireturn, 1, (1, 0, 0), [])),
  (38, [(.iinc 2 1, 3, 0, 0)], (.goto (-39), 3, (0, 0, 0), [1])),
  (44, [(.iconst 1, 1, 0, 0)], (.ireturn, 1, (1, 0, 0), []))])
def am_X10_init : ab_M := (3, [], [
  (0, [(.aload_n 0, 1, 0, 0), (.invokespecial 3, 3, 0, 0), (.aload_n 0, 1, 0, 0), (.bipush 6, 2, 0, 0), (.newarray .int, 2, 0, 0), (.putfield 9, 3, 10, 2), (.aload_n 0, 1, 0, 0), (.bipush 6, 2, 0, 0), (.newarray .int, 2, 0, 0), (.putfield 15, 3, 10, 3), (.aload_n 0, 1, 0, 0), (.iconst (-1), 1, 0, 0), (.putfield 18, 3, 10, 4), (.aload_n 0, 1, 0, 0), (.aload_n 1, 1, 0, 0), (.putfield 22, 3, 10, 0), (.aload_n 0, 1, 0, 0), (.aload_n 2, 1, 0, 0), (.putfield 26, 3, 10, 1)], (.return_, 1, (0, 0, 0), []))])
def am_X10_refresh : ab_M := (4, [], [
  (0, [(.aload_n 0, 1, 0, 0), (.getfield 18, 3, 10, 4), (.aload_n 0, 1, 0, 0), (.getfield 22, 3, 10, 0), (.getfield 30, 3, 6, 8)], (.if_icmp .ne 4, 3, (0, 0, 0), [2, 1])),
  (14, [], (.return_, 1, (0, 0, 0), [])),
  (15, [(.aload_n 0, 1, 0, 0), (.aload_n 0, 1, 0, 0), (.getfield 22, 3, 10, 0), (.getfield 30, 3, 6, 8), (.putfield 18, 3, 10, 4), (.aload_n 0, 1, 0, 0), (.getfield 26, 3, 10, 1), (.aload_n 0, 1, 0, 0), (.getfield 22, 3, 10, 0)], (.invokevirtual 35, 3, (56, 1, 6), [3])),
  (37, [], (.invokevirtual 39, 3, (26, 2, 3), [4])),
  (40, [(.iconst 0, 1, 0, 0), (.istore_n 1, 1, 0, 0)], (.nop, 0, (0, 0, 0), [5])),
  (42, [(.iload_n 1, 1, 0, 0), (.aload_n 0, 1, 0, 0), (.getfield 22, 3, 10, 0), (.getfield 45, 3, 6, 6)], (.if_icmp .ge 20, 3, (0, 0, 0), [8, 6])),
  (53, [(.aload_n 0, 1, 0, 0), (.getfield 9, 3, 10, 2), (.iload_n 1, 1, 0, 0), (.aload_n 0, 1, 0, 0), (.iload_n 1, 1, 0, 0)], (.invokevirtual 48, 3, (109, 2, 10), [7])),
  (63, [(.iastore, 1, 0, 0), (.iinc 1 1, 3, 0, 0)], (.goto (-25), 3, (0, 0, 0), [5])),
  (70, [(.iconst 1, 1, 0, 0), (.istore_n 1, 1, 0, 0), (.iconst 0, 1, 0, 0), (.istore_n 2, 1, 0, 0)], (.nop, 0, (0, 0, 0), [9])),
  (74, [(.iload_n 2, 1, 0, 0), (.bipush 108, 2, 0, 0)], (.if_icmp .gt 35, 3, (0, 0, 0), [18, 10])),
  (80, [(.iload_n 1, 1, 0, 0)], (.ifCond .eq 31, 3, (0, 0, 0), [18, 11])),
  (84, [(.aload_n 0, 1, 0, 0)], (.invokevirtual 52, 3, (110, 1, 10), [12])),
  (88, [(.istore_n 3, 1, 0, 0), (.aload_n 0, 1, 0, 0)], (.invokevirtual 56, 3, (113, 1, 10), [13])),
  (93, [], (.ifCond .ne 7, 3, (0, 0, 0), [15, 14])),
  (96, [(.iload_n 3, 1, 0, 0)], (.ifCond .eq 7, 3, (0, 0, 0), [16, 15])),
  (100, [(.iconst 1, 1, 0, 0)], (.goto 4, 3, (0, 0, 0), [17])),
  (104, [(.iconst 0, 1, 0, 0)], (.nop, 0, (0, 0, 0), [17])),
  (105, [(.istore_n 1, 1, 0, 0), (.iinc 2 1, 3, 0, 0)], (.goto (-35), 3, (0, 0, 0), [9])),
  (112, [], (.return_, 1, (0, 0, 0), []))])
def am_X10_told : ab_M := (6, [], [
  (0, [(.iconst 0, 1, 0, 0), (.istore_n 3, 1, 0, 0), (.iconst 0, 1, 0, 0), (.istore 4, 2, 0, 0)], (.nop, 0, (0, 0, 0), [1])),
  (5, [(.iload 4, 2, 0, 0), (.aload_n 0, 1, 0, 0), (.getfield 22, 3, 10, 0), (.getfield 59, 3, 6, 2)], (.if_icmp .ge 59, 3, (0, 0, 0), [11, 2])),
  (17, [(.iconst 0, 1, 0, 0), (.istore 5, 2, 0, 0)], (.nop, 0, (0, 0, 0), [3])),
  (20, [(.iload 5, 2, 0, 0), (.aload_n 0, 1, 0, 0), (.getfield 22, 3, 10, 0), (.getfield 62, 3, 6, 5)], (.if_icmp .ge 38, 3, (0, 0, 0), [10, 4])),
  (32, [(.aload_n 0, 1, 0, 0), (.iload_n 1, 1, 0, 0), (.iload 4, 2, 0, 0), (.iload 5, 2, 0, 0)], (.invokevirtual 65, 3, (106, 4, 10), [5])),
  (41, [], (.ifCond .eq 20, 3, (0, 0, 0), [9, 6])),
  (44, [(.iload_n 3, 1, 0, 0), (.iload_n 2, 1, 0, 0)], (.if_icmp .ne 12, 3, (0, 0, 0), [8, 7])),
  (49, [(.bipush 10, 2, 0, 0), (.iload 4, 2, 0, 0), (.imul, 1, 0, 0), (.iload 5, 2, 0, 0), (.iadd, 1, 0, 0)], (.ireturn, 1, (0, 0, 0), [])),
  (58, [(.iinc 3 1, 3, 0, 0)], (.nop, 0, (0, 0, 0), [9])),
  (61, [(.iinc 5 1, 3, 0, 0)], (.goto (-44), 3, (0, 0, 0), [3])),
  (67, [(.iinc 4 1, 3, 0, 0)], (.goto (-65), 3, (0, 0, 0), [1])),
  (73, [(.iconst (-1), 1, 0, 0)], (.ireturn, 1, (0, 0, 0), []))])
def am_X10_isOpen : ab_M := (4, [], [
  (0, [(.aload_n 0, 1, 0, 0), (.getfield 9, 3, 10, 2), (.iload_n 1, 1, 0, 0), (.iaload, 1, 0, 0), (.iload_n 2, 1, 0, 0), (.iconst 3, 1, 0, 0), (.imul, 1, 0, 0), (.iload_n 3, 1, 0, 0), (.iadd, 1, 0, 0), (.ishr, 1, 0, 0), (.iconst 1, 1, 0, 0), (.iand, 1, 0, 0)], (.ifCond .eq 7, 3, (0, 0, 0), [2, 1])),
  (17, [(.iconst 1, 1, 0, 0)], (.goto 4, 3, (0, 0, 0), [3])),
  (21, [(.iconst 0, 1, 0, 0)], (.nop, 0, (0, 0, 0), [3])),
  (22, [], (.ireturn, 1, (1, 0, 0), []))])
def am_X10_leastWeight : ab_M := (3, [], [
  (0, [(.iconst 0, 1, 0, 0), (.istore_n 1, 1, 0, 0), (.iconst 0, 1, 0, 0), (.istore_n 2, 1, 0, 0)], (.nop, 0, (0, 0, 0), [1])),
  (4, [(.iload_n 2, 1, 0, 0), (.aload_n 0, 1, 0, 0), (.getfield 22, 3, 10, 0), (.getfield 45, 3, 6, 6)], (.if_icmp .ge 28, 3, (0, 0, 0), [6, 2])),
  (15, [(.aload_n 0, 1, 0, 0), (.getfield 9, 3, 10, 2), (.iload_n 2, 1, 0, 0), (.iaload, 1, 0, 0)], (.ifCond .ne 5, 3, (0, 0, 0), [4, 3])),
  (24, [(.iconst (-1), 1, 0, 0)], (.ireturn, 1, (0, 0, 0), [])),
  (26, [(.iload_n 1, 1, 0, 0), (.aload_n 0, 1, 0, 0), (.iload_n 2, 1, 0, 0)], (.invokevirtual 69, 3, (108, 2, 10), [5])),
  (32, [(.iadd, 1, 0, 0), (.istore_n 1, 1, 0, 0), (.iinc 2 1, 3, 0, 0)], (.goto (-33), 3, (0, 0, 0), [1])),
  (40, [(.iload_n 1, 1, 0, 0)], (.ireturn, 1, (0, 0, 0), []))])
def am_X10_leastOf : ab_M := (5, [], [
  (0, [(.ldc 74, 2, 100000, 0), (.istore_n 2, 1, 0, 0), (.iconst 0, 1, 0, 0), (.istore_n 3, 1, 0, 0)], (.nop, 0, (0, 0, 0), [1])),
  (5, [(.iload_n 3, 1, 0, 0), (.aload_n 0, 1, 0, 0), (.getfield 22, 3, 10, 0), (.getfield 59, 3, 6, 2)], (.if_icmp .ge 57, 3, (0, 0, 0), [10, 2])),
  (16, [(.iconst 0, 1, 0, 0), (.istore 4, 2, 0, 0)], (.nop, 0, (0, 0, 0), [3])),
  (19, [(.iload 4, 2, 0, 0), (.aload_n 0, 1, 0, 0), (.getfield 22, 3, 10, 0), (.getfield 62, 3, 6, 5)], (.if_icmp .ge 36, 3, (0, 0, 0), [9, 4])),
  (31, [(.aload_n 0, 1, 0, 0), (.iload_n 1, 1, 0, 0), (.iload_n 3, 1, 0, 0), (.iload 4, 2, 0, 0)], (.invokevirtual 65, 3, (106, 4, 10), [5])),
  (39, [], (.ifCond .eq 19, 3, (0, 0, 0), [8, 6])),
  (42, [(.iload_n 2, 1, 0, 0), (.aload_n 0, 1, 0, 0), (.getfield 22, 3, 10, 0), (.iload_n 1, 1, 0, 0), (.iload_n 3, 1, 0, 0), (.iload 4, 2, 0, 0)], (.invokevirtual 75, 3, (68, 4, 6), [7])),
  (54, [(.invokestatic 79, 3, 2, 0), (.istore_n 2, 1, 0, 0)], (.nop, 0, (0, 0, 0), [8])),
  (58, [(.iinc 4 1, 3, 0, 0)], (.goto (-42), 3, (0, 0, 0), [3])),
  (64, [(.iinc 3 1, 3, 0, 0)], (.goto (-62), 3, (0, 0, 0), [1])),
  (70, [(.iload_n 2, 1, 0, 0)], (.ireturn, 1, (0, 0, 0), []))])
def am_X10_begin : ab_M := (4, [], [
  (0, [(.iconst 0, 1, 0, 0), (.istore_n 2, 1, 0, 0), (.iconst 0, 1, 0, 0), (.istore_n 3, 1, 0, 0)], (.nop, 0, (0, 0, 0), [1])),
  (4, [(.iload_n 3, 1, 0, 0), (.aload_n 0, 1, 0, 0), (.getfield 22, 3, 10, 0), (.getfield 59, 3, 6, 2)], (.if_icmp .ge 41, 3, (0, 0, 0), [5, 2])),
  (15, [(.aload_n 0, 1, 0, 0), (.getfield 26, 3, 10, 1), (.getfield 85, 3, 3, 1), (.iload_n 1, 1, 0, 0), (.iaload, 1, 0, 0), (.iload_n 3, 1, 0, 0), (.ishr, 1, 0, 0), (.iconst 1, 1, 0, 0), (.iand, 1, 0, 0)], (.ifCond .eq 19, 3, (0, 0, 0), [4, 3])),
  (31, [(.iload_n 2, 1, 0, 0), (.aload_n 0, 1, 0, 0), (.getfield 26, 3, 10, 1), (.getfield 88, 3, 3, 2), (.iload_n 1, 1, 0, 0), (.iaload, 1, 0, 0), (.iload_n 3, 1, 0, 0), (.iconst 3, 1, 0, 0), (.imul, 1, 0, 0), (.ishl, 1, 0, 0), (.ior, 1, 0, 0), (.istore_n 2, 1, 0, 0)], (.nop, 0, (0, 0, 0), [4])),
  (47, [(.iinc 3 1, 3, 0, 0)], (.goto (-46), 3, (0, 0, 0), [1])),
  (53, [(.iload_n 2, 1, 0, 0)], (.ireturn, 1, (0, 0, 0), []))])
def am_X10_dropLonely : ab_M := (5, [], [
  (0, [(.iconst 0, 1, 0, 0), (.istore_n 1, 1, 0, 0), (.iconst 0, 1, 0, 0), (.istore_n 2, 1, 0, 0)], (.nop, 0, (0, 0, 0), [1])),
  (4, [(.iload_n 2, 1, 0, 0), (.aload_n 0, 1, 0, 0), (.getfield 22, 3, 10, 0), (.getfield 45, 3, 6, 6)], (.if_icmp .ge 92, 3, (0, 0, 0), [14, 2])),
  (15, [(.iconst 0, 1, 0, 0), (.istore_n 3, 1, 0, 0)], (.nop, 0, (0, 0, 0), [3])),
  (17, [(.iload_n 3, 1, 0, 0), (.aload_n 0, 1, 0, 0), (.getfield 22, 3, 10, 0), (.getfield 59, 3, 6, 2)], (.if_icmp .ge 73, 3, (0, 0, 0), [13, 4])),
  (28, [(.iconst 0, 1, 0, 0), (.istore 4, 2, 0, 0)], (.nop, 0, (0, 0, 0), [5])),
  (31, [(.iload 4, 2, 0, 0), (.aload_n 0, 1, 0, 0), (.getfield 22, 3, 10, 0), (.getfield 62, 3, 6, 5)], (.if_icmp .ge 52, 3, (0, 0, 0), [12, 6])),
  (43, [(.aload_n 0, 1, 0, 0), (.iload_n 2, 1, 0, 0), (.iload_n 3, 1, 0, 0), (.iload 4, 2, 0, 0)], (.invokevirtual 65, 3, (106, 4, 10), [7])),
  (51, [], (.ifCond .eq 35, 3, (0, 0, 0), [11, 8])),
  (54, [(.aload_n 0, 1, 0, 0), (.iload_n 2, 1, 0, 0), (.iload_n 3, 1, 0, 0), (.iload 4, 2, 0, 0)], (.invokevirtual 91, 3, (111, 4, 10), [9])),
  (62, [], (.ifCond .eq 24, 3, (0, 0, 0), [11, 10])),
  (65, [(.aload_n 0, 1, 0, 0), (.getfield 9, 3, 10, 2), (.iload_n 2, 1, 0, 0), (.dup2, 1, 0, 0), (.iaload, 1, 0, 0), (.iconst 1, 1, 0, 0), (.iload_n 3, 1, 0, 0), (.iconst 3, 1, 0, 0), (.imul, 1, 0, 0), (.iload 4, 2, 0, 0), (.iadd, 1, 0, 0), (.ishl, 1, 0, 0), (.iconst (-1), 1, 0, 0), (.ixor, 1, 0, 0), (.iand, 1, 0, 0), (.iastore, 1, 0, 0), (.iconst 1, 1, 0, 0), (.istore_n 1, 1, 0, 0)], (.nop, 0, (0, 0, 0), [11])),
  (86, [(.iinc 4 1, 3, 0, 0)], (.goto (-58), 3, (0, 0, 0), [5])),
  (92, [(.iinc 3 1, 3, 0, 0)], (.goto (-78), 3, (0, 0, 0), [3])),
  (98, [(.iinc 2 1, 3, 0, 0)], (.goto (-97), 3, (0, 0, 0), [1])),
  (104, [(.iload_n 1, 1, 0, 0)], (.ireturn, 1, (1, 0, 0), []))])
def am_X10_isLonely : ab_M := (5, [], [
  (0, [(.iconst 0, 1, 0, 0), (.istore 4, 2, 0, 0)], (.nop, 0, (0, 0, 0), [1])),
  (3, [(.iload 4, 2, 0, 0), (.aload_n 0, 1, 0, 0), (.getfield 22, 3, 10, 0), (.getfield 45, 3, 6, 6)], (.if_icmp .ge 29, 3, (0, 0, 0), [7, 2])),
  (15, [(.iload 4, 2, 0, 0), (.iload_n 1, 1, 0, 0)], (.if_icmp .eq 17, 3, (0, 0, 0), [6, 3])),
  (21, [(.aload_n 0, 1, 0, 0), (.iload_n 1, 1, 0, 0), (.iload_n 2, 1, 0, 0), (.iload_n 3, 1, 0, 0), (.iload 4, 2, 0, 0)], (.invokevirtual 94, 3, (112, 5, 10), [4])),
  (30, [], (.ifCond .ne 5, 3, (0, 0, 0), [6, 5])),
  (33, [(.iconst 1, 1, 0, 0)], (.ireturn, 1, (1, 0, 0), [])),
  (35, [(.iinc 4 1, 3, 0, 0)], (.goto (-35), 3, (0, 0, 0), [1])),
  (41, [(.iconst 0, 1, 0, 0)], (.ireturn, 1, (1, 0, 0), []))])
def am_X10_hasPartner : ab_M := (9, [], [
  (0, [(.aload_n 0, 1, 0, 0), (.getfield 26, 3, 10, 1), (.getfield 98, 3, 3, 4), (.iload_n 1, 1, 0, 0), (.iload_n 2, 1, 0, 0), (.iload 4, 2, 0, 0)], (.invokestatic 101, 3, (27, 3, 200), [1])),
  (14, [(.iaload, 1, 0, 0), (.istore 5, 2, 0, 0), (.aload_n 0, 1, 0, 0), (.getfield 26, 3, 10, 1), (.getfield 104, 3, 3, 6), (.iload_n 1, 1, 0, 0), (.bipush 6, 2, 0, 0), (.imul, 1, 0, 0), (.iload_n 2, 1, 0, 0), (.iadd, 1, 0, 0), (.iaload, 1, 0, 0), (.istore 6, 2, 0, 0), (.iconst 0, 1, 0, 0), (.istore 7, 2, 0, 0)], (.nop, 0, (0, 0, 0), [2])),
  (36, [(.iload 7, 2, 0, 0), (.aload_n 0, 1, 0, 0), (.getfield 22, 3, 10, 0), (.getfield 59, 3, 6, 2)], (.if_icmp .ge 75, 3, (0, 0, 0), [9, 3])),
  (48, [(.iload 5, 2, 0, 0), (.iload 7, 2, 0, 0), (.ishr, 1, 0, 0), (.iconst 1, 1, 0, 0), (.iand, 1, 0, 0)], (.ifCond .eq 59, 3, (0, 0, 0), [8, 4])),
  (58, [(.aload_n 0, 1, 0, 0), (.getfield 9, 3, 10, 2), (.iload 4, 2, 0, 0), (.iaload, 1, 0, 0), (.iload 7, 2, 0, 0), (.iconst 3, 1, 0, 0), (.imul, 1, 0, 0), (.ishr, 1, 0, 0), (.bipush 7, 2, 0, 0), (.iand, 1, 0, 0), (.istore 8, 2, 0, 0), (.iload 6, 2, 0, 0), (.aload_n 0, 1, 0, 0), (.getfield 26, 3, 10, 1), (.getfield 104, 3, 3, 6), (.iload 4, 2, 0, 0), (.bipush 6, 2, 0, 0), (.imul, 1, 0, 0), (.iload 7, 2, 0, 0), (.iadd, 1, 0, 0), (.iaload, 1, 0, 0), (.iand, 1, 0, 0)], (.ifCond .eq 13, 3, (0, 0, 0), [6, 5])),
  (97, [(.iload 8, 2, 0, 0), (.iconst 1, 1, 0, 0), (.iload_n 3, 1, 0, 0), (.ishl, 1, 0, 0), (.iconst (-1), 1, 0, 0), (.ixor, 1, 0, 0), (.iand, 1, 0, 0), (.istore 8, 2, 0, 0)], (.nop, 0, (0, 0, 0), [6])),
  (107, [(.iload 8, 2, 0, 0)], (.ifCond .eq 5, 3, (0, 0, 0), [8, 7])),
  (112, [(.iconst 1, 1, 0, 0)], (.ireturn, 1, (1, 0, 0), [])),
  (114, [(.iinc 7 1, 3, 0, 0)], (.goto (-81), 3, (0, 0, 0), [2])),
  (120, [(.iconst 0, 1, 0, 0)], (.ireturn, 1, (1, 0, 0), []))])
def am_X10_dropCrowded : ab_M := (3, [], [
  (0, [(.iconst 0, 1, 0, 0), (.istore_n 1, 1, 0, 0), (.iconst 0, 1, 0, 0), (.istore_n 2, 1, 0, 0)], (.nop, 0, (0, 0, 0), [1])),
  (4, [(.iload_n 2, 1, 0, 0), (.iconst 4, 1, 0, 0)], (.if_icmp .ge 38, 3, (0, 0, 0), [9, 2])),
  (9, [(.aload_n 0, 1, 0, 0), (.aload_n 0, 1, 0, 0), (.aload_n 0, 1, 0, 0), (.getfield 22, 3, 10, 0), (.getfield 107, 3, 6, 12), (.iload_n 2, 1, 0, 0)], (.invokevirtual 110, 3, (114, 3, 10), [3])),
  (22, [], (.invokevirtual 114, 3, (115, 2, 10), [4])),
  (25, [], (.ifCond .ne 7, 3, (0, 0, 0), [6, 5])),
  (28, [(.iload_n 1, 1, 0, 0)], (.ifCond .eq 7, 3, (0, 0, 0), [7, 6])),
  (32, [(.iconst 1, 1, 0, 0)], (.goto 4, 3, (0, 0, 0), [8])),
  (36, [(.iconst 0, 1, 0, 0)], (.nop, 0, (0, 0, 0), [8])),
  (37, [(.istore_n 1, 1, 0, 0), (.iinc 2 1, 3, 0, 0)], (.goto (-37), 3, (0, 0, 0), [1])),
  (44, [(.iconst 0, 1, 0, 0), (.istore_n 2, 1, 0, 0)], (.nop, 0, (0, 0, 0), [10])),
  (46, [(.iload_n 2, 1, 0, 0), (.iconst 4, 1, 0, 0)], (.if_icmp .ge 38, 3, (0, 0, 0), [18, 11])),
  (51, [(.aload_n 0, 1, 0, 0), (.aload_n 0, 1, 0, 0), (.aload_n 0, 1, 0, 0), (.getfield 22, 3, 10, 0), (.getfield 118, 3, 6, 13), (.iload_n 2, 1, 0, 0)], (.invokevirtual 110, 3, (114, 3, 10), [12])),
  (64, [], (.invokevirtual 114, 3, (115, 2, 10), [13])),
  (67, [], (.ifCond .ne 7, 3, (0, 0, 0), [15, 14])),
  (70, [(.iload_n 1, 1, 0, 0)], (.ifCond .eq 7, 3, (0, 0, 0), [16, 15])),
  (74, [(.iconst 1, 1, 0, 0)], (.goto 4, 3, (0, 0, 0), [17])),
  (78, [(.iconst 0, 1, 0, 0)], (.nop, 0, (0, 0, 0), [17])),
  (79, [(.istore_n 1, 1, 0, 0), (.iinc 2 1, 3, 0, 0)], (.goto (-37), 3, (0, 0, 0), [10])),
  (86, [(.iload_n 1, 1, 0, 0)], (.ireturn, 1, (1, 0, 0), []))])
def am_X10_lessonsOf : ab_M := (5, [], [
  (0, [(.iconst 0, 1, 0, 0), (.istore_n 3, 1, 0, 0), (.iconst 0, 1, 0, 0), (.istore 4, 2, 0, 0)], (.nop, 0, (0, 0, 0), [1])),
  (5, [(.iload 4, 2, 0, 0), (.aload_n 0, 1, 0, 0), (.getfield 22, 3, 10, 0), (.getfield 45, 3, 6, 6)], (.if_icmp .ge 24, 3, (0, 0, 0), [5, 2])),
  (17, [(.aload_n 1, 1, 0, 0), (.iload 4, 2, 0, 0), (.iaload, 1, 0, 0), (.iload_n 2, 1, 0, 0)], (.if_icmp .ne 10, 3, (0, 0, 0), [4, 3])),
  (25, [(.iload_n 3, 1, 0, 0), (.iconst 1, 1, 0, 0), (.iload 4, 2, 0, 0), (.ishl, 1, 0, 0), (.ior, 1, 0, 0), (.istore_n 3, 1, 0, 0)], (.nop, 0, (0, 0, 0), [4])),
  (32, [(.iinc 4 1, 3, 0, 0)], (.goto (-30), 3, (0, 0, 0), [1])),
  (38, [(.iload_n 3, 1, 0, 0)], (.ireturn, 1, (0, 0, 0), []))])
def am_X10_crowdGroup : ab_M := (6, [], [
  (0, [(.iconst 0, 1, 0, 0), (.istore_n 2, 1, 0, 0)], (.nop, 0, (0, 0, 0), [1])),
  (2, [(.iload_n 2, 1, 0, 0), (.aload_n 0, 1, 0, 0), (.getfield 22, 3, 10, 0), (.getfield 45, 3, 6, 6)], (.if_icmp .ge 20, 3, (0, 0, 0), [4, 2])),
  (13, [(.aload_n 0, 1, 0, 0), (.getfield 15, 3, 10, 3), (.iload_n 2, 1, 0, 0), (.aload_n 0, 1, 0, 0), (.iload_n 2, 1, 0, 0)], (.invokevirtual 121, 3, (116, 2, 10), [3])),
  (23, [(.iastore, 1, 0, 0), (.iinc 2 1, 3, 0, 0)], (.goto (-25), 3, (0, 0, 0), [1])),
  (30, [(.iconst 0, 1, 0, 0), (.istore_n 2, 1, 0, 0), (.iconst 1, 1, 0, 0), (.istore_n 3, 1, 0, 0)], (.nop, 0, (0, 0, 0), [5])),
  (34, [(.iload_n 3, 1, 0, 0), (.iload_n 1, 1, 0, 0)], (.if_icmp .gt 91, 3, (0, 0, 0), [25, 6])),
  (39, [(.iload_n 3, 1, 0, 0), (.iload_n 1, 1, 0, 0), (.iconst (-1), 1, 0, 0), (.ixor, 1, 0, 0), (.iand, 1, 0, 0)], (.ifCond .ne 77, 3, (0, 0, 0), [24, 7])),
  (47, [(.aload_n 0, 1, 0, 0), (.iload_n 3, 1, 0, 0)], (.invokevirtual 124, 3, (117, 2, 10), [8])),
  (52, [(.istore 4, 2, 0, 0), (.iload 4, 2, 0, 0)], (.invokestatic 127, 3, (277, 1, 200), [9])),
  (59, [(.aload_n 0, 1, 0, 0), (.iload_n 3, 1, 0, 0)], (.invokevirtual 132, 3, (118, 2, 10), [10])),
  (64, [(.isub, 1, 0, 0), (.istore 5, 2, 0, 0), (.iload 5, 2, 0, 0)], (.ifCond .ge 23, 3, (0, 0, 0), [17, 11])),
  (72, [(.aload_n 0, 1, 0, 0)], (.invokevirtual 135, 3, (119, 1, 10), [12])),
  (76, [], (.ifCond .ne 7, 3, (0, 0, 0), [14, 13])),
  (79, [(.iload_n 2, 1, 0, 0)], (.ifCond .eq 7, 3, (0, 0, 0), [15, 14])),
  (83, [(.iconst 1, 1, 0, 0)], (.goto 4, 3, (0, 0, 0), [16])),
  (87, [(.iconst 0, 1, 0, 0)], (.nop, 0, (0, 0, 0), [16])),
  (88, [(.istore_n 2, 1, 0, 0)], (.goto 32, 3, (0, 0, 0), [24])),
  (92, [(.iload 5, 2, 0, 0)], (.ifCond .ne 27, 3, (0, 0, 0), [24, 18])),
  (97, [(.aload_n 0, 1, 0, 0), (.iload_n 1, 1, 0, 0), (.iload_n 3, 1, 0, 0), (.iconst (-1), 1, 0, 0), (.ixor, 1, 0, 0), (.iand, 1, 0, 0), (.iload 4, 2, 0, 0)], (.invokevirtual 138, 3, (120, 3, 10), [19])),
  (108, [], (.ifCond .ne 7, 3, (0, 0, 0), [21, 20])),
  (111, [(.iload_n 2, 1, 0, 0)], (.ifCond .eq 7, 3, (0, 0, 0), [22, 21])),
  (115, [(.iconst 1, 1, 0, 0)], (.goto 4, 3, (0, 0, 0), [23])),
  (119, [(.iconst 0, 1, 0, 0)], (.nop, 0, (0, 0, 0), [23])),
  (120, [(.istore_n 2, 1, 0, 0)], (.nop, 0, (0, 0, 0), [24])),
  (121, [(.iinc 3 1, 3, 0, 0)], (.goto (-90), 3, (0, 0, 0), [5])),
  (127, [(.iload_n 2, 1, 0, 0)], (.ireturn, 1, (1, 0, 0), []))])
def am_X10_coverLeft : ab_M := (4, [], [
  (0, [(.iconst 0, 1, 0, 0), (.istore_n 2, 1, 0, 0), (.iconst 0, 1, 0, 0), (.istore_n 3, 1, 0, 0)], (.nop, 0, (0, 0, 0), [1])),
  (4, [(.iload_n 3, 1, 0, 0), (.aload_n 0, 1, 0, 0), (.getfield 22, 3, 10, 0), (.getfield 59, 3, 6, 2)], (.if_icmp .ge 42, 3, (0, 0, 0), [5, 2])),
  (15, [(.aload_n 0, 1, 0, 0), (.getfield 9, 3, 10, 2), (.iload_n 1, 1, 0, 0), (.iaload, 1, 0, 0), (.iload_n 3, 1, 0, 0), (.iconst 3, 1, 0, 0), (.imul, 1, 0, 0), (.ishr, 1, 0, 0), (.bipush 7, 2, 0, 0), (.iand, 1, 0, 0)], (.ifCond .eq 20, 3, (0, 0, 0), [4, 3])),
  (31, [(.iload_n 2, 1, 0, 0), (.aload_n 0, 1, 0, 0), (.getfield 26, 3, 10, 1), (.getfield 104, 3, 3, 6), (.iload_n 1, 1, 0, 0), (.bipush 6, 2, 0, 0), (.imul, 1, 0, 0), (.iload_n 3, 1, 0, 0), (.iadd, 1, 0, 0), (.iaload, 1, 0, 0), (.ior, 1, 0, 0), (.istore_n 2, 1, 0, 0)], (.nop, 0, (0, 0, 0), [4])),
  (48, [(.iinc 3 1, 3, 0, 0)], (.goto (-47), 3, (0, 0, 0), [1])),
  (54, [(.iload_n 2, 1, 0, 0)], (.ireturn, 1, (0, 0, 0), []))])
def am_X10_coverOfSet : ab_M := (4, [], [
  (0, [(.iconst 0, 1, 0, 0), (.istore_n 2, 1, 0, 0), (.iconst 0, 1, 0, 0), (.istore_n 3, 1, 0, 0)], (.nop, 0, (0, 0, 0), [1])),
  (4, [(.iload_n 3, 1, 0, 0), (.aload_n 0, 1, 0, 0), (.getfield 22, 3, 10, 0), (.getfield 45, 3, 6, 6)], (.if_icmp .ge 26, 3, (0, 0, 0), [5, 2])),
  (15, [(.iload_n 1, 1, 0, 0), (.iload_n 3, 1, 0, 0), (.ishr, 1, 0, 0), (.iconst 1, 1, 0, 0), (.iand, 1, 0, 0)], (.ifCond .eq 12, 3, (0, 0, 0), [4, 3])),
  (23, [(.iload_n 2, 1, 0, 0), (.aload_n 0, 1, 0, 0), (.getfield 15, 3, 10, 3), (.iload_n 3, 1, 0, 0), (.iaload, 1, 0, 0), (.ior, 1, 0, 0), (.istore_n 2, 1, 0, 0)], (.nop, 0, (0, 0, 0), [4])),
  (32, [(.iinc 3 1, 3, 0, 0)], (.goto (-31), 3, (0, 0, 0), [1])),
  (38, [(.iload_n 2, 1, 0, 0)], (.ireturn, 1, (0, 0, 0), []))])
def am_X10_lengthOfSet : ab_M := (4, [], [
  (0, [(.iconst 0, 1, 0, 0), (.istore_n 2, 1, 0, 0), (.iconst 0, 1, 0, 0), (.istore_n 3, 1, 0, 0)], (.nop, 0, (0, 0, 0), [1])),
  (4, [(.iload_n 3, 1, 0, 0), (.aload_n 0, 1, 0, 0), (.getfield 22, 3, 10, 0), (.getfield 45, 3, 6, 6)], (.if_icmp .ge 29, 3, (0, 0, 0), [5, 2])),
  (15, [(.iload_n 1, 1, 0, 0), (.iload_n 3, 1, 0, 0), (.ishr, 1, 0, 0), (.iconst 1, 1, 0, 0), (.iand, 1, 0, 0)], (.ifCond .eq 15, 3, (0, 0, 0), [4, 3])),
  (23, [(.iload_n 2, 1, 0, 0), (.aload_n 0, 1, 0, 0), (.getfield 22, 3, 10, 0), (.getfield 142, 3, 6, 14), (.iload_n 3, 1, 0, 0), (.iaload, 1, 0, 0), (.iadd, 1, 0, 0), (.istore_n 2, 1, 0, 0)], (.nop, 0, (0, 0, 0), [4])),
  (35, [(.iinc 3 1, 3, 0, 0)], (.goto (-34), 3, (0, 0, 0), [1])),
  (41, [(.iload_n 2, 1, 0, 0)], (.ireturn, 1, (0, 0, 0), []))])
def am_X10_dropAll : ab_M := (3, [], [
  (0, [(.iconst 0, 1, 0, 0), (.istore_n 1, 1, 0, 0), (.iconst 0, 1, 0, 0), (.istore_n 2, 1, 0, 0)], (.nop, 0, (0, 0, 0), [1])),
  (4, [(.iload_n 2, 1, 0, 0), (.aload_n 0, 1, 0, 0), (.getfield 22, 3, 10, 0), (.getfield 45, 3, 6, 6)], (.if_icmp .ge 42, 3, (0, 0, 0), [7, 2])),
  (15, [(.iload_n 1, 1, 0, 0)], (.ifCond .ne 12, 3, (0, 0, 0), [4, 3])),
  (19, [(.aload_n 0, 1, 0, 0), (.getfield 9, 3, 10, 2), (.iload_n 2, 1, 0, 0), (.iaload, 1, 0, 0)], (.ifCond .eq 7, 3, (0, 0, 0), [5, 4])),
  (28, [(.iconst 1, 1, 0, 0)], (.goto 4, 3, (0, 0, 0), [6])),
  (32, [(.iconst 0, 1, 0, 0)], (.nop, 0, (0, 0, 0), [6])),
  (33, [(.istore_n 1, 1, 0, 0), (.aload_n 0, 1, 0, 0), (.getfield 9, 3, 10, 2), (.iload_n 2, 1, 0, 0), (.iconst 0, 1, 0, 0), (.iastore, 1, 0, 0), (.aload_n 0, 1, 0, 0), (.getfield 15, 3, 10, 3), (.iload_n 2, 1, 0, 0), (.iconst 0, 1, 0, 0), (.iastore, 1, 0, 0), (.iinc 2 1, 3, 0, 0)], (.goto (-47), 3, (0, 0, 0), [1])),
  (54, [(.iload_n 1, 1, 0, 0)], (.ireturn, 1, (1, 0, 0), []))])
def am_X10_dropCovering : ab_M := (7, [], [
  (0, [(.iconst 0, 1, 0, 0), (.istore_n 3, 1, 0, 0), (.iconst 0, 1, 0, 0), (.istore 4, 2, 0, 0)], (.nop, 0, (0, 0, 0), [1])),
  (5, [(.iload 4, 2, 0, 0), (.aload_n 0, 1, 0, 0), (.getfield 22, 3, 10, 0), (.getfield 45, 3, 6, 6)], (.if_icmp .ge 111, 3, (0, 0, 0), [11, 2])),
  (17, [(.iconst 0, 1, 0, 0), (.istore 5, 2, 0, 0)], (.nop, 0, (0, 0, 0), [3])),
  (20, [(.iload 5, 2, 0, 0), (.aload_n 0, 1, 0, 0), (.getfield 22, 3, 10, 0), (.getfield 59, 3, 6, 2)], (.if_icmp .ge 90, 3, (0, 0, 0), [10, 4])),
  (32, [(.bipush 7, 2, 0, 0), (.iload 5, 2, 0, 0), (.iconst 3, 1, 0, 0), (.imul, 1, 0, 0), (.ishl, 1, 0, 0), (.istore 6, 2, 0, 0), (.iload_n 1, 1, 0, 0), (.iload 4, 2, 0, 0), (.ishr, 1, 0, 0), (.iconst 1, 1, 0, 0), (.iand, 1, 0, 0)], (.ifCond .eq 66, 3, (0, 0, 0), [9, 5])),
  (50, [(.aload_n 0, 1, 0, 0), (.getfield 9, 3, 10, 2), (.iload 4, 2, 0, 0), (.iaload, 1, 0, 0), (.iload 6, 2, 0, 0), (.iand, 1, 0, 0)], (.ifCond .eq 53, 3, (0, 0, 0), [9, 6])),
  (63, [(.aload_n 0, 1, 0, 0), (.getfield 26, 3, 10, 1), (.getfield 104, 3, 3, 6), (.iload 4, 2, 0, 0), (.bipush 6, 2, 0, 0), (.imul, 1, 0, 0), (.iload 5, 2, 0, 0), (.iadd, 1, 0, 0), (.iaload, 1, 0, 0), (.iload_n 2, 1, 0, 0), (.iand, 1, 0, 0)], (.ifCond .eq 32, 3, (0, 0, 0), [9, 7])),
  (84, [(.aload_n 0, 1, 0, 0), (.getfield 9, 3, 10, 2), (.iload 4, 2, 0, 0), (.dup2, 1, 0, 0), (.iaload, 1, 0, 0), (.iload 6, 2, 0, 0), (.iconst (-1), 1, 0, 0), (.ixor, 1, 0, 0), (.iand, 1, 0, 0), (.iastore, 1, 0, 0), (.aload_n 0, 1, 0, 0), (.getfield 15, 3, 10, 3), (.iload 4, 2, 0, 0), (.aload_n 0, 1, 0, 0), (.iload 4, 2, 0, 0)], (.invokevirtual 121, 3, (116, 2, 10), [8])),
  (110, [(.iastore, 1, 0, 0), (.iconst 1, 1, 0, 0), (.istore_n 3, 1, 0, 0)], (.nop, 0, (0, 0, 0), [9])),
  (113, [(.iinc 5 1, 3, 0, 0)], (.goto (-96), 3, (0, 0, 0), [3])),
  (119, [(.iinc 4 1, 3, 0, 0)], (.goto (-117), 3, (0, 0, 0), [1])),
  (125, [(.iload_n 3, 1, 0, 0)], (.ireturn, 1, (1, 0, 0), []))])
def am_X11_init : ab_M := (1, [], [
  (0, [(.aload_n 0, 1, 0, 0), (.invokespecial 1, 3, 0, 0), (.aload_n 0, 1, 0, 0), (.new 7, 3, 6, 0), (.dup, 1, 0, 0)], (.invokespecial 9, 3, (54, 1, 101), [1])),
  (12, [(.putfield 10, 3, 11, 0), (.aload_n 0, 1, 0, 0), (.new 16, 3, 9, 0), (.dup, 1, 0, 0)], (.invokespecial 18, 3, (97, 1, 101), [2])),
  (23, [(.putfield 19, 3, 11, 1), (.aload_n 0, 1, 0, 0), (.new 16, 3, 9, 0), (.dup, 1, 0, 0)], (.invokespecial 18, 3, (97, 1, 101), [3])),
  (34, [(.putfield 23, 3, 11, 2), (.aload_n 0, 1, 0, 0), (.new 26, 3, 2, 0), (.dup, 1, 0, 0), (.aload_n 0, 1, 0, 0), (.getfield 10, 3, 11, 0)], (.invokespecial 28, 3, (12, 2, 100), [4])),
  (49, [(.putfield 31, 3, 11, 3), (.aload_n 0, 1, 0, 0), (.new 35, 3, 3, 0), (.dup, 1, 0, 0), (.aload_n 0, 1, 0, 0), (.getfield 10, 3, 11, 0)], (.invokespecial 37, 3, (25, 2, 100), [5])),
  (64, [(.putfield 38, 3, 11, 4), (.aload_n 0, 1, 0, 0), (.new 42, 3, 7, 0), (.dup, 1, 0, 0), (.aload_n 0, 1, 0, 0), (.getfield 10, 3, 11, 0), (.aload_n 0, 1, 0, 0), (.getfield 38, 3, 11, 4)], (.invokespecial 44, 3, (73, 3, 100), [6])),
  (83, [(.putfield 47, 3, 11, 5), (.aload_n 0, 1, 0, 0), (.new 51, 3, 10, 0), (.dup, 1, 0, 0), (.aload_n 0, 1, 0, 0), (.getfield 10, 3, 11, 0), (.aload_n 0, 1, 0, 0), (.getfield 38, 3, 11, 4)], (.invokespecial 53, 3, (103, 3, 100), [7])),
  (102, [(.putfield 54, 3, 11, 6), (.aload_n 0, 1, 0, 0), (.new 58, 3, 5, 0), (.dup, 1, 0, 0), (.aload_n 0, 1, 0, 0), (.getfield 10, 3, 11, 0), (.aload_n 0, 1, 0, 0), (.getfield 31, 3, 11, 3), (.aload_n 0, 1, 0, 0), (.getfield 38, 3, 11, 4), (.aload_n 0, 1, 0, 0), (.getfield 47, 3, 11, 5)], (.invokespecial 60, 3, (49, 5, 100), [8])),
  (129, [(.putfield 63, 3, 11, 7), (.aload_n 0, 1, 0, 0), (.new 67, 3, 8, 0), (.dup, 1, 0, 0), (.aload_n 0, 1, 0, 0), (.getfield 10, 3, 11, 0)], (.invokespecial 69, 3, (93, 2, 100), [9])),
  (144, [(.putfield 70, 3, 11, 8), (.aload_n 0, 1, 0, 0), (.new 74, 3, 4, 0), (.dup, 1, 0, 0), (.aload_n 0, 1, 0, 0), (.getfield 10, 3, 11, 0), (.aload_n 0, 1, 0, 0), (.getfield 31, 3, 11, 3)], (.invokespecial 76, 3, (44, 3, 100), [10])),
  (163, [(.putfield 79, 3, 11, 9), (.aload_n 0, 1, 0, 0), (.new 83, 3, 1, 0), (.dup, 1, 0, 0), (.aload_n 0, 1, 0, 0), (.getfield 10, 3, 11, 0)], (.invokespecial 85, 3, (8, 2, 100), [11])),
  (178, [(.putfield 86, 3, 11, 10), (.aload_n 0, 1, 0, 0), (.new 90, 3, 0, 0), (.dup, 1, 0, 0), (.aload_n 0, 1, 0, 0), (.getfield 10, 3, 11, 0), (.aload_n 0, 1, 0, 0), (.getfield 31, 3, 11, 3), (.aload_n 0, 1, 0, 0), (.getfield 54, 3, 11, 6)], (.invokespecial 92, 3, (0, 4, 100), [12])),
  (201, [(.putfield 95, 3, 11, 11), (.aload_n 0, 1, 0, 0), (.bipush 7, 2, 0, 0), (.newarray .byte, 2, 0, 0), (.putfield 99, 3, 11, 12), (.aload_n 0, 1, 0, 0), (.iconst 0, 1, 0, 0), (.putfield 103, 3, 11, 13)], (.return_, 1, (0, 0, 0), []))])
def am_X11_setGrid : ab_M := (3, [], [
  (0, [(.iload_n 1, 1, 0, 0), (.iconst 1, 1, 0, 0)], (.if_icmp .lt 18, 3, (0, 0, 0), [4, 1])),
  (5, [(.iload_n 1, 1, 0, 0), (.iconst 2, 1, 0, 0)], (.if_icmp .gt 13, 3, (0, 0, 0), [4, 2])),
  (10, [(.iload_n 2, 1, 0, 0), (.iconst 1, 1, 0, 0)], (.if_icmp .lt 8, 3, (0, 0, 0), [4, 3])),
  (15, [(.iload_n 2, 1, 0, 0), (.iconst 3, 1, 0, 0)], (.if_icmp .le 13, 3, (0, 0, 0), [5, 4])),
  (20, [], (.athrow, 0, (0, 109, 0), [])),
  (30, [(.aload_n 0, 1, 0, 0), (.getfield 10, 3, 11, 0)], (.invokevirtual 114, 3, (69, 1, 6), [6])),
  (37, [], (.ifCond .eq 13, 3, (0, 0, 0), [8, 7])),
  (40, [], (.athrow, 0, (1, 120, 0), [])),
  (50, [(.aload_n 0, 1, 0, 0), (.getfield 10, 3, 11, 0), (.dup, 1, 0, 0), (.getfield 123, 3, 6, 8), (.iconst 1, 1, 0, 0), (.iadd, 1, 0, 0), (.putfield 123, 3, 6, 8), (.aload_n 0, 1, 0, 0), (.getfield 10, 3, 11, 0), (.iload_n 1, 1, 0, 0), (.putfield 126, 3, 6, 0), (.aload_n 0, 1, 0, 0), (.getfield 10, 3, 11, 0), (.iload_n 2, 1, 0, 0), (.putfield 129, 3, 6, 1), (.aload_n 0, 1, 0, 0), (.getfield 10, 3, 11, 0), (.iload_n 1, 1, 0, 0), (.iload_n 2, 1, 0, 0), (.imul, 1, 0, 0), (.putfield 132, 3, 6, 2), (.aload_n 0, 1, 0, 0), (.getfield 19, 3, 11, 1), (.iconst 0, 1, 0, 0), (.putfield 135, 3, 9, 0), (.aload_n 0, 1, 0, 0), (.getfield 10, 3, 11, 0), (.getfield 132, 3, 6, 2)], (.ireturn, 1, (0, 0, 0), []))])
def am_X11_addClass : ab_M := (4, [], [
  (0, [(.iload_n 2, 1, 0, 0), (.iconst (-1), 1, 0, 0)], (.if_icmp .eq 8, 3, (0, 0, 0), [2, 1])),
  (5, [(.aload_n 0, 1, 0, 0), (.iload_n 2, 1, 0, 0)], (.invokevirtual 139, 3, (168, 2, 11), [2])),
  (10, [(.iload_n 1, 1, 0, 0), (.iconst 1, 1, 0, 0)], (.if_icmp .lt 9, 3, (0, 0, 0), [4, 3])),
  (15, [(.iload_n 1, 1, 0, 0), (.bipush 99, 2, 0, 0)], (.if_icmp .le 13, 3, (0, 0, 0), [5, 4])),
  (21, [], (.athrow, 0, (0, 143, 0), [])),
  (31, [(.aload_n 0, 1, 0, 0), (.getfield 10, 3, 11, 0), (.getfield 145, 3, 6, 3), (.iconst 4, 1, 0, 0)], (.if_icmp .lt 13, 3, (0, 0, 0), [7, 6])),
  (42, [], (.athrow, 0, (1, 148, 0), [])),
  (52, [(.aload_n 0, 1, 0, 0), (.getfield 10, 3, 11, 0), (.getfield 145, 3, 6, 3), (.istore_n 3, 1, 0, 0), (.aload_n 0, 1, 0, 0), (.getfield 10, 3, 11, 0), (.dup, 1, 0, 0), (.getfield 123, 3, 6, 8), (.iconst 1, 1, 0, 0), (.iadd, 1, 0, 0), (.putfield 123, 3, 6, 8), (.aload_n 0, 1, 0, 0), (.getfield 10, 3, 11, 0), (.getfield 150, 3, 6, 9), (.iload_n 3, 1, 0, 0), (.iload_n 1, 1, 0, 0), (.iastore, 1, 0, 0), (.aload_n 0, 1, 0, 0), (.getfield 10, 3, 11, 0), (.getfield 154, 3, 6, 10), (.iload_n 3, 1, 0, 0), (.iload_n 2, 1, 0, 0), (.iastore, 1, 0, 0), (.aload_n 0, 1, 0, 0), (.getfield 10, 3, 11, 0), (.iload_n 3, 1, 0, 0), (.iconst 1, 1, 0, 0), (.iadd, 1, 0, 0), (.putfield 145, 3, 6, 3), (.iload_n 3, 1, 0, 0)], (.ireturn, 1, (0, 0, 0), []))])
def am_X11_addTeacher : ab_M := (1, [], [
  (0, [(.aload_n 0, 1, 0, 0), (.getfield 10, 3, 11, 0), (.getfield 157, 3, 6, 4), (.iconst 4, 1, 0, 0)], (.if_icmp .lt 13, 3, (0, 0, 0), [2, 1])),
  (11, [], (.athrow, 0, (1, 160, 0), [])),
  (21, [(.aload_n 0, 1, 0, 0), (.getfield 10, 3, 11, 0), (.dup, 1, 0, 0), (.getfield 123, 3, 6, 8), (.iconst 1, 1, 0, 0), (.iadd, 1, 0, 0), (.putfield 123, 3, 6, 8), (.aload_n 0, 1, 0, 0), (.getfield 10, 3, 11, 0), (.dup, 1, 0, 0), (.getfield 157, 3, 6, 4), (.iconst 1, 1, 0, 0), (.iadd, 1, 0, 0), (.putfield 157, 3, 6, 4), (.aload_n 0, 1, 0, 0), (.getfield 10, 3, 11, 0), (.getfield 157, 3, 6, 4), (.iconst 1, 1, 0, 0), (.isub, 1, 0, 0)], (.ireturn, 1, (0, 0, 0), []))])
def am_X11_addRoom : ab_M := (3, [], [
  (0, [(.iload_n 1, 1, 0, 0), (.iconst 1, 1, 0, 0)], (.if_icmp .lt 9, 3, (0, 0, 0), [2, 1])),
  (5, [(.iload_n 1, 1, 0, 0), (.bipush 99, 2, 0, 0)], (.if_icmp .le 13, 3, (0, 0, 0), [3, 2])),
  (11, [], (.athrow, 0, (0, 162, 0), [])),
  (21, [(.aload_n 0, 1, 0, 0), (.getfield 10, 3, 11, 0), (.getfield 164, 3, 6, 5), (.iconst 3, 1, 0, 0)], (.if_icmp .lt 13, 3, (0, 0, 0), [5, 4])),
  (32, [], (.athrow, 0, (1, 167, 0), [])),
  (42, [(.aload_n 0, 1, 0, 0), (.getfield 10, 3, 11, 0), (.getfield 164, 3, 6, 5), (.istore_n 2, 1, 0, 0), (.aload_n 0, 1, 0, 0), (.getfield 10, 3, 11, 0), (.dup, 1, 0, 0), (.getfield 123, 3, 6, 8), (.iconst 1, 1, 0, 0), (.iadd, 1, 0, 0), (.putfield 123, 3, 6, 8), (.aload_n 0, 1, 0, 0), (.getfield 10, 3, 11, 0), (.getfield 169, 3, 6, 11), (.iload_n 2, 1, 0, 0), (.iload_n 1, 1, 0, 0), (.iastore, 1, 0, 0), (.aload_n 0, 1, 0, 0), (.getfield 10, 3, 11, 0), (.iload_n 2, 1, 0, 0), (.iconst 1, 1, 0, 0), (.iadd, 1, 0, 0), (.putfield 164, 3, 6, 5), (.iload_n 2, 1, 0, 0)], (.ireturn, 1, (0, 0, 0), []))])
def am_X11_addLesson : ab_M := (5, [], [
  (0, [(.iload_n 1, 1, 0, 0)], (.ifCond .lt 14, 3, (0, 0, 0), [2, 1])),
  (4, [(.iload_n 1, 1, 0, 0), (.aload_n 0, 1, 0, 0), (.getfield 10, 3, 11, 0), (.getfield 145, 3, 6, 3)], (.if_icmp .lt 13, 3, (0, 0, 0), [3, 2])),
  (15, [], (.athrow, 0, (2, 174, 0), [])),
  (25, [(.aload_n 0, 1, 0, 0), (.iload_n 2, 1, 0, 0)], (.invokevirtual 177, 3, (167, 2, 11), [4])),
  (30, [(.iload_n 3, 1, 0, 0), (.iconst 1, 1, 0, 0)], (.if_icmp .lt 8, 3, (0, 0, 0), [6, 5])),
  (35, [(.iload_n 3, 1, 0, 0), (.iconst 2, 1, 0, 0)], (.if_icmp .le 13, 3, (0, 0, 0), [7, 6])),
  (40, [], (.athrow, 0, (0, 180, 0), [])),
  (50, [(.aload_n 0, 1, 0, 0), (.getfield 10, 3, 11, 0), (.getfield 182, 3, 6, 6), (.bipush 6, 2, 0, 0)], (.if_icmp .lt 13, 3, (0, 0, 0), [9, 8])),
  (62, [], (.athrow, 0, (1, 185, 0), [])),
  (72, [(.aload_n 0, 1, 0, 0), (.getfield 10, 3, 11, 0), (.getfield 182, 3, 6, 6), (.istore 4, 2, 0, 0), (.aload_n 0, 1, 0, 0), (.getfield 10, 3, 11, 0), (.dup, 1, 0, 0), (.getfield 123, 3, 6, 8), (.iconst 1, 1, 0, 0), (.iadd, 1, 0, 0), (.putfield 123, 3, 6, 8), (.aload_n 0, 1, 0, 0), (.getfield 10, 3, 11, 0), (.getfield 187, 3, 6, 12), (.iload 4, 2, 0, 0), (.iload_n 1, 1, 0, 0), (.iastore, 1, 0, 0), (.aload_n 0, 1, 0, 0), (.getfield 10, 3, 11, 0), (.getfield 190, 3, 6, 13), (.iload 4, 2, 0, 0), (.iload_n 2, 1, 0, 0), (.iastore, 1, 0, 0), (.aload_n 0, 1, 0, 0), (.getfield 10, 3, 11, 0), (.getfield 193, 3, 6, 14), (.iload 4, 2, 0, 0), (.iload_n 3, 1, 0, 0), (.iastore, 1, 0, 0), (.aload_n 0, 1, 0, 0), (.getfield 10, 3, 11, 0), (.iload 4, 2, 0, 0), (.iconst 1, 1, 0, 0), (.iadd, 1, 0, 0), (.putfield 182, 3, 6, 6), (.aload_n 0, 1, 0, 0), (.getfield 19, 3, 11, 1), (.iconst 0, 1, 0, 0), (.putfield 135, 3, 9, 0), (.iload 4, 2, 0, 0)], (.ireturn, 1, (0, 0, 0), []))])
def am_X11_addRule : ab_M := (5, [], [
  (0, [(.aload_n 0, 1, 0, 0), (.getfield 10, 3, 11, 0), (.iload_n 1, 1, 0, 0), (.iload_n 2, 1, 0, 0), (.iload_n 3, 1, 0, 0)], (.invokevirtual 196, 3, (70, 4, 6), [1])),
  (10, [], (.ifCond .ne 13, 3, (0, 0, 0), [3, 2])),
  (13, [], (.athrow, 0, (0, 200, 0), [])),
  (23, [(.aload_n 0, 1, 0, 0), (.getfield 10, 3, 11, 0), (.getfield 202, 3, 6, 7), (.bipush 10, 2, 0, 0)], (.if_icmp .lt 13, 3, (0, 0, 0), [5, 4])),
  (35, [], (.athrow, 0, (1, 205, 0), [])),
  (45, [(.aload_n 0, 1, 0, 0), (.getfield 10, 3, 11, 0), (.getfield 202, 3, 6, 7), (.istore 4, 2, 0, 0), (.aload_n 0, 1, 0, 0), (.getfield 10, 3, 11, 0), (.dup, 1, 0, 0), (.getfield 123, 3, 6, 8), (.iconst 1, 1, 0, 0), (.iadd, 1, 0, 0), (.putfield 123, 3, 6, 8), (.aload_n 0, 1, 0, 0), (.getfield 10, 3, 11, 0), (.getfield 207, 3, 6, 15), (.iload 4, 2, 0, 0), (.iload_n 1, 1, 0, 0), (.iastore, 1, 0, 0), (.aload_n 0, 1, 0, 0), (.getfield 10, 3, 11, 0), (.getfield 210, 3, 6, 16), (.iload 4, 2, 0, 0), (.iload_n 2, 1, 0, 0), (.iastore, 1, 0, 0), (.aload_n 0, 1, 0, 0), (.getfield 10, 3, 11, 0), (.getfield 213, 3, 6, 17), (.iload 4, 2, 0, 0), (.iload_n 3, 1, 0, 0), (.iastore, 1, 0, 0), (.aload_n 0, 1, 0, 0), (.getfield 10, 3, 11, 0), (.iload 4, 2, 0, 0), (.iconst 1, 1, 0, 0), (.iadd, 1, 0, 0), (.putfield 202, 3, 6, 7), (.iload 4, 2, 0, 0)], (.ireturn, 1, (0, 0, 0), []))])
def am_X11_dropRule : ab_M := (2, [], [
  (0, [(.aload_n 0, 1, 0, 0), (.iload_n 1, 1, 0, 0)], (.invokevirtual 216, 3, (171, 2, 11), [1])),
  (5, [(.aload_n 0, 1, 0, 0), (.getfield 10, 3, 11, 0), (.dup, 1, 0, 0), (.getfield 123, 3, 6, 8), (.iconst 1, 1, 0, 0), (.iadd, 1, 0, 0), (.putfield 123, 3, 6, 8), (.aload_n 0, 1, 0, 0), (.getfield 10, 3, 11, 0), (.iload_n 1, 1, 0, 0)], (.invokevirtual 219, 3, (71, 2, 6), [2])),
  (26, [(.aload_n 0, 1, 0, 0), (.getfield 10, 3, 11, 0), (.getfield 202, 3, 6, 7)], (.ireturn, 1, (0, 0, 0), []))])
def am_X11_left : ab_M := (2, [], [
  (0, [(.aload_n 0, 1, 0, 0), (.iload_n 1, 1, 0, 0)], (.invokevirtual 222, 3, (166, 2, 11), [1])),
  (5, [(.aload_n 0, 1, 0, 0), (.getfield 54, 3, 11, 6)], (.invokevirtual 225, 3, (104, 1, 10), [2])),
  (12, [(.aload_n 0, 1, 0, 0), (.getfield 54, 3, 11, 6), (.getfield 228, 3, 10, 2), (.iload_n 1, 1, 0, 0), (.iaload, 1, 0, 0)], (.invokestatic 231, 3, (277, 1, 200), [3])),
  (24, [], (.ireturn, 1, (0, 0, 0), []))])
def am_X11_leftAt : ab_M := (3, [], [
  (0, [(.aload_n 0, 1, 0, 0), (.iload_n 1, 1, 0, 0)], (.invokevirtual 222, 3, (166, 2, 11), [1])),
  (5, [(.aload_n 0, 1, 0, 0), (.getfield 54, 3, 11, 6)], (.invokevirtual 225, 3, (104, 1, 10), [2])),
  (12, [(.iload_n 2, 1, 0, 0)], (.ifCond .lt 19, 3, (0, 0, 0), [5, 3])),
  (16, [(.iload_n 2, 1, 0, 0), (.aload_n 0, 1, 0, 0), (.getfield 54, 3, 11, 6), (.getfield 228, 3, 10, 2), (.iload_n 1, 1, 0, 0), (.iaload, 1, 0, 0)], (.invokestatic 231, 3, (277, 1, 200), [4])),
  (29, [], (.if_icmp .lt 13, 3, (0, 0, 0), [6, 5])),
  (32, [], (.athrow, 0, (3, 239, 0), [])),
  (42, [(.aload_n 0, 1, 0, 0), (.getfield 54, 3, 11, 6), (.iload_n 1, 1, 0, 0), (.iload_n 2, 1, 0, 0)], (.invokevirtual 242, 3, (105, 3, 10), [7])),
  (51, [], (.ireturn, 1, (0, 0, 0), []))])
def am_X11_first : ab_M := (1, [], [
  (0, [(.aload_n 0, 1, 0, 0), (.getfield 38, 3, 11, 4), (.aload_n 0, 1, 0, 0), (.getfield 10, 3, 11, 0)], (.invokevirtual 246, 3, (56, 1, 6), [1])),
  (11, [], (.invokevirtual 250, 3, (26, 2, 3), [2])),
  (14, [(.aload_n 0, 1, 0, 0), (.aload_n 0, 1, 0, 0), (.getfield 47, 3, 11, 5)], (.invokevirtual 253, 3, (75, 1, 7), [3])),
  (22, [], (.invokevirtual 256, 3, (163, 2, 11), [4])),
  (25, [], (.ireturn, 1, (1, 0, 0), []))])
def am_X11_next : ab_M := (1, [], [
  (0, [(.aload_n 0, 1, 0, 0)], (.invokevirtual 260, 3, (165, 1, 11), [1])),
  (4, [(.aload_n 0, 1, 0, 0), (.aload_n 0, 1, 0, 0), (.getfield 47, 3, 11, 5), (.aload_n 0, 1, 0, 0), (.getfield 19, 3, 11, 1)], (.invokevirtual 263, 3, (76, 2, 7), [2])),
  (16, [], (.ifCond .eq 7, 3, (0, 0, 0), [4, 3])),
  (19, [(.iconst 0, 1, 0, 0)], (.goto 4, 3, (0, 0, 0), [5])),
  (23, [(.iconst (-1), 1, 0, 0)], (.nop, 0, (0, 0, 0), [5])),
  (24, [], (.invokevirtual 256, 3, (163, 2, 11), [6])),
  (27, [], (.ireturn, 1, (1, 0, 0), []))])
def am_X11_place : ab_M := (5, [], [
  (0, [(.aload_n 0, 1, 0, 0), (.iload_n 1, 1, 0, 0)], (.invokevirtual 222, 3, (166, 2, 11), [1])),
  (5, [(.aload_n 0, 1, 0, 0), (.iload_n 2, 1, 0, 0)], (.invokevirtual 267, 3, (169, 2, 11), [2])),
  (10, [(.aload_n 0, 1, 0, 0), (.iload_n 3, 1, 0, 0)], (.invokevirtual 139, 3, (168, 2, 11), [3])),
  (15, [(.iconst (-1), 1, 0, 0), (.istore 4, 2, 0, 0), (.aload_n 0, 1, 0, 0), (.getfield 19, 3, 11, 1), (.getfield 135, 3, 9, 0)], (.ifCond .eq 16, 3, (0, 0, 0), [6, 4])),
  (28, [(.aload_n 0, 1, 0, 0), (.getfield 19, 3, 11, 1), (.iload_n 1, 1, 0, 0)], (.invokevirtual 270, 3, (100, 2, 9), [5])),
  (36, [(.istore 4, 2, 0, 0)], (.goto 17, 3, (0, 0, 0), [7])),
  (41, [(.aload_n 0, 1, 0, 0), (.getfield 19, 3, 11, 1), (.aload_n 0, 1, 0, 0), (.getfield 10, 3, 11, 0), (.getfield 182, 3, 6, 6)], (.invokevirtual 273, 3, (98, 2, 9), [7])),
  (55, [(.aload_n 0, 1, 0, 0), (.getfield 19, 3, 11, 1), (.getfield 276, 3, 9, 2), (.iload_n 1, 1, 0, 0), (.iload_n 2, 1, 0, 0), (.iastore, 1, 0, 0), (.aload_n 0, 1, 0, 0), (.getfield 19, 3, 11, 1), (.getfield 279, 3, 9, 3), (.iload_n 1, 1, 0, 0), (.iload_n 3, 1, 0, 0), (.iastore, 1, 0, 0), (.iload 4, 2, 0, 0)], (.ireturn, 1, (0, 0, 0), []))])
def am_X11_at : ab_M := (2, [], [
  (0, [(.aload_n 0, 1, 0, 0), (.iload_n 1, 1, 0, 0)], (.invokevirtual 222, 3, (166, 2, 11), [1])),
  (5, [(.aload_n 0, 1, 0, 0)], (.invokevirtual 260, 3, (165, 1, 11), [2])),
  (9, [(.aload_n 0, 1, 0, 0), (.getfield 19, 3, 11, 1), (.iload_n 1, 1, 0, 0)], (.invokevirtual 270, 3, (100, 2, 9), [3])),
  (17, [], (.ireturn, 1, (0, 0, 0), []))])
def am_X11_broken : ab_M := (1, [], [
  (0, [(.aload_n 0, 1, 0, 0)], (.invokevirtual 260, 3, (165, 1, 11), [1])),
  (4, [(.aload_n 0, 1, 0, 0), (.getfield 31, 3, 11, 3), (.aload_n 0, 1, 0, 0), (.getfield 19, 3, 11, 1)], (.invokevirtual 282, 3, (15, 2, 2), [2])),
  (15, [], (.ireturn, 1, (0, 0, 0), []))])
def am_X11_groundFaults : ab_M := (1, [], [
  (0, [(.aload_n 0, 1, 0, 0)], (.invokevirtual 260, 3, (165, 1, 11), [1])),
  (4, [(.aload_n 0, 1, 0, 0), (.getfield 31, 3, 11, 3), (.aload_n 0, 1, 0, 0), (.getfield 19, 3, 11, 1)], (.invokevirtual 286, 3, (13, 2, 2), [2])),
  (15, [], (.ireturn, 1, (0, 0, 0), []))])
def am_X11_image : ab_M := (3, [], [
  (0, [(.aload_n 0, 1, 0, 0)], (.invokevirtual 260, 3, (165, 1, 11), [1])),
  (4, [(.aload_n 0, 1, 0, 0), (.getfield 23, 3, 11, 2), (.getfield 135, 3, 9, 0)], (.ifCond .eq 24, 3, (0, 0, 0), [4, 2])),
  (14, [(.aload_n 0, 1, 0, 0), (.getfield 23, 3, 11, 2), (.getfield 289, 3, 9, 1), (.aload_n 0, 1, 0, 0), (.getfield 19, 3, 11, 1), (.getfield 289, 3, 9, 1)], (.if_icmp .ne 7, 3, (0, 0, 0), [4, 3])),
  (31, [(.iconst 1, 1, 0, 0)], (.goto 4, 3, (0, 0, 0), [5])),
  (35, [(.iconst 0, 1, 0, 0)], (.nop, 0, (0, 0, 0), [5])),
  (36, [(.istore_n 1, 1, 0, 0), (.iload_n 1, 1, 0, 0)], (.ifCond .eq 17, 3, (0, 0, 0), [8, 6])),
  (41, [(.aload_n 0, 1, 0, 0), (.getfield 19, 3, 11, 1), (.aload_n 0, 1, 0, 0), (.getfield 23, 3, 11, 2)], (.invokevirtual 290, 3, (101, 2, 9), [7])),
  (52, [], (.goto 4, 3, (0, 0, 0), [9])),
  (55, [(.iconst (-1), 1, 0, 0)], (.nop, 0, (0, 0, 0), [9])),
  (56, [(.istore_n 2, 1, 0, 0), (.aload_n 0, 1, 0, 0), (.getfield 23, 3, 11, 2), (.aload_n 0, 1, 0, 0), (.getfield 19, 3, 11, 1)], (.invokevirtual 293, 3, (99, 2, 9), [10])),
  (68, [(.iload_n 2, 1, 0, 0)], (.ireturn, 1, (0, 0, 0), []))])
def am_X11_restore : ab_M := (2, [], [
  (0, [(.aload_n 0, 1, 0, 0), (.getfield 23, 3, 11, 2), (.getfield 135, 3, 9, 0)], (.ifCond .eq 20, 3, (0, 0, 0), [2, 1])),
  (10, [(.aload_n 0, 1, 0, 0), (.getfield 23, 3, 11, 2), (.getfield 289, 3, 9, 1), (.aload_n 0, 1, 0, 0), (.getfield 10, 3, 11, 0), (.getfield 182, 3, 6, 6)], (.if_icmp .eq 14, 3, (0, 0, 0), [3, 2])),
  (27, [], (.athrow, 0, (1, 297, 0), [])),
  (38, [(.aload_n 0, 1, 0, 0), (.getfield 23, 3, 11, 2), (.aload_n 0, 1, 0, 0), (.getfield 10, 3, 11, 0)], (.invokevirtual 299, 3, (102, 2, 9), [4])),
  (49, [], (.ifCond .ne 14, 3, (0, 0, 0), [6, 5])),
  (52, [], (.athrow, 0, (1, 303, 0), [])),
  (63, [(.aload_n 0, 1, 0, 0), (.getfield 19, 3, 11, 1), (.getfield 135, 3, 9, 0)], (.ifCond .eq 17, 3, (0, 0, 0), [9, 7])),
  (73, [(.aload_n 0, 1, 0, 0), (.getfield 19, 3, 11, 1), (.aload_n 0, 1, 0, 0), (.getfield 23, 3, 11, 2)], (.invokevirtual 290, 3, (101, 2, 9), [8])),
  (84, [], (.goto 4, 3, (0, 0, 0), [10])),
  (87, [(.iconst (-1), 1, 0, 0)], (.nop, 0, (0, 0, 0), [10])),
  (88, [(.istore_n 1, 1, 0, 0), (.aload_n 0, 1, 0, 0), (.getfield 19, 3, 11, 1), (.aload_n 0, 1, 0, 0), (.getfield 23, 3, 11, 2)], (.invokevirtual 293, 3, (99, 2, 9), [11])),
  (100, [(.iload_n 1, 1, 0, 0)], (.ireturn, 1, (0, 0, 0), []))])
def am_X11_print : ab_M := (6, [], [
  (0, [(.iload_n 1, 1, 0, 0)], (.ifCond .lt 8, 3, (0, 0, 0), [2, 1])),
  (4, [(.iload_n 1, 1, 0, 0), (.iconst 2, 1, 0, 0)], (.if_icmp .le 14, 3, (0, 0, 0), [3, 2])),
  (9, [], (.athrow, 0, (0, 305, 0), [])),
  (20, [(.iload_n 1, 1, 0, 0)], (.ifCond .ne 13, 3, (0, 0, 0), [5, 4])),
  (24, [(.aload_n 0, 1, 0, 0), (.getfield 10, 3, 11, 0), (.getfield 145, 3, 6, 3)], (.goto 25, 3, (0, 0, 0), [8])),
  (34, [(.iload_n 1, 1, 0, 0), (.iconst 1, 1, 0, 0)], (.if_icmp .ne 13, 3, (0, 0, 0), [7, 6])),
  (39, [(.aload_n 0, 1, 0, 0), (.getfield 10, 3, 11, 0), (.getfield 157, 3, 6, 4)], (.goto 10, 3, (0, 0, 0), [8])),
  (49, [(.aload_n 0, 1, 0, 0), (.getfield 10, 3, 11, 0), (.getfield 164, 3, 6, 5)], (.nop, 0, (0, 0, 0), [8])),
  (56, [(.istore_n 3, 1, 0, 0), (.iload_n 2, 1, 0, 0)], (.ifCond .lt 8, 3, (0, 0, 0), [10, 9])),
  (61, [(.iload_n 2, 1, 0, 0), (.iload_n 3, 1, 0, 0)], (.if_icmp .lt 14, 3, (0, 0, 0), [11, 10])),
  (66, [], (.athrow, 0, (2, 307, 0), [])),
  (77, [(.aload_n 0, 1, 0, 0)], (.invokevirtual 260, 3, (165, 1, 11), [12])),
  (81, [(.aload_n 0, 1, 0, 0), (.iconst 0, 1, 0, 0), (.putfield 103, 3, 11, 13), (.iconst 0, 1, 0, 0), (.istore 4, 2, 0, 0)], (.nop, 0, (0, 0, 0), [13])),
  (89, [(.iload 4, 2, 0, 0), (.aload_n 0, 1, 0, 0), (.getfield 10, 3, 11, 0), (.getfield 132, 3, 6, 2)], (.if_icmp .ge 69, 3, (0, 0, 0), [24, 14])),
  (101, [(.iload 4, 2, 0, 0)], (.ifCond .le 21, 3, (0, 0, 0), [18, 15])),
  (106, [(.aload_n 0, 1, 0, 0), (.getfield 10, 3, 11, 0), (.iload 4, 2, 0, 0)], (.invokevirtual 309, 3, (59, 2, 6), [16])),
  (115, [], (.ifCond .ne 9, 3, (0, 0, 0), [18, 17])),
  (118, [(.aload_n 0, 1, 0, 0), (.bipush 124, 2, 0, 0)], (.invokevirtual 312, 3, (164, 2, 11), [18])),
  (124, [(.aload_n 0, 1, 0, 0), (.getfield 31, 3, 11, 3), (.aload_n 0, 1, 0, 0), (.getfield 19, 3, 11, 1), (.iload_n 1, 1, 0, 0), (.iload_n 2, 1, 0, 0), (.iload 4, 2, 0, 0)], (.invokevirtual 315, 3, (21, 5, 2), [19])),
  (139, [(.istore 5, 2, 0, 0), (.aload_n 0, 1, 0, 0), (.iload 5, 2, 0, 0), (.iconst (-1), 1, 0, 0)], (.if_icmp .ne 8, 3, (0, 0, 0), [21, 20])),
  (148, [(.bipush 46, 2, 0, 0)], (.goto 8, 3, (0, 0, 0), [22])),
  (153, [(.bipush 48, 2, 0, 0), (.iload 5, 2, 0, 0), (.iadd, 1, 0, 0)], (.nop, 0, (0, 0, 0), [22])),
  (158, [], (.invokevirtual 312, 3, (164, 2, 11), [23])),
  (161, [(.iinc 4 1, 3, 0, 0)], (.goto (-75), 3, (0, 0, 0), [13])),
  (167, [(.aload_n 0, 1, 0, 0), (.getfield 103, 3, 11, 13)], (.ireturn, 1, (0, 0, 0), []))])
def am_X11_outputByte : ab_M := (2, [], [
  (0, [(.iload_n 1, 1, 0, 0)], (.ifCond .lt 11, 3, (0, 0, 0), [2, 1])),
  (4, [(.iload_n 1, 1, 0, 0), (.aload_n 0, 1, 0, 0), (.getfield 103, 3, 11, 13)], (.if_icmp .lt 7, 3, (0, 0, 0), [3, 2])),
  (12, [(.iconst (-1), 1, 0, 0)], (.goto 9, 3, (0, 0, 0), [4])),
  (16, [(.aload_n 0, 1, 0, 0), (.getfield 99, 3, 11, 12), (.iload_n 1, 1, 0, 0), (.baload, 1, 0, 0)], (.nop, 0, (0, 0, 0), [4])),
  (22, [], (.ireturn, 1, (0, 0, 0), []))])
def am_X11_core : ab_M := (1, [], [
  (0, [(.aload_n 0, 1, 0, 0), (.getfield 63, 3, 11, 7), (.iconst (-1), 1, 0, 0), (.iconst 0, 1, 0, 0)], (.invokevirtual 319, 3, (51, 3, 5), [1])),
  (9, [], (.ireturn, 1, (0, 0, 0), []))])
def am_X11_cores : ab_M := (1, [], [
  (0, [(.aload_n 0, 1, 0, 0), (.getfield 63, 3, 11, 7)], (.invokevirtual 322, 3, (52, 1, 5), [1])),
  (7, [(.aload_n 0, 1, 0, 0), (.getfield 63, 3, 11, 7), (.getfield 323, 3, 5, 5)], (.ireturn, 1, (0, 0, 0), []))])
def am_X11_coreAt : ab_M := (2, [], [
  (0, [(.aload_n 0, 1, 0, 0), (.getfield 63, 3, 11, 7)], (.invokevirtual 322, 3, (52, 1, 5), [1])),
  (7, [(.iload_n 1, 1, 0, 0)], (.ifCond .lt 14, 3, (0, 0, 0), [3, 2])),
  (11, [(.iload_n 1, 1, 0, 0), (.aload_n 0, 1, 0, 0), (.getfield 63, 3, 11, 7), (.getfield 323, 3, 5, 5)], (.if_icmp .lt 14, 3, (0, 0, 0), [4, 3])),
  (22, [], (.athrow, 0, (3, 326, 0), [])),
  (33, [(.aload_n 0, 1, 0, 0), (.getfield 63, 3, 11, 7), (.getfield 328, 3, 5, 4), (.iload_n 1, 1, 0, 0), (.iaload, 1, 0, 0)], (.ireturn, 1, (0, 0, 0), []))])
def am_X11_isNeeded : ab_M := (3, [], [
  (0, [(.aload_n 0, 1, 0, 0), (.iload_n 1, 1, 0, 0)], (.invokevirtual 216, 3, (171, 2, 11), [1])),
  (5, [(.aload_n 0, 1, 0, 0), (.getfield 10, 3, 11, 0)], (.invokevirtual 246, 3, (56, 1, 6), [2])),
  (12, [(.istore_n 2, 1, 0, 0), (.aload_n 0, 1, 0, 0), (.getfield 63, 3, 11, 7), (.iload_n 2, 1, 0, 0), (.iconst (-1), 1, 0, 0), (.iconst 0, 1, 0, 0)], (.invokevirtual 331, 3, (50, 4, 5), [3])),
  (23, [], (.ifCond .ne 26, 3, (0, 0, 0), [7, 4])),
  (26, [(.aload_n 0, 1, 0, 0), (.getfield 63, 3, 11, 7), (.iload_n 2, 1, 0, 0), (.iconst 1, 1, 0, 0), (.iload_n 1, 1, 0, 0), (.ishl, 1, 0, 0), (.iconst (-1), 1, 0, 0), (.ixor, 1, 0, 0), (.iand, 1, 0, 0), (.iconst (-1), 1, 0, 0), (.iconst 0, 1, 0, 0)], (.invokevirtual 331, 3, (50, 4, 5), [5])),
  (42, [], (.ifCond .eq 7, 3, (0, 0, 0), [7, 6])),
  (45, [(.iconst 1, 1, 0, 0)], (.goto 4, 3, (0, 0, 0), [8])),
  (49, [(.iconst 0, 1, 0, 0)], (.nop, 0, (0, 0, 0), [8])),
  (50, [], (.ireturn, 1, (1, 0, 0), []))])
def am_X11_matched : ab_M := (2, [], [
  (0, [(.aload_n 0, 1, 0, 0), (.iload_n 1, 1, 0, 0)], (.invokevirtual 267, 3, (169, 2, 11), [1])),
  (5, [(.aload_n 0, 1, 0, 0)], (.invokevirtual 260, 3, (165, 1, 11), [2])),
  (9, [(.aload_n 0, 1, 0, 0), (.getfield 70, 3, 11, 8), (.aload_n 0, 1, 0, 0), (.getfield 31, 3, 11, 3), (.aload_n 0, 1, 0, 0), (.getfield 19, 3, 11, 1), (.iload_n 1, 1, 0, 0)], (.invokevirtual 334, 3, (20, 3, 2), [3])),
  (25, [], (.invokevirtual 338, 3, (94, 2, 8), [4])),
  (28, [], (.ireturn, 1, (0, 0, 0), []))])
def am_X11_unfit : ab_M := (2, [], [
  (0, [(.aload_n 0, 1, 0, 0), (.iload_n 1, 1, 0, 0)], (.invokevirtual 267, 3, (169, 2, 11), [1])),
  (5, [(.aload_n 0, 1, 0, 0)], (.invokevirtual 260, 3, (165, 1, 11), [2])),
  (9, [(.aload_n 0, 1, 0, 0), (.getfield 70, 3, 11, 8), (.aload_n 0, 1, 0, 0), (.getfield 31, 3, 11, 3), (.aload_n 0, 1, 0, 0), (.getfield 19, 3, 11, 1), (.iload_n 1, 1, 0, 0)], (.invokevirtual 334, 3, (20, 3, 2), [3])),
  (25, [], (.invokevirtual 341, 3, (95, 2, 8), [4])),
  (28, [], (.ireturn, 1, (0, 0, 0), []))])
def am_X11_setWeights : ab_M := (5, [], [
  (0, [(.iload_n 1, 1, 0, 0)], (.ifCond .lt 29, 3, (0, 0, 0), [6, 1])),
  (4, [(.iload_n 1, 1, 0, 0), (.bipush 9, 2, 0, 0)], (.if_icmp .gt 23, 3, (0, 0, 0), [6, 2])),
  (10, [(.iload_n 2, 1, 0, 0)], (.ifCond .lt 19, 3, (0, 0, 0), [6, 3])),
  (14, [(.iload_n 2, 1, 0, 0), (.bipush 9, 2, 0, 0)], (.if_icmp .gt 13, 3, (0, 0, 0), [6, 4])),
  (20, [(.iload_n 3, 1, 0, 0)], (.ifCond .lt 9, 3, (0, 0, 0), [6, 5])),
  (24, [(.iload_n 3, 1, 0, 0), (.bipush 9, 2, 0, 0)], (.if_icmp .le 14, 3, (0, 0, 0), [7, 6])),
  (30, [], (.athrow, 0, (0, 344, 0), [])),
  (41, [(.aload_n 0, 1, 0, 0), (.getfield 10, 3, 11, 0), (.getfield 346, 3, 6, 18), (.iconst 0, 1, 0, 0), (.iaload, 1, 0, 0), (.istore 4, 2, 0, 0), (.aload_n 0, 1, 0, 0), (.getfield 10, 3, 11, 0), (.getfield 346, 3, 6, 18), (.iconst 0, 1, 0, 0), (.iload_n 1, 1, 0, 0), (.iastore, 1, 0, 0), (.aload_n 0, 1, 0, 0), (.getfield 10, 3, 11, 0), (.getfield 346, 3, 6, 18), (.iconst 1, 1, 0, 0), (.iload_n 2, 1, 0, 0), (.iastore, 1, 0, 0), (.aload_n 0, 1, 0, 0), (.getfield 10, 3, 11, 0), (.getfield 346, 3, 6, 18), (.iconst 2, 1, 0, 0), (.iload_n 3, 1, 0, 0), (.iastore, 1, 0, 0), (.iload 4, 2, 0, 0)], (.ireturn, 1, (0, 0, 0), []))])
def am_X11_weight : ab_M := (1, [], [
  (0, [(.aload_n 0, 1, 0, 0)], (.invokevirtual 260, 3, (165, 1, 11), [1])),
  (4, [(.aload_n 0, 1, 0, 0), (.getfield 31, 3, 11, 3), (.aload_n 0, 1, 0, 0), (.getfield 19, 3, 11, 1)], (.invokevirtual 349, 3, (22, 2, 2), [2])),
  (15, [], (.ireturn, 1, (0, 0, 0), []))])
def am_X11_best : ab_M := (2, [], [
  (0, [(.aload_n 0, 1, 0, 0), (.getfield 38, 3, 11, 4), (.aload_n 0, 1, 0, 0), (.getfield 10, 3, 11, 0)], (.invokevirtual 246, 3, (56, 1, 6), [1])),
  (11, [], (.invokevirtual 250, 3, (26, 2, 3), [2])),
  (14, [(.aload_n 0, 1, 0, 0), (.getfield 38, 3, 11, 4)], (.invokevirtual 352, 3, (40, 1, 3), [3])),
  (21, [(.aload_n 0, 1, 0, 0), (.getfield 47, 3, 11, 5)], (.invokevirtual 253, 3, (75, 1, 7), [4])),
  (28, [(.istore_n 1, 1, 0, 0), (.aload_n 0, 1, 0, 0), (.iload_n 1, 1, 0, 0)], (.invokevirtual 256, 3, (163, 2, 11), [5])),
  (34, [(.pop, 1, 0, 0), (.iload_n 1, 1, 0, 0)], (.ireturn, 1, (0, 0, 0), []))])
def am_X11_bound : ab_M := (1, [], [
  (0, [(.aload_n 0, 1, 0, 0), (.getfield 54, 3, 11, 6)], (.invokevirtual 225, 3, (104, 1, 10), [1])),
  (7, [(.aload_n 0, 1, 0, 0), (.getfield 54, 3, 11, 6)], (.invokevirtual 355, 3, (107, 1, 10), [2])),
  (14, [], (.ireturn, 1, (0, 0, 0), []))])
def am_X11_improve : ab_M := (1, [], [
  (0, [(.aload_n 0, 1, 0, 0)], (.invokevirtual 260, 3, (165, 1, 11), [1])),
  (4, [(.aload_n 0, 1, 0, 0), (.getfield 31, 3, 11, 3), (.aload_n 0, 1, 0, 0), (.getfield 19, 3, 11, 1)], (.invokevirtual 358, 3, (16, 2, 2), [2])),
  (15, [], (.ifCond .ne 14, 3, (0, 0, 0), [4, 3])),
  (18, [], (.athrow, 0, (1, 361, 0), [])),
  (29, [(.aload_n 0, 1, 0, 0), (.getfield 79, 3, 11, 9), (.aload_n 0, 1, 0, 0), (.getfield 19, 3, 11, 1)], (.invokevirtual 363, 3, (45, 2, 4), [5])),
  (40, [], (.ireturn, 1, (0, 0, 0), []))])
def am_X11_away : ab_M := (4, [], [
  (0, [(.aload_n 0, 1, 0, 0), (.iload_n 1, 1, 0, 0)], (.invokevirtual 177, 3, (167, 2, 11), [1])),
  (5, [(.aload_n 0, 1, 0, 0), (.iload_n 2, 1, 0, 0)], (.invokevirtual 366, 3, (170, 2, 11), [2])),
  (10, [(.aload_n 0, 1, 0, 0)], (.invokevirtual 260, 3, (165, 1, 11), [3])),
  (14, [(.aload_n 0, 1, 0, 0), (.getfield 38, 3, 11, 4), (.aload_n 0, 1, 0, 0), (.getfield 10, 3, 11, 0)], (.invokevirtual 246, 3, (56, 1, 6), [4])),
  (25, [], (.invokevirtual 250, 3, (26, 2, 3), [5])),
  (28, [(.aload_n 0, 1, 0, 0), (.getfield 38, 3, 11, 4), (.iload_n 1, 1, 0, 0), (.aload_n 0, 1, 0, 0), (.getfield 10, 3, 11, 0), (.iload_n 2, 1, 0, 0)], (.invokevirtual 369, 3, (60, 2, 6), [6])),
  (41, [], (.invokevirtual 372, 3, (38, 3, 3), [7])),
  (44, [(.aload_n 0, 1, 0, 0), (.getfield 38, 3, 11, 4), (.aload_n 0, 1, 0, 0), (.getfield 19, 3, 11, 1)], (.invokevirtual 376, 3, (41, 2, 3), [8])),
  (55, [(.aload_n 0, 1, 0, 0), (.getfield 47, 3, 11, 5)], (.invokevirtual 253, 3, (75, 1, 7), [9])),
  (62, [(.istore_n 3, 1, 0, 0), (.aload_n 0, 1, 0, 0), (.iload_n 3, 1, 0, 0)], (.invokevirtual 256, 3, (163, 2, 11), [10])),
  (68, [(.pop, 1, 0, 0), (.iload_n 3, 1, 0, 0)], (.ireturn, 1, (0, 0, 0), []))])
def am_X11_against : ab_M := (3, [], [
  (0, [(.aload_n 0, 1, 0, 0), (.iload_n 1, 1, 0, 0)], (.invokevirtual 177, 3, (167, 2, 11), [1])),
  (5, [(.aload_n 0, 1, 0, 0), (.iload_n 2, 1, 0, 0)], (.invokevirtual 366, 3, (170, 2, 11), [2])),
  (10, [(.aload_n 0, 1, 0, 0), (.getfield 63, 3, 11, 7), (.iload_n 1, 1, 0, 0), (.iload_n 2, 1, 0, 0)], (.invokevirtual 319, 3, (51, 3, 5), [3])),
  (19, [], (.ireturn, 1, (0, 0, 0), []))])
def am_X11_fairest : ab_M := (1, [], [
  (0, [(.aload_n 0, 1, 0, 0), (.getfield 38, 3, 11, 4), (.aload_n 0, 1, 0, 0), (.getfield 10, 3, 11, 0)], (.invokevirtual 246, 3, (56, 1, 6), [1])),
  (11, [], (.invokevirtual 250, 3, (26, 2, 3), [2])),
  (14, [(.aload_n 0, 1, 0, 0), (.getfield 38, 3, 11, 4)], (.invokevirtual 379, 3, (42, 1, 3), [3])),
  (21, [(.aload_n 0, 1, 0, 0), (.aload_n 0, 1, 0, 0), (.getfield 47, 3, 11, 5)], (.invokevirtual 253, 3, (75, 1, 7), [4])),
  (29, [], (.invokevirtual 256, 3, (163, 2, 11), [5])),
  (32, [], (.ireturn, 1, (1, 0, 0), []))])
def am_X11_share : ab_M := (2, [], [
  (0, [(.aload_n 0, 1, 0, 0), (.iload_n 1, 1, 0, 0)], (.invokevirtual 177, 3, (167, 2, 11), [1])),
  (5, [(.aload_n 0, 1, 0, 0)], (.invokevirtual 260, 3, (165, 1, 11), [2])),
  (9, [(.aload_n 0, 1, 0, 0), (.getfield 31, 3, 11, 3), (.aload_n 0, 1, 0, 0), (.getfield 19, 3, 11, 1), (.iload_n 1, 1, 0, 0)], (.invokevirtual 382, 3, (24, 3, 2), [3])),
  (21, [], (.ireturn, 1, (0, 0, 0), []))])
def am_X11_examDays : ab_M := (2, [], [
  (0, [(.aload_n 0, 1, 0, 0), (.getfield 10, 3, 11, 0), (.iload_n 1, 1, 0, 0)], (.invokevirtual 385, 3, (57, 2, 6), [1])),
  (8, [], (.ifCond .ne 14, 3, (0, 0, 0), [3, 2])),
  (11, [], (.athrow, 0, (0, 388, 0), [])),
  (22, [(.aload_n 0, 1, 0, 0), (.getfield 86, 3, 11, 10), (.iload_n 1, 1, 0, 0)], (.invokevirtual 390, 3, (9, 2, 1), [4])),
  (30, [], (.ireturn, 1, (0, 0, 0), []))])
def am_X11_examDay : ab_M := (3, [], [
  (0, [(.aload_n 0, 1, 0, 0), (.iload_n 2, 1, 0, 0)], (.invokevirtual 222, 3, (166, 2, 11), [1])),
  (5, [(.aload_n 0, 1, 0, 0), (.getfield 10, 3, 11, 0), (.iload_n 1, 1, 0, 0)], (.invokevirtual 385, 3, (57, 2, 6), [2])),
  (13, [], (.ifCond .eq 11, 3, (0, 0, 0), [4, 3])),
  (16, [(.iload_n 1, 1, 0, 0), (.iload_n 2, 1, 0, 0), (.ishr, 1, 0, 0), (.iconst 1, 1, 0, 0), (.iand, 1, 0, 0)], (.ifCond .ne 14, 3, (0, 0, 0), [5, 4])),
  (24, [], (.athrow, 0, (0, 393, 0), [])),
  (35, [(.aload_n 0, 1, 0, 0), (.getfield 86, 3, 11, 10), (.iload_n 1, 1, 0, 0)], (.invokevirtual 390, 3, (9, 2, 1), [6])),
  (43, [(.pop, 1, 0, 0), (.aload_n 0, 1, 0, 0), (.getfield 86, 3, 11, 10), (.getfield 395, 3, 1, 1), (.iload_n 2, 1, 0, 0), (.iaload, 1, 0, 0)], (.ireturn, 1, (0, 0, 0), []))])
def am_X11_count : ab_M := (2, [], [
  (0, [(.iload_n 1, 1, 0, 0)], (.tableswitch 87 0 5 #[39, 47, 55, 63, 71, 79], 39, (0, 0, 0), [1, 2, 3, 4, 5, 6, 7])),
  (40, [(.aload_n 0, 1, 0, 0), (.getfield 10, 3, 11, 0), (.getfield 145, 3, 6, 3)], (.ireturn, 1, (0, 0, 0), [])),
  (48, [(.aload_n 0, 1, 0, 0), (.getfield 10, 3, 11, 0), (.getfield 157, 3, 6, 4)], (.ireturn, 1, (0, 0, 0), [])),
  (56, [(.aload_n 0, 1, 0, 0), (.getfield 10, 3, 11, 0), (.getfield 164, 3, 6, 5)], (.ireturn, 1, (0, 0, 0), [])),
  (64, [(.aload_n 0, 1, 0, 0), (.getfield 10, 3, 11, 0), (.getfield 182, 3, 6, 6)], (.ireturn, 1, (0, 0, 0), [])),
  (72, [(.aload_n 0, 1, 0, 0), (.getfield 10, 3, 11, 0), (.getfield 202, 3, 6, 7)], (.ireturn, 1, (0, 0, 0), [])),
  (80, [(.aload_n 0, 1, 0, 0), (.getfield 10, 3, 11, 0), (.getfield 132, 3, 6, 2)], (.ireturn, 1, (0, 0, 0), [])),
  (88, [], (.athrow, 0, (0, 398, 0), []))])
def am_X11_checksum : ab_M := (4, [], [
  (0, [(.lconst 0, 1, 0, 0), (.lstore_n 1, 1, 0, 0), (.iconst 0, 1, 0, 0), (.istore_n 3, 1, 0, 0)], (.nop, 0, (0, 0, 0), [1])),
  (4, [(.iload_n 3, 1, 0, 0), (.aload_n 0, 1, 0, 0), (.getfield 10, 3, 11, 0), (.getfield 202, 3, 6, 7)], (.if_icmp .ge 60, 3, (0, 0, 0), [3, 2])),
  (15, [(.ldc2_w 400, 3, 31, 0), (.lload_n 1, 1, 0, 0), (.lmul, 1, 0, 0), (.aload_n 0, 1, 0, 0), (.getfield 10, 3, 11, 0), (.getfield 207, 3, 6, 15), (.iload_n 3, 1, 0, 0), (.iaload, 1, 0, 0), (.i2l, 1, 0, 0), (.ladd, 1, 0, 0), (.lstore_n 1, 1, 0, 0), (.ldc2_w 400, 3, 31, 0), (.lload_n 1, 1, 0, 0), (.lmul, 1, 0, 0), (.aload_n 0, 1, 0, 0), (.getfield 10, 3, 11, 0), (.getfield 210, 3, 6, 16), (.iload_n 3, 1, 0, 0), (.iaload, 1, 0, 0), (.i2l, 1, 0, 0), (.ladd, 1, 0, 0), (.lstore_n 1, 1, 0, 0), (.ldc2_w 400, 3, 31, 0), (.lload_n 1, 1, 0, 0), (.lmul, 1, 0, 0), (.aload_n 0, 1, 0, 0), (.getfield 10, 3, 11, 0), (.getfield 213, 3, 6, 17), (.iload_n 3, 1, 0, 0), (.iaload, 1, 0, 0), (.i2l, 1, 0, 0), (.ladd, 1, 0, 0), (.lstore_n 1, 1, 0, 0), (.iinc 3 1, 3, 0, 0)], (.goto (-65), 3, (0, 0, 0), [1])),
  (72, [(.iconst 0, 1, 0, 0), (.istore_n 3, 1, 0, 0)], (.nop, 0, (0, 0, 0), [4])),
  (74, [(.iload_n 3, 1, 0, 0), (.aload_n 0, 1, 0, 0), (.getfield 10, 3, 11, 0), (.getfield 182, 3, 6, 6)], (.if_icmp .ge 39, 3, (0, 0, 0), [10, 5])),
  (85, [(.ldc2_w 400, 3, 31, 0), (.lload_n 1, 1, 0, 0), (.lmul, 1, 0, 0), (.aload_n 0, 1, 0, 0), (.getfield 19, 3, 11, 1), (.getfield 135, 3, 9, 0)], (.ifCond .eq 14, 3, (0, 0, 0), [8, 6])),
  (100, [(.aload_n 0, 1, 0, 0), (.getfield 19, 3, 11, 1), (.iload_n 3, 1, 0, 0)], (.invokevirtual 270, 3, (100, 2, 9), [7])),
  (108, [], (.goto 4, 3, (0, 0, 0), [9])),
  (111, [(.iconst (-1), 1, 0, 0)], (.nop, 0, (0, 0, 0), [9])),
  (112, [(.i2l, 1, 0, 0), (.ladd, 1, 0, 0), (.lstore_n 1, 1, 0, 0), (.iinc 3 1, 3, 0, 0)], (.goto (-44), 3, (0, 0, 0), [4])),
  (121, [(.lload_n 1, 1, 0, 0)], (.lreturn, 1, (0, 0, 0), []))])
def am_X11_meanHour : ab_M := (3, [], [
  (0, [(.aload_n 0, 1, 0, 0)], (.invokevirtual 260, 3, (165, 1, 11), [1])),
  (4, [(.aload_n 0, 1, 0, 0), (.getfield 10, 3, 11, 0), (.getfield 182, 3, 6, 6)], (.ifCond .ne 5, 3, (0, 0, 0), [3, 2])),
  (14, [(.dconst 0, 1, 0, 0)], (.dreturn, 1, (0, 0, 0), [])),
  (16, [(.iconst 0, 1, 0, 0), (.istore_n 1, 1, 0, 0), (.iconst 0, 1, 0, 0), (.istore_n 2, 1, 0, 0)], (.nop, 0, (0, 0, 0), [4])),
  (20, [(.iload_n 2, 1, 0, 0), (.aload_n 0, 1, 0, 0), (.getfield 10, 3, 11, 0), (.getfield 182, 3, 6, 6)], (.if_icmp .ge 28, 3, (0, 0, 0), [7, 5])),
  (31, [(.iload_n 1, 1, 0, 0), (.aload_n 0, 1, 0, 0), (.getfield 10, 3, 11, 0), (.aload_n 0, 1, 0, 0), (.getfield 19, 3, 11, 1), (.getfield 276, 3, 9, 2), (.iload_n 2, 1, 0, 0), (.iaload, 1, 0, 0)], (.invokevirtual 309, 3, (59, 2, 6), [6])),
  (48, [(.iadd, 1, 0, 0), (.istore_n 1, 1, 0, 0), (.iinc 2 1, 3, 0, 0)], (.goto (-33), 3, (0, 0, 0), [4])),
  (56, [(.iload_n 1, 1, 0, 0), (.i2d, 1, 0, 0), (.aload_n 0, 1, 0, 0), (.getfield 10, 3, 11, 0), (.getfield 182, 3, 6, 6), (.i2d, 1, 0, 0), (.ddiv, 1, 0, 0)], (.dreturn, 1, (0, 0, 0), []))])
def am_X11_usedShare : ab_M := (4, [], [
  (0, [(.aload_n 0, 1, 0, 0)], (.invokevirtual 260, 3, (165, 1, 11), [1])),
  (4, [(.aload_n 0, 1, 0, 0), (.getfield 10, 3, 11, 0), (.getfield 164, 3, 6, 5), (.aload_n 0, 1, 0, 0), (.getfield 10, 3, 11, 0), (.getfield 132, 3, 6, 2), (.imul, 1, 0, 0), (.istore_n 1, 1, 0, 0), (.iload_n 1, 1, 0, 0)], (.ifCond .ne 5, 3, (0, 0, 0), [3, 2])),
  (24, [(.fconst 0, 1, 0, 0)], (.freturn, 1, (0, 0, 0), [])),
  (26, [(.iconst 0, 1, 0, 0), (.istore_n 2, 1, 0, 0), (.iconst 0, 1, 0, 0), (.istore_n 3, 1, 0, 0)], (.nop, 0, (0, 0, 0), [4])),
  (30, [(.iload_n 3, 1, 0, 0), (.aload_n 0, 1, 0, 0), (.getfield 10, 3, 11, 0), (.getfield 164, 3, 6, 5)], (.if_icmp .ge 27, 3, (0, 0, 0), [8, 5])),
  (41, [(.iload_n 2, 1, 0, 0), (.aload_n 0, 1, 0, 0), (.getfield 31, 3, 11, 3), (.aload_n 0, 1, 0, 0), (.getfield 19, 3, 11, 1), (.iload_n 3, 1, 0, 0)], (.invokevirtual 402, 3, (18, 3, 2), [6])),
  (54, [], (.invokestatic 231, 3, (277, 1, 200), [7])),
  (57, [(.iadd, 1, 0, 0), (.istore_n 2, 1, 0, 0), (.iinc 3 1, 3, 0, 0)], (.goto (-32), 3, (0, 0, 0), [4])),
  (65, [(.iload_n 2, 1, 0, 0), (.i2f, 1, 0, 0), (.iload_n 1, 1, 0, 0), (.i2f, 1, 0, 0), (.fdiv, 1, 0, 0)], (.freturn, 1, (0, 0, 0), []))])
def am_X11_errors : ab_M := (3, [], [
  (0, [(.aload_n 0, 1, 0, 0), (.getfield 95, 3, 11, 11)], (.invokevirtual 405, 3, (1, 1, 0), [1])),
  (7, [], (.ifCond .ne 5, 3, (0, 0, 0), [3, 2])),
  (10, [(.iconst 0, 1, 0, 0)], (.ireturn, 1, (0, 0, 0), [])),
  (12, [(.aload_n 0, 1, 0, 0), (.getfield 95, 3, 11, 11), (.getfield 408, 3, 0, 6)], (.ifCond .eq 7, 3, (0, 0, 0), [5, 4])),
  (22, [(.iconst 1, 1, 0, 0)], (.goto 4, 3, (0, 0, 0), [6])),
  (26, [(.iconst 0, 1, 0, 0)], (.nop, 0, (0, 0, 0), [6])),
  (27, [(.istore_n 1, 1, 0, 0), (.aload_n 0, 1, 0, 0), (.getfield 95, 3, 11, 11), (.getfield 411, 3, 0, 5)], (.ifCond .eq 106, 3, (0, 0, 0), [22, 7])),
  (38, [(.aload_n 0, 1, 0, 0), (.getfield 38, 3, 11, 4), (.aload_n 0, 1, 0, 0), (.getfield 10, 3, 11, 0)], (.invokevirtual 246, 3, (56, 1, 6), [8])),
  (49, [], (.invokevirtual 250, 3, (26, 2, 3), [9])),
  (52, [(.aload_n 0, 1, 0, 0), (.getfield 47, 3, 11, 5)], (.invokevirtual 253, 3, (75, 1, 7), [10])),
  (59, [(.iconst (-1), 1, 0, 0)], (.if_icmp .eq 23, 3, (0, 0, 0), [13, 11])),
  (63, [(.aload_n 0, 1, 0, 0), (.getfield 47, 3, 11, 5), (.getfield 414, 3, 7, 2), (.aload_n 0, 1, 0, 0), (.getfield 95, 3, 11, 11), (.getfield 417, 3, 0, 4)], (.invokevirtual 290, 3, (101, 2, 9), [12])),
  (80, [], (.ifCond .le 6, 3, (0, 0, 0), [14, 13])),
  (83, [(.iinc 1 1, 3, 0, 0)], (.nop, 0, (0, 0, 0), [14])),
  (86, [(.aload_n 0, 1, 0, 0), (.getfield 38, 3, 11, 4), (.aload_n 0, 1, 0, 0), (.getfield 10, 3, 11, 0)], (.invokevirtual 246, 3, (56, 1, 6), [15])),
  (97, [], (.invokevirtual 250, 3, (26, 2, 3), [16])),
  (100, [(.aload_n 0, 1, 0, 0), (.getfield 38, 3, 11, 4)], (.invokevirtual 352, 3, (40, 1, 3), [17])),
  (107, [(.aload_n 0, 1, 0, 0), (.getfield 47, 3, 11, 5), (.ldc_w 419, 3, 100000, 0), (.iconst 1, 1, 0, 0)], (.invokevirtual 420, 3, (74, 3, 7), [18])),
  (118, [(.istore_n 2, 1, 0, 0), (.iload_n 2, 1, 0, 0), (.iconst (-1), 1, 0, 0)], (.if_icmp .eq 17, 3, (0, 0, 0), [21, 19])),
  (124, [(.aload_n 0, 1, 0, 0), (.getfield 95, 3, 11, 11), (.getfield 424, 3, 0, 7), (.iload_n 2, 1, 0, 0)], (.if_icmp .ge 6, 3, (0, 0, 0), [21, 20])),
  (135, [(.iinc 1 1, 3, 0, 0)], (.nop, 0, (0, 0, 0), [21])),
  (138, [], (.goto 32, 3, (0, 0, 0), [27])),
  (141, [(.aload_n 0, 1, 0, 0), (.getfield 63, 3, 11, 7), (.iconst (-1), 1, 0, 0), (.iconst 0, 1, 0, 0)], (.invokevirtual 319, 3, (51, 3, 5), [23])),
  (150, [(.istore_n 2, 1, 0, 0), (.iload_n 2, 1, 0, 0), (.iconst (-1), 1, 0, 0)], (.if_icmp .eq 14, 3, (0, 0, 0), [26, 24])),
  (156, [(.aload_n 0, 1, 0, 0), (.getfield 95, 3, 11, 11), (.iload_n 2, 1, 0, 0)], (.invokevirtual 426, 3, (2, 2, 0), [25])),
  (164, [], (.ifCond .eq 6, 3, (0, 0, 0), [27, 26])),
  (167, [(.iinc 1 1, 3, 0, 0)], (.nop, 0, (0, 0, 0), [27])),
  (170, [(.iload_n 1, 1, 0, 0)], (.ireturn, 1, (0, 0, 0), []))])
def am_X11_take : ab_M := (2, [], [
  (0, [(.iload_n 1, 1, 0, 0), (.iconst (-1), 1, 0, 0)], (.if_icmp .ne 5, 3, (0, 0, 0), [2, 1])),
  (5, [(.iconst 0, 1, 0, 0)], (.ireturn, 1, (1, 0, 0), [])),
  (7, [(.aload_n 0, 1, 0, 0), (.getfield 19, 3, 11, 1), (.aload_n 0, 1, 0, 0), (.getfield 47, 3, 11, 5), (.getfield 414, 3, 7, 2)], (.invokevirtual 293, 3, (99, 2, 9), [3])),
  (21, [(.iconst 1, 1, 0, 0)], (.ireturn, 1, (1, 0, 0), []))])
def am_X11_write : ab_M := (2, [], [
  (0, [(.aload_n 0, 1, 0, 0), (.getfield 103, 3, 11, 13), (.aload_n 0, 1, 0, 0), (.getfield 99, 3, 11, 12), (.arraylength, 1, 0, 0)], (.if_icmp .ge 24, 3, (0, 0, 0), [2, 1])),
  (12, [(.aload_n 0, 1, 0, 0), (.getfield 99, 3, 11, 12), (.aload_n 0, 1, 0, 0), (.getfield 103, 3, 11, 13), (.iload_n 1, 1, 0, 0), (.i2b, 1, 0, 0), (.bastore, 1, 0, 0), (.aload_n 0, 1, 0, 0), (.dup, 1, 0, 0), (.getfield 103, 3, 11, 13), (.iconst 1, 1, 0, 0), (.iadd, 1, 0, 0), (.putfield 103, 3, 11, 13)], (.nop, 0, (0, 0, 0), [2])),
  (33, [], (.return_, 1, (0, 0, 0), []))])
def am_X11_needTimetable : ab_M := (1, [], [
  (0, [(.aload_n 0, 1, 0, 0), (.getfield 19, 3, 11, 1), (.getfield 135, 3, 9, 0)], (.ifCond .ne 14, 3, (0, 0, 0), [2, 1])),
  (10, [], (.athrow, 0, (1, 429, 0), [])),
  (21, [], (.return_, 1, (0, 0, 0), []))])
def am_X11_needLesson : ab_M := (2, [], [
  (0, [(.iload_n 1, 1, 0, 0)], (.ifCond .lt 14, 3, (0, 0, 0), [2, 1])),
  (4, [(.iload_n 1, 1, 0, 0), (.aload_n 0, 1, 0, 0), (.getfield 10, 3, 11, 0), (.getfield 182, 3, 6, 6)], (.if_icmp .lt 14, 3, (0, 0, 0), [3, 2])),
  (15, [], (.athrow, 0, (2, 431, 0), [])),
  (26, [], (.return_, 1, (0, 0, 0), []))])
def am_X11_needTeacher : ab_M := (2, [], [
  (0, [(.iload_n 1, 1, 0, 0)], (.ifCond .lt 14, 3, (0, 0, 0), [2, 1])),
  (4, [(.iload_n 1, 1, 0, 0), (.aload_n 0, 1, 0, 0), (.getfield 10, 3, 11, 0), (.getfield 157, 3, 6, 4)], (.if_icmp .lt 14, 3, (0, 0, 0), [3, 2])),
  (15, [], (.athrow, 0, (2, 433, 0), [])),
  (26, [], (.return_, 1, (0, 0, 0), []))])
def am_X11_needRoom : ab_M := (2, [], [
  (0, [(.iload_n 1, 1, 0, 0)], (.ifCond .lt 14, 3, (0, 0, 0), [2, 1])),
  (4, [(.iload_n 1, 1, 0, 0), (.aload_n 0, 1, 0, 0), (.getfield 10, 3, 11, 0), (.getfield 164, 3, 6, 5)], (.if_icmp .lt 14, 3, (0, 0, 0), [3, 2])),
  (15, [], (.athrow, 0, (2, 435, 0), [])),
  (26, [], (.return_, 1, (0, 0, 0), []))])
def am_X11_needSlot : ab_M := (2, [], [
  (0, [(.iload_n 1, 1, 0, 0)], (.ifCond .lt 14, 3, (0, 0, 0), [2, 1])),
  (4, [(.iload_n 1, 1, 0, 0), (.aload_n 0, 1, 0, 0), (.getfield 10, 3, 11, 0), (.getfield 132, 3, 6, 2)], (.if_icmp .lt 14, 3, (0, 0, 0), [3, 2])),
  (15, [], (.athrow, 0, (2, 437, 0), [])),
  (26, [], (.return_, 1, (0, 0, 0), []))])
def am_X11_needDay : ab_M := (2, [], [
  (0, [(.iload_n 1, 1, 0, 0)], (.ifCond .lt 14, 3, (0, 0, 0), [2, 1])),
  (4, [(.iload_n 1, 1, 0, 0), (.aload_n 0, 1, 0, 0), (.getfield 10, 3, 11, 0), (.getfield 126, 3, 6, 0)], (.if_icmp .lt 14, 3, (0, 0, 0), [3, 2])),
  (15, [], (.athrow, 0, (2, 439, 0), [])),
  (26, [], (.return_, 1, (0, 0, 0), []))])
def am_X11_needRule : ab_M := (2, [], [
  (0, [(.iload_n 1, 1, 0, 0)], (.ifCond .lt 14, 3, (0, 0, 0), [2, 1])),
  (4, [(.iload_n 1, 1, 0, 0), (.aload_n 0, 1, 0, 0), (.getfield 10, 3, 11, 0), (.getfield 202, 3, 6, 7)], (.if_icmp .lt 13, 3, (0, 0, 0), [3, 2])),
  (15, [], (.athrow, 0, (2, 200, 0), [])),
  (25, [], (.return_, 1, (0, 0, 0), []))])
def am_X12_init : ab_M := (7, [], [
  (0, [(.aload_n 0, 1, 0, 0), (.aload_n 1, 1, 0, 0), (.putfield 3, 3, 12, 13), (.aload_n 0, 1, 0, 0), (.invokespecial 9, 3, 0, 0), (.aload_n 0, 1, 0, 0), (.aload_n 0, 1, 0, 0), (.getfield 3, 3, 12, 13)], (.invokevirtual 15, 3, (189, 1, 63), [1])),
  (17, [(.aload_n 0, 1, 0, 0), (.getfield 3, 3, 12, 13), (.getfield 19, 3, 13, 6), (.imul, 1, 0, 0), (.putfield 23, 3, 12, 0), (.aload_n 0, 1, 0, 0), (.bipush 6, 2, 0, 0), (.newarray .int, 2, 0, 0), (.putfield 26, 3, 12, 1), (.aload_n 0, 1, 0, 0), (.sipush 648, 3, 0, 0), (.newarray .int, 2, 0, 0), (.putfield 30, 3, 12, 2), (.aload_n 0, 1, 0, 0), (.bipush 60, 2, 0, 0), (.newarray .int, 2, 0, 0), (.putfield 33, 3, 12, 3), (.aload_n 0, 1, 0, 0), (.sipush 360, 3, 0, 0), (.newarray .int, 2, 0, 0), (.putfield 36, 3, 12, 4), (.aload_n 0, 1, 0, 0), (.sipush 648, 3, 0, 0), (.newarray .int, 2, 0, 0), (.putfield 39, 3, 12, 5), (.aload_n 0, 1, 0, 0), (.iconst 4, 1, 0, 0), (.newarray .int, 2, 0, 0), (.putfield 42, 3, 12, 6), (.aload_n 0, 1, 0, 0), (.bipush 42, 2, 0, 0), (.newarray .int, 2, 0, 0), (.putfield 45, 3, 12, 7), (.aload_n 0, 1, 0, 0), (.aload_n 0, 1, 0, 0), (.getfield 3, 3, 12, 13), (.getfield 48, 3, 13, 8), (.newarray .int, 2, 0, 0), (.putfield 51, 3, 12, 8), (.aload_n 0, 1, 0, 0), (.bipush 7, 2, 0, 0), (.iconst 4, 1, 0, 0), (.multianewarray 54 2, 4, 0, 0), (.putfield 56, 3, 12, 11), (.aload_n 0, 1, 0, 0), (.iconst 4, 1, 0, 0), (.newarray .int, 2, 0, 0), (.putfield 59, 3, 12, 12), (.iconst 0, 1, 0, 0), (.istore_n 2, 1, 0, 0)], (.nop, 0, (0, 0, 0), [2])),
  (119, [(.iload_n 2, 1, 0, 0), (.aload_n 1, 1, 0, 0), (.getfield 48, 3, 13, 8)], (.if_icmp .ge 196, 3, (0, 0, 0), [32, 3])),
  (127, [(.iconst 0, 1, 0, 0), (.istore_n 3, 1, 0, 0)], (.nop, 0, (0, 0, 0), [4])),
  (129, [(.iload_n 3, 1, 0, 0), (.aload_n 0, 1, 0, 0), (.getfield 23, 3, 12, 0)], (.if_icmp .ge 180, 3, (0, 0, 0), [31, 5])),
  (137, [(.aload_n 0, 1, 0, 0), (.getfield 26, 3, 12, 1), (.iload_n 2, 1, 0, 0), (.dup2, 1, 0, 0), (.iaload, 1, 0, 0), (.aload_n 1, 1, 0, 0), (.iload_n 2, 1, 0, 0), (.iload_n 3, 1, 0, 0)], (.invokevirtual 62, 3, (198, 3, 63), [6])),
  (150, [], (.ifCond .eq 18, 3, (0, 0, 0), [10, 7])),
  (153, [(.aload_n 1, 1, 0, 0), (.iload_n 2, 1, 0, 0), (.iload_n 3, 1, 0, 0)], (.invokevirtual 66, 3, (199, 3, 63), [8])),
  (159, [], (.ifCond .eq 9, 3, (0, 0, 0), [10, 9])),
  (162, [(.iconst 1, 1, 0, 0), (.iload_n 3, 1, 0, 0), (.ishl, 1, 0, 0)], (.goto 4, 3, (0, 0, 0), [11])),
  (168, [(.iconst 0, 1, 0, 0)], (.nop, 0, (0, 0, 0), [11])),
  (169, [(.ior, 1, 0, 0), (.iastore, 1, 0, 0), (.iconst 0, 1, 0, 0), (.istore 4, 2, 0, 0)], (.nop, 0, (0, 0, 0), [12])),
  (174, [(.iload 4, 2, 0, 0), (.aload_n 1, 1, 0, 0), (.getfield 48, 3, 13, 8)], (.if_icmp .ge 77, 3, (0, 0, 0), [23, 13])),
  (183, [(.iconst 0, 1, 0, 0), (.istore 5, 2, 0, 0), (.iconst 0, 1, 0, 0), (.istore 6, 2, 0, 0)], (.nop, 0, (0, 0, 0), [14])),
  (189, [(.iload 6, 2, 0, 0), (.aload_n 0, 1, 0, 0), (.getfield 23, 3, 12, 0)], (.if_icmp .ge 41, 3, (0, 0, 0), [21, 15])),
  (198, [(.iload 4, 2, 0, 0), (.iload_n 2, 1, 0, 0)], (.if_icmp .eq 35, 3, (0, 0, 0), [21, 16])),
  (204, [(.iload 5, 2, 0, 0), (.aload_n 1, 1, 0, 0), (.iload_n 2, 1, 0, 0), (.iload_n 3, 1, 0, 0), (.iload 4, 2, 0, 0), (.iload 6, 2, 0, 0)], (.invokevirtual 69, 3, (200, 5, 63), [17])),
  (216, [], (.ifCond .ne 10, 3, (0, 0, 0), [19, 18])),
  (219, [(.iconst 1, 1, 0, 0), (.iload 6, 2, 0, 0), (.ishl, 1, 0, 0)], (.goto 4, 3, (0, 0, 0), [20])),
  (226, [(.iconst 0, 1, 0, 0)], (.nop, 0, (0, 0, 0), [20])),
  (227, [(.ior, 1, 0, 0), (.istore 5, 2, 0, 0), (.iinc 6 1, 3, 0, 0)], (.goto (-44), 3, (0, 0, 0), [14])),
  (236, [(.aload_n 0, 1, 0, 0), (.getfield 30, 3, 12, 2), (.aload_n 0, 1, 0, 0), (.iload_n 2, 1, 0, 0), (.iload_n 3, 1, 0, 0), (.iload 4, 2, 0, 0)], (.invokevirtual 73, 3, (173, 4, 12), [22])),
  (248, [(.iload 5, 2, 0, 0), (.iastore, 1, 0, 0), (.iinc 4 1, 3, 0, 0)], (.goto (-80), 3, (0, 0, 0), [12])),
  (257, [(.iconst 0, 1, 0, 0), (.istore 4, 2, 0, 0)], (.nop, 0, (0, 0, 0), [24])),
  (260, [(.iload 4, 2, 0, 0), (.aload_n 1, 1, 0, 0), (.getfield 77, 3, 13, 12)], (.if_icmp .ge 42, 3, (0, 0, 0), [30, 25])),
  (269, [(.aload_n 0, 1, 0, 0), (.getfield 33, 3, 12, 3), (.bipush 6, 2, 0, 0), (.iload 4, 2, 0, 0), (.imul, 1, 0, 0), (.iload_n 2, 1, 0, 0), (.iadd, 1, 0, 0), (.dup2, 1, 0, 0), (.iaload, 1, 0, 0), (.aload_n 1, 1, 0, 0), (.iload 4, 2, 0, 0), (.iload_n 2, 1, 0, 0), (.iload_n 3, 1, 0, 0)], (.invokevirtual 80, 3, (203, 4, 63), [26])),
  (290, [], (.ifCond .eq 9, 3, (0, 0, 0), [28, 27])),
  (293, [(.iconst 1, 1, 0, 0), (.iload_n 3, 1, 0, 0), (.ishl, 1, 0, 0)], (.goto 4, 3, (0, 0, 0), [29])),
  (299, [(.iconst 0, 1, 0, 0)], (.nop, 0, (0, 0, 0), [29])),
  (300, [(.ior, 1, 0, 0), (.iastore, 1, 0, 0), (.iinc 4 1, 3, 0, 0)], (.goto (-45), 3, (0, 0, 0), [24])),
  (308, [(.iinc 3 1, 3, 0, 0)], (.goto (-182), 3, (0, 0, 0), [4])),
  (314, [(.iinc 2 1, 3, 0, 0)], (.goto (-198), 3, (0, 0, 0), [2])),
  (320, [(.iconst 0, 1, 0, 0), (.istore_n 2, 1, 0, 0)], (.nop, 0, (0, 0, 0), [33])),
  (322, [(.iload_n 2, 1, 0, 0), (.aload_n 1, 1, 0, 0), (.getfield 77, 3, 13, 12)], (.if_icmp .ge 102, 3, (0, 0, 0), [46, 34])),
  (330, [(.iconst 0, 1, 0, 0), (.istore_n 3, 1, 0, 0)], (.nop, 0, (0, 0, 0), [35])),
  (332, [(.iload_n 3, 1, 0, 0), (.aload_n 0, 1, 0, 0), (.getfield 23, 3, 12, 0)], (.if_icmp .ge 86, 3, (0, 0, 0), [45, 36])),
  (340, [(.aload_n 1, 1, 0, 0), (.iload_n 2, 1, 0, 0)], (.invokevirtual 84, 3, (201, 2, 63), [37])),
  (345, [], (.ifCond .eq 78, 3, (0, 0, 0), [45, 38])),
  (348, [(.iconst 0, 1, 0, 0), (.istore 4, 2, 0, 0)], (.nop, 0, (0, 0, 0), [39])),
  (351, [(.iload 4, 2, 0, 0), (.aload_n 0, 1, 0, 0), (.getfield 23, 3, 12, 0)], (.if_icmp .ge 60, 3, (0, 0, 0), [44, 40])),
  (360, [(.aload_n 1, 1, 0, 0), (.iload_n 2, 1, 0, 0), (.iload_n 3, 1, 0, 0), (.iload 4, 2, 0, 0)], (.invokevirtual 88, 3, (202, 4, 63), [41])),
  (368, [], (.ifCond .eq 43, 3, (0, 0, 0), [43, 42])),
  (371, [(.aload_n 0, 1, 0, 0), (.getfield 36, 3, 12, 4), (.bipush 36, 2, 0, 0), (.iload_n 2, 1, 0, 0), (.imul, 1, 0, 0), (.iload_n 3, 1, 0, 0), (.iadd, 1, 0, 0), (.dup2, 1, 0, 0), (.iaload, 1, 0, 0), (.iconst 1, 1, 0, 0), (.iload 4, 2, 0, 0), (.ishl, 1, 0, 0), (.ior, 1, 0, 0), (.iastore, 1, 0, 0), (.aload_n 0, 1, 0, 0), (.getfield 36, 3, 12, 4), (.bipush 18, 2, 0, 0), (.iconst 2, 1, 0, 0), (.iload_n 2, 1, 0, 0), (.imul, 1, 0, 0), (.iconst 1, 1, 0, 0), (.iadd, 1, 0, 0), (.imul, 1, 0, 0), (.iload 4, 2, 0, 0), (.iadd, 1, 0, 0), (.dup2, 1, 0, 0), (.iaload, 1, 0, 0), (.iconst 1, 1, 0, 0), (.iload_n 3, 1, 0, 0), (.ishl, 1, 0, 0), (.ior, 1, 0, 0), (.iastore, 1, 0, 0)], (.nop, 0, (0, 0, 0), [43])),
  (411, [(.iinc 4 1, 3, 0, 0)], (.goto (-63), 3, (0, 0, 0), [39])),
  (417, [(.iinc 3 1, 3, 0, 0)], (.goto (-88), 3, (0, 0, 0), [35])),
  (423, [(.iinc 2 1, 3, 0, 0)], (.goto (-104), 3, (0, 0, 0), [33])),
  (429, [], (.return_, 1, (0, 0, 0), []))])
def am_X12_at : ab_M := (4, [], [
  (0, [(.iload_n 1, 1, 0, 0), (.bipush 18, 2, 0, 0), (.imul, 1, 0, 0), (.iload_n 2, 1, 0, 0), (.iadd, 1, 0, 0), (.bipush 6, 2, 0, 0), (.imul, 1, 0, 0), (.iload_n 3, 1, 0, 0), (.iadd, 1, 0, 0)], (.ireturn, 1, (0, 0, 0), []))])
def am_X12_take : ab_M := (6, [], [
  (0, [(.aload_n 0, 1, 0, 0), (.getfield 30, 3, 12, 2), (.iconst 0, 1, 0, 0), (.aload_n 0, 1, 0, 0), (.getfield 39, 3, 12, 5), (.iconst 0, 1, 0, 0), (.aload_n 0, 1, 0, 0), (.getfield 39, 3, 12, 5), (.arraylength, 1, 0, 0), (.invokestatic 91, 3, 0, 0), (.iconst 0, 1, 0, 0), (.istore 4, 2, 0, 0)], (.nop, 0, (0, 0, 0), [1])),
  (21, [(.iload 4, 2, 0, 0), (.iconst 4, 1, 0, 0)], (.if_icmp .ge 23, 3, (0, 0, 0), [3, 2])),
  (27, [(.aload_n 0, 1, 0, 0), (.getfield 42, 3, 12, 6), (.iload 4, 2, 0, 0), (.aload_n 0, 1, 0, 0), (.getfield 3, 3, 12, 13), (.getfield 97, 3, 13, 1), (.iastore, 1, 0, 0), (.iinc 4 1, 3, 0, 0)], (.goto (-23), 3, (0, 0, 0), [1])),
  (47, [(.iconst 0, 1, 0, 0), (.istore 4, 2, 0, 0)], (.nop, 0, (0, 0, 0), [4])),
  (50, [(.iload 4, 2, 0, 0), (.aload_n 0, 1, 0, 0), (.getfield 3, 3, 12, 13), (.getfield 48, 3, 13, 8)], (.if_icmp .ge 98, 3, (0, 0, 0), [15, 5])),
  (62, [(.aload_n 0, 1, 0, 0), (.getfield 45, 3, 12, 7), (.iload 4, 2, 0, 0), (.aload_n 0, 1, 0, 0), (.getfield 26, 3, 12, 1), (.iload 4, 2, 0, 0), (.iaload, 1, 0, 0), (.iastore, 1, 0, 0), (.iconst 0, 1, 0, 0), (.istore 5, 2, 0, 0)], (.nop, 0, (0, 0, 0), [6])),
  (79, [(.iload 5, 2, 0, 0), (.aload_n 0, 1, 0, 0), (.getfield 23, 3, 12, 0)], (.if_icmp .ge 66, 3, (0, 0, 0), [14, 7])),
  (88, [(.aload_n 0, 1, 0, 0), (.getfield 3, 3, 12, 13), (.getfield 100, 3, 13, 10), (.iload 4, 2, 0, 0), (.iaload, 1, 0, 0), (.iload_n 2, 1, 0, 0)], (.if_icmp .ne 52, 3, (0, 0, 0), [14, 8])),
  (102, [(.aload_n 0, 1, 0, 0), (.getfield 45, 3, 12, 7), (.iload 4, 2, 0, 0), (.dup2, 1, 0, 0), (.iaload, 1, 0, 0), (.aload_n 0, 1, 0, 0), (.getfield 3, 3, 12, 13), (.iload 4, 2, 0, 0), (.iload 5, 2, 0, 0)], (.invokevirtual 103, 3, (196, 3, 63), [9])),
  (121, [(.aload_n 0, 1, 0, 0), (.getfield 3, 3, 12, 13), (.iload_n 3, 1, 0, 0)], (.invokevirtual 107, 3, (205, 2, 63), [10])),
  (129, [(.iand, 1, 0, 0)], (.ifCond .ne 7, 3, (0, 0, 0), [12, 11])),
  (133, [(.iconst (-1), 1, 0, 0)], (.goto 9, 3, (0, 0, 0), [13])),
  (137, [(.iconst 1, 1, 0, 0), (.iload 5, 2, 0, 0), (.ishl, 1, 0, 0), (.iconst (-1), 1, 0, 0), (.ixor, 1, 0, 0)], (.nop, 0, (0, 0, 0), [13])),
  (143, [(.iand, 1, 0, 0), (.iastore, 1, 0, 0), (.iinc 5 1, 3, 0, 0)], (.goto (-69), 3, (0, 0, 0), [6])),
  (151, [(.iinc 4 1, 3, 0, 0)], (.goto (-104), 3, (0, 0, 0), [4])),
  (157, [(.iconst 0, 1, 0, 0), (.istore 4, 2, 0, 0)], (.nop, 0, (0, 0, 0), [16])),
  (160, [(.iload 4, 2, 0, 0), (.aload_n 0, 1, 0, 0), (.getfield 3, 3, 12, 13), (.getfield 77, 3, 13, 12)], (.if_icmp .ge 250, 3, (0, 0, 0), [32, 17])),
  (172, [(.iload_n 1, 1, 0, 0), (.iload 4, 2, 0, 0), (.ishr, 1, 0, 0), (.iconst 1, 1, 0, 0), (.iand, 1, 0, 0)], (.ifCond .ne 6, 3, (0, 0, 0), [19, 18])),
  (181, [], (.goto 232, 3, (0, 0, 0), [31])),
  (184, [(.iconst 0, 1, 0, 0), (.istore 5, 2, 0, 0)], (.nop, 0, (0, 0, 0), [20])),
  (187, [(.iload 5, 2, 0, 0), (.aload_n 0, 1, 0, 0), (.getfield 3, 3, 12, 13), (.getfield 48, 3, 13, 8)], (.if_icmp .ge 32, 3, (0, 0, 0), [22, 21])),
  (199, [(.aload_n 0, 1, 0, 0), (.getfield 45, 3, 12, 7), (.iload 5, 2, 0, 0), (.dup2, 1, 0, 0), (.iaload, 1, 0, 0), (.aload_n 0, 1, 0, 0), (.getfield 33, 3, 12, 3), (.bipush 6, 2, 0, 0), (.iload 4, 2, 0, 0), (.imul, 1, 0, 0), (.iload 5, 2, 0, 0), (.iadd, 1, 0, 0), (.iaload, 1, 0, 0), (.iand, 1, 0, 0), (.iastore, 1, 0, 0), (.iinc 5 1, 3, 0, 0)], (.goto (-38), 3, (0, 0, 0), [20])),
  (228, [(.aload_n 0, 1, 0, 0), (.getfield 3, 3, 12, 13), (.getfield 111, 3, 13, 13), (.iload 4, 2, 0, 0), (.iaload, 1, 0, 0), (.iconst 1, 1, 0, 0)], (.if_icmp .ne 46, 3, (0, 0, 0), [24, 23])),
  (242, [(.aload_n 0, 1, 0, 0), (.getfield 42, 3, 12, 6), (.aload_n 0, 1, 0, 0), (.getfield 3, 3, 12, 13), (.getfield 114, 3, 13, 14), (.iload 4, 2, 0, 0), (.iaload, 1, 0, 0), (.aload_n 0, 1, 0, 0), (.getfield 42, 3, 12, 6), (.aload_n 0, 1, 0, 0), (.getfield 3, 3, 12, 13), (.getfield 114, 3, 13, 14), (.iload 4, 2, 0, 0), (.iaload, 1, 0, 0), (.iaload, 1, 0, 0), (.aload_n 0, 1, 0, 0), (.getfield 3, 3, 12, 13), (.getfield 117, 3, 13, 15), (.iload 4, 2, 0, 0), (.iaload, 1, 0, 0), (.invokestatic 120, 3, 2, 0), (.iastore, 1, 0, 0)], (.nop, 0, (0, 0, 0), [24])),
  (285, [(.iconst 0, 1, 0, 0), (.istore 5, 2, 0, 0)], (.nop, 0, (0, 0, 0), [25])),
  (288, [(.iload 5, 2, 0, 0), (.aload_n 0, 1, 0, 0), (.getfield 23, 3, 12, 0)], (.if_icmp .ge 119, 3, (0, 0, 0), [31, 26])),
  (297, [(.aload_n 0, 1, 0, 0), (.getfield 3, 3, 12, 13), (.iload 4, 2, 0, 0)], (.invokevirtual 84, 3, (201, 2, 63), [27])),
  (306, [], (.ifCond .eq 107, 3, (0, 0, 0), [31, 28])),
  (309, [(.aload_n 0, 1, 0, 0), (.getfield 39, 3, 12, 5), (.aload_n 0, 1, 0, 0), (.aload_n 0, 1, 0, 0), (.getfield 3, 3, 12, 13), (.getfield 114, 3, 13, 14), (.iload 4, 2, 0, 0), (.iaload, 1, 0, 0), (.iload 5, 2, 0, 0), (.aload_n 0, 1, 0, 0), (.getfield 3, 3, 12, 13), (.getfield 117, 3, 13, 15), (.iload 4, 2, 0, 0), (.iaload, 1, 0, 0)], (.invokevirtual 73, 3, (173, 4, 12), [29])),
  (339, [(.dup2, 1, 0, 0), (.iaload, 1, 0, 0), (.aload_n 0, 1, 0, 0), (.getfield 36, 3, 12, 4), (.bipush 36, 2, 0, 0), (.iload 4, 2, 0, 0), (.imul, 1, 0, 0), (.iload 5, 2, 0, 0), (.iadd, 1, 0, 0), (.iaload, 1, 0, 0), (.iand, 1, 0, 0), (.iastore, 1, 0, 0), (.aload_n 0, 1, 0, 0), (.getfield 39, 3, 12, 5), (.aload_n 0, 1, 0, 0), (.aload_n 0, 1, 0, 0), (.getfield 3, 3, 12, 13), (.getfield 117, 3, 13, 15), (.iload 4, 2, 0, 0), (.iaload, 1, 0, 0), (.iload 5, 2, 0, 0), (.aload_n 0, 1, 0, 0), (.getfield 3, 3, 12, 13), (.getfield 114, 3, 13, 14), (.iload 4, 2, 0, 0), (.iaload, 1, 0, 0)], (.invokevirtual 73, 3, (173, 4, 12), [30])),
  (386, [(.dup2, 1, 0, 0), (.iaload, 1, 0, 0), (.aload_n 0, 1, 0, 0), (.getfield 36, 3, 12, 4), (.bipush 18, 2, 0, 0), (.iconst 2, 1, 0, 0), (.iload 4, 2, 0, 0), (.imul, 1, 0, 0), (.iconst 1, 1, 0, 0), (.iadd, 1, 0, 0), (.imul, 1, 0, 0), (.iload 5, 2, 0, 0), (.iadd, 1, 0, 0), (.iaload, 1, 0, 0), (.iand, 1, 0, 0), (.iastore, 1, 0, 0), (.iinc 5 1, 3, 0, 0)], (.goto (-122), 3, (0, 0, 0), [25])),
  (413, [(.iinc 4 1, 3, 0, 0)], (.goto (-256), 3, (0, 0, 0), [16])),
  (419, [], (.return_, 1, (0, 0, 0), []))])
def am_X12_lays : ab_M := (6, [], [
  (0, [(.aload_n 0, 1, 0, 0), (.getfield 51, 3, 12, 8), (.iload_n 1, 1, 0, 0), (.iload_n 2, 1, 0, 0), (.iastore, 1, 0, 0), (.bipush 6, 2, 0, 0), (.iload_n 1, 1, 0, 0), (.imul, 1, 0, 0), (.istore_n 3, 1, 0, 0), (.iconst 1, 1, 0, 0), (.istore 4, 2, 0, 0), (.iload_n 1, 1, 0, 0), (.iconst 1, 1, 0, 0), (.iadd, 1, 0, 0), (.istore 5, 2, 0, 0)], (.nop, 0, (0, 0, 0), [1])),
  (20, [(.iload 5, 2, 0, 0), (.aload_n 0, 1, 0, 0), (.getfield 3, 3, 12, 13), (.getfield 48, 3, 13, 8)], (.if_icmp .ge 71, 3, (0, 0, 0), [8, 2])),
  (32, [(.aload_n 0, 1, 0, 0), (.getfield 45, 3, 12, 7), (.iload_n 3, 1, 0, 0), (.bipush 6, 2, 0, 0), (.iadd, 1, 0, 0), (.iload 5, 2, 0, 0), (.iadd, 1, 0, 0), (.aload_n 0, 1, 0, 0), (.getfield 45, 3, 12, 7), (.iload_n 3, 1, 0, 0), (.iload 5, 2, 0, 0), (.iadd, 1, 0, 0), (.iaload, 1, 0, 0), (.aload_n 0, 1, 0, 0), (.getfield 39, 3, 12, 5), (.aload_n 0, 1, 0, 0), (.iload_n 1, 1, 0, 0), (.iload_n 2, 1, 0, 0), (.iload 5, 2, 0, 0)], (.invokevirtual 73, 3, (173, 4, 12), [3])),
  (64, [(.iaload, 1, 0, 0), (.iand, 1, 0, 0), (.iastore, 1, 0, 0), (.iload 4, 2, 0, 0)], (.ifCond .eq 22, 3, (0, 0, 0), [6, 4])),
  (72, [(.aload_n 0, 1, 0, 0), (.getfield 45, 3, 12, 7), (.iload_n 3, 1, 0, 0), (.bipush 6, 2, 0, 0), (.iadd, 1, 0, 0), (.iload 5, 2, 0, 0), (.iadd, 1, 0, 0), (.iaload, 1, 0, 0)], (.ifCond .eq 7, 3, (0, 0, 0), [6, 5])),
  (87, [(.iconst 1, 1, 0, 0)], (.goto 4, 3, (0, 0, 0), [7])),
  (91, [(.iconst 0, 1, 0, 0)], (.nop, 0, (0, 0, 0), [7])),
  (92, [(.istore 4, 2, 0, 0), (.iinc 5 1, 3, 0, 0)], (.goto (-77), 3, (0, 0, 0), [1])),
  (100, [(.aload_n 0, 1, 0, 0), (.getfield 3, 3, 12, 13), (.getfield 100, 3, 13, 10), (.iload_n 1, 1, 0, 0), (.iaload, 1, 0, 0), (.istore 5, 2, 0, 0), (.iload 4, 2, 0, 0)], (.ifCond .eq 57, 3, (0, 0, 0), [14, 9])),
  (116, [(.aload_n 0, 1, 0, 0), (.getfield 42, 3, 12, 6), (.iload 5, 2, 0, 0), (.iaload, 1, 0, 0), (.aload_n 0, 1, 0, 0), (.getfield 3, 3, 12, 13), (.getfield 97, 3, 13, 1)], (.if_icmp .eq 36, 3, (0, 0, 0), [13, 10])),
  (133, [(.aload_n 0, 1, 0, 0), (.getfield 3, 3, 12, 13), (.aload_n 0, 1, 0, 0), (.getfield 3, 3, 12, 13), (.iload 5, 2, 0, 0), (.aload_n 0, 1, 0, 0), (.getfield 51, 3, 12, 8), (.iload_n 1, 1, 0, 0), (.iconst 1, 1, 0, 0), (.iadd, 1, 0, 0)], (.invokevirtual 125, 3, (204, 4, 63), [11])),
  (153, [(.aload_n 0, 1, 0, 0), (.getfield 42, 3, 12, 6), (.iload 5, 2, 0, 0), (.iaload, 1, 0, 0)], (.invokevirtual 129, 3, (206, 3, 63), [12])),
  (163, [], (.ifCond .eq 7, 3, (0, 0, 0), [14, 13])),
  (166, [(.iconst 1, 1, 0, 0)], (.goto 4, 3, (0, 0, 0), [15])),
  (170, [(.iconst 0, 1, 0, 0)], (.nop, 0, (0, 0, 0), [15])),
  (171, [], (.ireturn, 1, (1, 0, 0), []))])
def am_X12_has : ab_M := (3, [], [
  (0, [(.aload_n 0, 1, 0, 0), (.getfield 45, 3, 12, 7), (.bipush 6, 2, 0, 0), (.iload_n 1, 1, 0, 0), (.imul, 1, 0, 0), (.iload_n 1, 1, 0, 0), (.iadd, 1, 0, 0), (.iaload, 1, 0, 0), (.iload_n 2, 1, 0, 0), (.ishr, 1, 0, 0), (.iconst 1, 1, 0, 0), (.iand, 1, 0, 0), (.iconst 1, 1, 0, 0)], (.if_icmp .ne 7, 3, (0, 0, 0), [2, 1])),
  (19, [(.iconst 1, 1, 0, 0)], (.goto 4, 3, (0, 0, 0), [3])),
  (23, [(.iconst 0, 1, 0, 0)], (.nop, 0, (0, 0, 0), [3])),
  (24, [], (.ireturn, 1, (1, 0, 0), []))])
def am_X12_finds : ab_M := (1, [], [
  (0, [(.aload_n 0, 1, 0, 0), (.iconst 0, 1, 0, 0)], (.invokevirtual 132, 3, (178, 2, 12), [1])),
  (5, [], (.ireturn, 1, (1, 0, 0), []))])
def am_X12_finds_ : ab_M := (3, [], [
  (0, [(.iload_n 1, 1, 0, 0), (.aload_n 0, 1, 0, 0), (.getfield 3, 3, 12, 13), (.getfield 48, 3, 13, 8)], (.if_icmp .ne 5, 3, (0, 0, 0), [2, 1])),
  (11, [(.iconst 1, 1, 0, 0)], (.ireturn, 1, (1, 0, 0), [])),
  (13, [(.iconst 0, 1, 0, 0), (.istore_n 2, 1, 0, 0)], (.nop, 0, (0, 0, 0), [3])),
  (15, [(.iload_n 2, 1, 0, 0), (.aload_n 0, 1, 0, 0), (.getfield 23, 3, 12, 0)], (.if_icmp .ge 39, 3, (0, 0, 0), [12, 4])),
  (23, [(.aload_n 0, 1, 0, 0), (.iload_n 1, 1, 0, 0), (.iload_n 2, 1, 0, 0)], (.invokevirtual 135, 3, (176, 3, 12), [5])),
  (29, [], (.ifCond .eq 24, 3, (0, 0, 0), [11, 6])),
  (32, [(.aload_n 0, 1, 0, 0), (.iload_n 1, 1, 0, 0), (.iload_n 2, 1, 0, 0)], (.invokevirtual 138, 3, (175, 3, 12), [7])),
  (38, [], (.ifCond .eq 15, 3, (0, 0, 0), [11, 8])),
  (41, [(.aload_n 0, 1, 0, 0), (.iload_n 1, 1, 0, 0), (.iconst 1, 1, 0, 0), (.iadd, 1, 0, 0)], (.invokevirtual 132, 3, (178, 2, 12), [9])),
  (48, [], (.ifCond .eq 5, 3, (0, 0, 0), [11, 10])),
  (51, [(.iconst 1, 1, 0, 0)], (.ireturn, 1, (1, 0, 0), [])),
  (53, [(.iinc 2 1, 3, 0, 0)], (.goto (-41), 3, (0, 0, 0), [3])),
  (59, [(.iconst 0, 1, 0, 0)], (.ireturn, 1, (1, 0, 0), []))])
def am_X12_findsBehind : ab_M := (4, [], [
  (0, [(.iload_n 1, 1, 0, 0), (.aload_n 0, 1, 0, 0), (.getfield 3, 3, 12, 13), (.getfield 48, 3, 13, 8)], (.if_icmp .ne 5, 3, (0, 0, 0), [2, 1])),
  (11, [(.iconst 0, 1, 0, 0)], (.ireturn, 1, (1, 0, 0), [])),
  (13, [(.aload_n 2, 1, 0, 0), (.iload_n 1, 1, 0, 0), (.iaload, 1, 0, 0), (.istore_n 3, 1, 0, 0)], (.nop, 0, (0, 0, 0), [3])),
  (17, [(.iload_n 3, 1, 0, 0), (.aload_n 0, 1, 0, 0), (.getfield 23, 3, 12, 0)], (.if_icmp .ge 60, 3, (0, 0, 0), [16, 4])),
  (25, [(.aload_n 0, 1, 0, 0), (.iload_n 1, 1, 0, 0), (.iload_n 3, 1, 0, 0)], (.invokevirtual 135, 3, (176, 3, 12), [5])),
  (31, [], (.ifCond .eq 45, 3, (0, 0, 0), [15, 6])),
  (34, [(.aload_n 0, 1, 0, 0), (.iload_n 1, 1, 0, 0), (.iload_n 3, 1, 0, 0)], (.invokevirtual 138, 3, (175, 3, 12), [7])),
  (40, [], (.ifCond .eq 36, 3, (0, 0, 0), [15, 8])),
  (43, [(.iload_n 3, 1, 0, 0), (.aload_n 2, 1, 0, 0), (.iload_n 1, 1, 0, 0), (.iaload, 1, 0, 0)], (.if_icmp .ne 17, 3, (0, 0, 0), [12, 9])),
  (50, [(.aload_n 0, 1, 0, 0), (.iload_n 1, 1, 0, 0), (.iconst 1, 1, 0, 0), (.iadd, 1, 0, 0), (.aload_n 2, 1, 0, 0)], (.invokevirtual 141, 3, (179, 3, 12), [10])),
  (58, [], (.ifCond .eq 18, 3, (0, 0, 0), [15, 11])),
  (61, [], (.goto 13, 3, (0, 0, 0), [14])),
  (64, [(.aload_n 0, 1, 0, 0), (.iload_n 1, 1, 0, 0), (.iconst 1, 1, 0, 0), (.iadd, 1, 0, 0)], (.invokevirtual 132, 3, (178, 2, 12), [13])),
  (71, [], (.ifCond .eq 5, 3, (0, 0, 0), [15, 14])),
  (74, [(.iconst 1, 1, 0, 0)], (.ireturn, 1, (1, 0, 0), [])),
  (76, [(.iinc 3 1, 3, 0, 0)], (.goto (-62), 3, (0, 0, 0), [3])),
  (82, [(.iconst 0, 1, 0, 0)], (.ireturn, 1, (1, 0, 0), []))])
def am_X12_findsNear : ab_M := (6, [], [
  (0, [(.iload_n 1, 1, 0, 0), (.aload_n 0, 1, 0, 0), (.getfield 3, 3, 12, 13), (.getfield 48, 3, 13, 8)], (.if_icmp .ne 5, 3, (0, 0, 0), [2, 1])),
  (11, [(.iconst 1, 1, 0, 0)], (.ireturn, 1, (1, 0, 0), [])),
  (13, [(.iconst 0, 1, 0, 0), (.istore 4, 2, 0, 0)], (.nop, 0, (0, 0, 0), [3])),
  (16, [(.iload 4, 2, 0, 0), (.aload_n 0, 1, 0, 0), (.getfield 23, 3, 12, 0)], (.if_icmp .ge 66, 3, (0, 0, 0), [16, 4])),
  (25, [(.iload 4, 2, 0, 0), (.aload_n 2, 1, 0, 0), (.iload_n 1, 1, 0, 0), (.iaload, 1, 0, 0)], (.if_icmp .ne 7, 3, (0, 0, 0), [6, 5])),
  (33, [(.iload_n 3, 1, 0, 0)], (.goto 6, 3, (0, 0, 0), [7])),
  (37, [(.iload_n 3, 1, 0, 0), (.iconst 1, 1, 0, 0), (.isub, 1, 0, 0)], (.nop, 0, (0, 0, 0), [7])),
  (40, [(.istore 5, 2, 0, 0), (.iload 5, 2, 0, 0)], (.ifCond .lt 38, 3, (0, 0, 0), [15, 8])),
  (47, [(.aload_n 0, 1, 0, 0), (.iload_n 1, 1, 0, 0), (.iload 4, 2, 0, 0)], (.invokevirtual 135, 3, (176, 3, 12), [9])),
  (54, [], (.ifCond .eq 28, 3, (0, 0, 0), [15, 10])),
  (57, [(.aload_n 0, 1, 0, 0), (.iload_n 1, 1, 0, 0), (.iload 4, 2, 0, 0)], (.invokevirtual 138, 3, (175, 3, 12), [11])),
  (64, [], (.ifCond .eq 18, 3, (0, 0, 0), [15, 12])),
  (67, [(.aload_n 0, 1, 0, 0), (.iload_n 1, 1, 0, 0), (.iconst 1, 1, 0, 0), (.iadd, 1, 0, 0), (.aload_n 2, 1, 0, 0), (.iload 5, 2, 0, 0)], (.invokevirtual 145, 3, (180, 4, 12), [13])),
  (77, [], (.ifCond .eq 5, 3, (0, 0, 0), [15, 14])),
  (80, [(.iconst 1, 1, 0, 0)], (.ireturn, 1, (1, 0, 0), [])),
  (82, [(.iinc 4 1, 3, 0, 0)], (.goto (-69), 3, (0, 0, 0), [3])),
  (88, [(.iconst 0, 1, 0, 0)], (.ireturn, 1, (1, 0, 0), []))])
def am_X12_copied : ab_M := (1, [], [
  (0, [(.aload_n 0, 1, 0, 0), (.aload_n 0, 1, 0, 0), (.getfield 51, 3, 12, 8)], (.invokevirtual 149, 3, (182, 2, 12), [1])),
  (8, [], (.areturn, 1, (0, 0, 0), []))])
def am_X12_copiedOf : ab_M := (3, [], [
  (0, [(.aload_n 0, 1, 0, 0), (.getfield 3, 3, 12, 13), (.getfield 48, 3, 13, 8), (.newarray .int, 2, 0, 0), (.astore_n 2, 1, 0, 0), (.aload_n 1, 1, 0, 0), (.iconst 0, 1, 0, 0), (.aload_n 2, 1, 0, 0), (.iconst 0, 1, 0, 0), (.aload_n 0, 1, 0, 0), (.getfield 3, 3, 12, 13), (.getfield 48, 3, 13, 8), (.invokestatic 91, 3, 0, 0), (.aload_n 2, 1, 0, 0)], (.areturn, 1, (0, 0, 0), []))])
def am_X12_findsLightest : ab_M := (7, [], [
  (0, [(.iload_n 1, 1, 0, 0), (.aload_n 0, 1, 0, 0), (.getfield 3, 3, 12, 13), (.getfield 48, 3, 13, 8)], (.if_icmp .ne 44, 3, (0, 0, 0), [7, 1])),
  (11, [(.aload_n 0, 1, 0, 0), (.getfield 3, 3, 12, 13), (.aload_n 0, 1, 0, 0), (.getfield 51, 3, 12, 8)], (.invokevirtual 153, 3, (212, 2, 63), [2])),
  (22, [(.istore_n 3, 1, 0, 0), (.aload_n 0, 1, 0, 0), (.getfield 157, 3, 12, 9)], (.ifnull 11, 3, (0, 0, 0), [4, 3])),
  (30, [(.iload_n 3, 1, 0, 0), (.aload_n 0, 1, 0, 0), (.getfield 160, 3, 12, 10)], (.if_icmp .ge 16, 3, (0, 0, 0), [6, 4])),
  (38, [(.aload_n 0, 1, 0, 0), (.aload_n 0, 1, 0, 0)], (.invokevirtual 163, 3, (181, 1, 12), [5])),
  (43, [(.putfield 157, 3, 12, 9), (.aload_n 0, 1, 0, 0), (.iload_n 3, 1, 0, 0), (.putfield 160, 3, 12, 10)], (.nop, 0, (0, 0, 0), [6])),
  (51, [], (.return_, 1, (0, 0, 0), [])),
  (52, [(.iconst 0, 1, 0, 0), (.istore_n 3, 1, 0, 0)], (.nop, 0, (0, 0, 0), [8])),
  (54, [(.iload_n 3, 1, 0, 0), (.aload_n 0, 1, 0, 0), (.getfield 23, 3, 12, 0)], (.if_icmp .ge 130, 3, (0, 0, 0), [24, 9])),
  (62, [(.aload_n 0, 1, 0, 0), (.iload_n 1, 1, 0, 0), (.iload_n 3, 1, 0, 0)], (.invokevirtual 135, 3, (176, 3, 12), [10])),
  (68, [], (.ifCond .eq 115, 3, (0, 0, 0), [23, 11])),
  (71, [(.aload_n 0, 1, 0, 0), (.iload_n 1, 1, 0, 0), (.iload_n 3, 1, 0, 0)], (.invokevirtual 138, 3, (175, 3, 12), [12])),
  (77, [], (.ifCond .ne 6, 3, (0, 0, 0), [14, 13])),
  (80, [], (.goto 103, 3, (0, 0, 0), [23])),
  (83, [(.iload_n 2, 1, 0, 0), (.aload_n 0, 1, 0, 0), (.getfield 3, 3, 12, 13), (.iload_n 1, 1, 0, 0), (.iload_n 3, 1, 0, 0)], (.invokevirtual 167, 3, (211, 3, 63), [15])),
  (93, [(.iadd, 1, 0, 0), (.istore 4, 2, 0, 0), (.iload 4, 2, 0, 0), (.istore 5, 2, 0, 0), (.iload_n 1, 1, 0, 0), (.iconst 1, 1, 0, 0), (.iadd, 1, 0, 0), (.istore 6, 2, 0, 0)], (.nop, 0, (0, 0, 0), [16])),
  (105, [(.iload 6, 2, 0, 0), (.aload_n 0, 1, 0, 0), (.getfield 3, 3, 12, 13), (.getfield 48, 3, 13, 8)], (.if_icmp .ge 44, 3, (0, 0, 0), [20, 17])),
  (117, [(.aload_n 0, 1, 0, 0), (.getfield 157, 3, 12, 9)], (.ifnull 37, 3, (0, 0, 0), [20, 18])),
  (124, [(.iload 5, 2, 0, 0), (.aload_n 0, 1, 0, 0), (.getfield 3, 3, 12, 13), (.iload 6, 2, 0, 0), (.aload_n 0, 1, 0, 0), (.getfield 45, 3, 12, 7), (.bipush 6, 2, 0, 0), (.iload_n 1, 1, 0, 0), (.iconst 1, 1, 0, 0), (.iadd, 1, 0, 0), (.imul, 1, 0, 0), (.iload 6, 2, 0, 0), (.iadd, 1, 0, 0), (.iaload, 1, 0, 0)], (.invokevirtual 170, 3, (213, 3, 63), [19])),
  (149, [(.iadd, 1, 0, 0), (.istore 5, 2, 0, 0), (.iinc 6 1, 3, 0, 0)], (.goto (-50), 3, (0, 0, 0), [16])),
  (158, [(.aload_n 0, 1, 0, 0), (.getfield 157, 3, 12, 9)], (.ifnull 12, 3, (0, 0, 0), [22, 21])),
  (165, [(.iload 5, 2, 0, 0), (.aload_n 0, 1, 0, 0), (.getfield 160, 3, 12, 10)], (.if_icmp .ge 12, 3, (0, 0, 0), [23, 22])),
  (174, [(.aload_n 0, 1, 0, 0), (.iload_n 1, 1, 0, 0), (.iconst 1, 1, 0, 0), (.iadd, 1, 0, 0), (.iload 4, 2, 0, 0)], (.invokevirtual 173, 3, (183, 3, 12), [23])),
  (183, [(.iinc 3 1, 3, 0, 0)], (.goto (-132), 3, (0, 0, 0), [8])),
  (189, [], (.return_, 1, (0, 0, 0), []))])
def am_X12_findsFairest : ab_M := (4, [], [
  (0, [(.aload_n 0, 1, 0, 0), (.getfield 56, 3, 12, 11), (.iload_n 1, 1, 0, 0), (.aaload, 1, 0, 0), (.astore_n 2, 1, 0, 0), (.aload_n 0, 1, 0, 0), (.getfield 3, 3, 12, 13), (.aload_n 2, 1, 0, 0), (.aload_n 0, 1, 0, 0), (.getfield 51, 3, 12, 8), (.iload_n 1, 1, 0, 0)], (.invokevirtual 177, 3, (215, 4, 63), [1])),
  (20, [(.aload_n 0, 1, 0, 0), (.getfield 157, 3, 12, 9)], (.ifnull 15, 3, (0, 0, 0), [5, 2])),
  (27, [(.aload_n 2, 1, 0, 0), (.aload_n 0, 1, 0, 0), (.getfield 59, 3, 12, 12)], (.invokestatic 181, 3, (216, 2, 203), [3])),
  (35, [], (.ifCond .ne 4, 3, (0, 0, 0), [5, 4])),
  (38, [], (.return_, 1, (0, 0, 0), [])),
  (39, [(.iload_n 1, 1, 0, 0), (.aload_n 0, 1, 0, 0), (.getfield 3, 3, 12, 13), (.getfield 48, 3, 13, 8)], (.if_icmp .ne 23, 3, (0, 0, 0), [8, 6])),
  (50, [(.aload_n 0, 1, 0, 0), (.aload_n 0, 1, 0, 0)], (.invokevirtual 163, 3, (181, 1, 12), [7])),
  (55, [(.putfield 157, 3, 12, 9), (.aload_n 2, 1, 0, 0), (.iconst 0, 1, 0, 0), (.aload_n 0, 1, 0, 0), (.getfield 59, 3, 12, 12), (.iconst 0, 1, 0, 0), (.iconst 4, 1, 0, 0), (.invokestatic 91, 3, 0, 0)], (.return_, 1, (0, 0, 0), [])),
  (70, [(.iconst 0, 1, 0, 0), (.istore_n 3, 1, 0, 0)], (.nop, 0, (0, 0, 0), [9])),
  (72, [(.iload_n 3, 1, 0, 0), (.aload_n 0, 1, 0, 0), (.getfield 23, 3, 12, 0)], (.if_icmp .ge 34, 3, (0, 0, 0), [16, 10])),
  (80, [(.aload_n 0, 1, 0, 0), (.iload_n 1, 1, 0, 0), (.iload_n 3, 1, 0, 0)], (.invokevirtual 135, 3, (176, 3, 12), [11])),
  (86, [], (.ifCond .eq 19, 3, (0, 0, 0), [15, 12])),
  (89, [(.aload_n 0, 1, 0, 0), (.iload_n 1, 1, 0, 0), (.iload_n 3, 1, 0, 0)], (.invokevirtual 138, 3, (175, 3, 12), [13])),
  (95, [], (.ifCond .eq 10, 3, (0, 0, 0), [15, 14])),
  (98, [(.aload_n 0, 1, 0, 0), (.iload_n 1, 1, 0, 0), (.iconst 1, 1, 0, 0), (.iadd, 1, 0, 0)], (.invokevirtual 185, 3, (184, 2, 12), [15])),
  (105, [(.iinc 3 1, 3, 0, 0)], (.goto (-36), 3, (0, 0, 0), [9])),
  (111, [], (.return_, 1, (0, 0, 0), []))])
def am_X13_init : ab_M := (1, [], [
  (0, [(.aload_n 0, 1, 0, 0), (.invokespecial 1, 3, 0, 0), (.aload_n 0, 1, 0, 0), (.iconst 2, 1, 0, 0), (.putfield 7, 3, 13, 0), (.aload_n 0, 1, 0, 0), (.iconst 3, 1, 0, 0), (.putfield 13, 3, 13, 1), (.aload_n 0, 1, 0, 0), (.iconst 4, 1, 0, 0), (.newarray .int, 2, 0, 0), (.putfield 16, 3, 13, 3), (.aload_n 0, 1, 0, 0), (.iconst 4, 1, 0, 0), (.newarray .int, 2, 0, 0), (.putfield 20, 3, 13, 4), (.aload_n 0, 1, 0, 0), (.iconst 3, 1, 0, 0), (.newarray .int, 2, 0, 0), (.putfield 23, 3, 13, 7), (.aload_n 0, 1, 0, 0), (.bipush 6, 2, 0, 0), (.newarray .int, 2, 0, 0), (.putfield 26, 3, 13, 9), (.aload_n 0, 1, 0, 0), (.bipush 6, 2, 0, 0), (.newarray .int, 2, 0, 0), (.putfield 29, 3, 13, 10), (.aload_n 0, 1, 0, 0), (.bipush 6, 2, 0, 0), (.newarray .int, 2, 0, 0), (.putfield 32, 3, 13, 11), (.aload_n 0, 1, 0, 0), (.bipush 10, 2, 0, 0), (.newarray .int, 2, 0, 0), (.putfield 35, 3, 13, 13), (.aload_n 0, 1, 0, 0), (.bipush 10, 2, 0, 0), (.newarray .int, 2, 0, 0), (.putfield 38, 3, 13, 14), (.aload_n 0, 1, 0, 0), (.bipush 10, 2, 0, 0), (.newarray .int, 2, 0, 0), (.putfield 41, 3, 13, 15), (.aload_n 0, 1, 0, 0), (.iconst 1, 1, 0, 0), (.putfield 44, 3, 13, 16), (.aload_n 0, 1, 0, 0), (.iconst 1, 1, 0, 0), (.putfield 47, 3, 13, 17), (.aload_n 0, 1, 0, 0), (.iconst 1, 1, 0, 0), (.putfield 50, 3, 13, 18), (.aload_n 0, 1, 0, 0), (.iconst 0, 1, 0, 0), (.newarray .int, 2, 0, 0), (.putfield 53, 3, 13, 21)], (.return_, 1, (0, 0, 0), []))])
def am_X13_thrown : ab_M := (1, [], [
  (0, [(.aload_n 0, 1, 0, 0), (.getfield 56, 3, 13, 22)], (.ireturn, 1, (0, 0, 0), []))])
def am_X13_ends : ab_M := (3, [], [
  (0, [(.aload_n 0, 1, 0, 0), (.iload_n 1, 1, 0, 0)], (.ifCond .eq 7, 3, (0, 0, 0), [2, 1])),
  (5, [(.iconst 0, 1, 0, 0)], (.goto 4, 3, (0, 0, 0), [3])),
  (9, [(.iload_n 2, 1, 0, 0)], (.nop, 0, (0, 0, 0), [3])),
  (10, [(.putfield 56, 3, 13, 22), (.iload_n 1, 1, 0, 0)], (.ifCond .ne 7, 3, (0, 0, 0), [5, 4])),
  (17, [(.iconst 1, 1, 0, 0)], (.goto 4, 3, (0, 0, 0), [6])),
  (21, [(.iconst 0, 1, 0, 0)], (.nop, 0, (0, 0, 0), [6])),
  (22, [], (.ireturn, 1, (1, 0, 0), []))])
def am_X13_isIn : ab_M := (3, [], [
  (0, [(.iload_n 0, 1, 0, 0), (.iload_n 1, 1, 0, 0)], (.if_icmp .lt 12, 3, (0, 0, 0), [3, 1])),
  (5, [(.iload_n 0, 1, 0, 0), (.iload_n 2, 1, 0, 0)], (.if_icmp .gt 7, 3, (0, 0, 0), [3, 2])),
  (10, [(.iconst 1, 1, 0, 0)], (.goto 4, 3, (0, 0, 0), [4])),
  (14, [(.iconst 0, 1, 0, 0)], (.nop, 0, (0, 0, 0), [4])),
  (15, [], (.ireturn, 1, (1, 0, 0), []))])
def am_X13_slots : ab_M := (1, [], [
  (0, [(.aload_n 0, 1, 0, 0), (.getfield 7, 3, 13, 0), (.aload_n 0, 1, 0, 0), (.getfield 13, 3, 13, 1), (.imul, 1, 0, 0)], (.ireturn, 1, (0, 0, 0), []))])
def am_X13_isLesson : ab_M := (2, [], [
  (0, [(.iload_n 1, 1, 0, 0), (.iconst 0, 1, 0, 0), (.aload_n 0, 1, 0, 0), (.getfield 59, 3, 13, 8), (.iconst 1, 1, 0, 0), (.isub, 1, 0, 0)], (.invokestatic 62, 3, (188, 3, 200), [1])),
  (11, [], (.ireturn, 1, (1, 0, 0), []))])
def am_X13_isTeacher : ab_M := (2, [], [
  (0, [(.iload_n 1, 1, 0, 0), (.iconst 0, 1, 0, 0), (.aload_n 0, 1, 0, 0), (.getfield 66, 3, 13, 5), (.iconst 1, 1, 0, 0), (.isub, 1, 0, 0)], (.invokestatic 62, 3, (188, 3, 200), [1])),
  (11, [], (.ireturn, 1, (1, 0, 0), []))])
def am_X13_isRoom : ab_M := (2, [], [
  (0, [(.iload_n 1, 1, 0, 0), (.iconst 0, 1, 0, 0), (.aload_n 0, 1, 0, 0), (.getfield 69, 3, 13, 6), (.iconst 1, 1, 0, 0), (.isub, 1, 0, 0)], (.invokestatic 62, 3, (188, 3, 200), [1])),
  (11, [], (.ireturn, 1, (1, 0, 0), []))])
def am_X13_isSlot : ab_M := (2, [], [
  (0, [(.iload_n 1, 1, 0, 0), (.iconst 0, 1, 0, 0), (.aload_n 0, 1, 0, 0)], (.invokevirtual 72, 3, (189, 1, 13), [1])),
  (6, [(.iconst 1, 1, 0, 0), (.isub, 1, 0, 0)], (.invokestatic 62, 3, (188, 3, 200), [2])),
  (11, [], (.ireturn, 1, (1, 0, 0), []))])
def am_X13_told : ab_M := (2, [], [
  (0, [(.iload_n 1, 1, 0, 0), (.aload_n 0, 1, 0, 0), (.getfield 69, 3, 13, 6), (.idiv, 1, 0, 0), (.bipush 10, 2, 0, 0), (.imul, 1, 0, 0), (.iload_n 1, 1, 0, 0), (.aload_n 0, 1, 0, 0), (.getfield 69, 3, 13, 6), (.irem, 1, 0, 0), (.iadd, 1, 0, 0)], (.ireturn, 1, (0, 0, 0), []))])
def am_X13_lastSlot : ab_M := (3, [], [
  (0, [(.iload_n 2, 1, 0, 0), (.aload_n 0, 1, 0, 0), (.getfield 69, 3, 13, 6), (.idiv, 1, 0, 0), (.aload_n 0, 1, 0, 0), (.getfield 32, 3, 13, 11), (.iload_n 1, 1, 0, 0), (.iaload, 1, 0, 0), (.iadd, 1, 0, 0), (.iconst 1, 1, 0, 0), (.isub, 1, 0, 0), (.aload_n 0, 1, 0, 0)], (.invokevirtual 72, 3, (189, 1, 13), [1])),
  (19, [(.iconst 1, 1, 0, 0), (.isub, 1, 0, 0), (.invokestatic 76, 3, 2, 0)], (.ireturn, 1, (0, 0, 0), []))])
def am_X13_covers : ab_M := (3, [], [
  (0, [(.iconst 1, 1, 0, 0), (.iload_n 2, 1, 0, 0), (.aload_n 0, 1, 0, 0), (.getfield 69, 3, 13, 6), (.idiv, 1, 0, 0), (.ishl, 1, 0, 0), (.iconst 1, 1, 0, 0), (.aload_n 0, 1, 0, 0), (.iload_n 1, 1, 0, 0), (.iload_n 2, 1, 0, 0)], (.invokevirtual 82, 3, (195, 3, 13), [1])),
  (15, [(.ishl, 1, 0, 0), (.ior, 1, 0, 0)], (.ireturn, 1, (0, 0, 0), []))])
def am_X13_dayOf : ab_M := (2, [], [
  (0, [(.iload_n 1, 1, 0, 0), (.aload_n 0, 1, 0, 0), (.getfield 69, 3, 13, 6), (.idiv, 1, 0, 0), (.aload_n 0, 1, 0, 0), (.getfield 13, 3, 13, 1), (.idiv, 1, 0, 0)], (.ireturn, 1, (0, 0, 0), []))])
def am_X13_isOnOneDay : ab_M := (3, [], [
  (0, [(.iload_n 2, 1, 0, 0), (.aload_n 0, 1, 0, 0), (.getfield 69, 3, 13, 6), (.idiv, 1, 0, 0), (.aload_n 0, 1, 0, 0), (.getfield 13, 3, 13, 1), (.irem, 1, 0, 0), (.aload_n 0, 1, 0, 0), (.getfield 32, 3, 13, 11), (.iload_n 1, 1, 0, 0), (.iaload, 1, 0, 0), (.iadd, 1, 0, 0), (.aload_n 0, 1, 0, 0), (.getfield 13, 3, 13, 1)], (.if_icmp .gt 7, 3, (0, 0, 0), [2, 1])),
  (25, [(.iconst 1, 1, 0, 0)], (.goto 4, 3, (0, 0, 0), [3])),
  (29, [(.iconst 0, 1, 0, 0)], (.nop, 0, (0, 0, 0), [3])),
  (30, [], (.ireturn, 1, (1, 0, 0), []))])
def am_X13_fits : ab_M := (3, [], [
  (0, [(.aload_n 0, 1, 0, 0), (.getfield 23, 3, 13, 7), (.iload_n 2, 1, 0, 0), (.aload_n 0, 1, 0, 0), (.getfield 69, 3, 13, 6), (.irem, 1, 0, 0), (.iaload, 1, 0, 0), (.aload_n 0, 1, 0, 0), (.getfield 16, 3, 13, 3), (.aload_n 0, 1, 0, 0), (.getfield 26, 3, 13, 9), (.iload_n 1, 1, 0, 0), (.iaload, 1, 0, 0), (.iaload, 1, 0, 0)], (.if_icmp .lt 7, 3, (0, 0, 0), [2, 1])),
  (25, [(.iconst 1, 1, 0, 0)], (.goto 4, 3, (0, 0, 0), [3])),
  (29, [(.iconst 0, 1, 0, 0)], (.nop, 0, (0, 0, 0), [3])),
  (30, [], (.ireturn, 1, (1, 0, 0), []))])
def am_X13_clashes : ab_M := (5, [], [
  (0, [(.aload_n 0, 1, 0, 0), (.iload_n 1, 1, 0, 0), (.iload_n 2, 1, 0, 0)], (.invokevirtual 85, 3, (196, 3, 13), [1])),
  (6, [(.aload_n 0, 1, 0, 0), (.iload_n 3, 1, 0, 0), (.iload 4, 2, 0, 0)], (.invokevirtual 85, 3, (196, 3, 13), [2])),
  (13, [(.iand, 1, 0, 0)], (.ifCond .ne 5, 3, (0, 0, 0), [4, 3])),
  (17, [(.iconst 0, 1, 0, 0)], (.ireturn, 1, (0, 0, 0), [])),
  (19, [(.aload_n 0, 1, 0, 0), (.getfield 26, 3, 13, 9), (.iload_n 1, 1, 0, 0), (.iaload, 1, 0, 0), (.aload_n 0, 1, 0, 0), (.getfield 26, 3, 13, 9), (.iload_n 3, 1, 0, 0), (.iaload, 1, 0, 0)], (.if_icmp .ne 7, 3, (0, 0, 0), [6, 5])),
  (34, [(.iconst 1, 1, 0, 0)], (.goto 4, 3, (0, 0, 0), [7])),
  (38, [(.iconst 0, 1, 0, 0)], (.nop, 0, (0, 0, 0), [7])),
  (39, [(.aload_n 0, 1, 0, 0), (.getfield 29, 3, 13, 10), (.iload_n 1, 1, 0, 0), (.iaload, 1, 0, 0), (.aload_n 0, 1, 0, 0), (.getfield 29, 3, 13, 10), (.iload_n 3, 1, 0, 0), (.iaload, 1, 0, 0)], (.if_icmp .ne 7, 3, (0, 0, 0), [9, 8])),
  (54, [(.iconst 1, 1, 0, 0)], (.goto 4, 3, (0, 0, 0), [10])),
  (58, [(.iconst 0, 1, 0, 0)], (.nop, 0, (0, 0, 0), [10])),
  (59, [(.iadd, 1, 0, 0), (.iload_n 2, 1, 0, 0), (.aload_n 0, 1, 0, 0), (.getfield 69, 3, 13, 6), (.irem, 1, 0, 0), (.iload 4, 2, 0, 0), (.aload_n 0, 1, 0, 0), (.getfield 69, 3, 13, 6), (.irem, 1, 0, 0)], (.if_icmp .ne 7, 3, (0, 0, 0), [12, 11])),
  (76, [(.iconst 1, 1, 0, 0)], (.goto 4, 3, (0, 0, 0), [13])),
  (80, [(.iconst 0, 1, 0, 0)], (.nop, 0, (0, 0, 0), [13])),
  (81, [(.iadd, 1, 0, 0)], (.ireturn, 1, (0, 0, 0), []))])
def am_X13_isOfTwo : ab_M := (2, [], [
  (0, [(.aload_n 0, 1, 0, 0), (.getfield 35, 3, 13, 13), (.iload_n 1, 1, 0, 0), (.iaload, 1, 0, 0), (.iconst 2, 1, 0, 0)], (.if_icmp .lt 17, 3, (0, 0, 0), [3, 1])),
  (10, [(.aload_n 0, 1, 0, 0), (.getfield 35, 3, 13, 13), (.iload_n 1, 1, 0, 0), (.iaload, 1, 0, 0), (.iconst 5, 1, 0, 0)], (.if_icmp .gt 7, 3, (0, 0, 0), [3, 2])),
  (20, [(.iconst 1, 1, 0, 0)], (.goto 4, 3, (0, 0, 0), [4])),
  (24, [(.iconst 0, 1, 0, 0)], (.nop, 0, (0, 0, 0), [4])),
  (25, [], (.ireturn, 1, (1, 0, 0), []))])
def am_X13_keepsOfTwo : ab_M := (6, [], [
  (0, [(.aload_n 0, 1, 0, 0), (.getfield 38, 3, 13, 14), (.iload_n 1, 1, 0, 0), (.iaload, 1, 0, 0), (.istore 4, 2, 0, 0), (.aload_n 0, 1, 0, 0), (.getfield 41, 3, 13, 15), (.iload_n 1, 1, 0, 0), (.iaload, 1, 0, 0), (.istore 5, 2, 0, 0), (.aload_n 0, 1, 0, 0), (.getfield 35, 3, 13, 13), (.iload_n 1, 1, 0, 0), (.iaload, 1, 0, 0)], (.tableswitch 88 2 4 #[26, 47, 66], 26, (0, 0, 0), [1, 5, 11, 16])),
  (48, [(.iload_n 2, 1, 0, 0), (.aload_n 0, 1, 0, 0), (.getfield 69, 3, 13, 6), (.idiv, 1, 0, 0), (.iload_n 3, 1, 0, 0), (.aload_n 0, 1, 0, 0), (.getfield 69, 3, 13, 6), (.idiv, 1, 0, 0)], (.if_icmp .ne 7, 3, (0, 0, 0), [3, 2])),
  (63, [(.iconst 1, 1, 0, 0)], (.goto 4, 3, (0, 0, 0), [4])),
  (67, [(.iconst 0, 1, 0, 0)], (.nop, 0, (0, 0, 0), [4])),
  (68, [], (.ireturn, 1, (1, 0, 0), [])),
  (69, [(.aload_n 0, 1, 0, 0), (.iload_n 2, 1, 0, 0)], (.invokevirtual 88, 3, (197, 2, 13), [6])),
  (74, [(.aload_n 0, 1, 0, 0), (.iload_n 3, 1, 0, 0)], (.invokevirtual 88, 3, (197, 2, 13), [7])),
  (79, [], (.if_icmp .eq 7, 3, (0, 0, 0), [9, 8])),
  (82, [(.iconst 1, 1, 0, 0)], (.goto 4, 3, (0, 0, 0), [10])),
  (86, [(.iconst 0, 1, 0, 0)], (.nop, 0, (0, 0, 0), [10])),
  (87, [], (.ireturn, 1, (1, 0, 0), [])),
  (88, [(.aload_n 0, 1, 0, 0), (.iload 4, 2, 0, 0), (.iload_n 2, 1, 0, 0)], (.invokevirtual 82, 3, (195, 3, 13), [12])),
  (95, [(.iload_n 3, 1, 0, 0), (.aload_n 0, 1, 0, 0), (.getfield 69, 3, 13, 6), (.idiv, 1, 0, 0)], (.if_icmp .ge 7, 3, (0, 0, 0), [14, 13])),
  (104, [(.iconst 1, 1, 0, 0)], (.goto 4, 3, (0, 0, 0), [15])),
  (108, [(.iconst 0, 1, 0, 0)], (.nop, 0, (0, 0, 0), [15])),
  (109, [], (.ireturn, 1, (1, 0, 0), [])),
  (110, [(.aload_n 0, 1, 0, 0), (.iload_n 2, 1, 0, 0)], (.invokevirtual 88, 3, (197, 2, 13), [17])),
  (115, [(.aload_n 0, 1, 0, 0), (.iload_n 3, 1, 0, 0)], (.invokevirtual 88, 3, (197, 2, 13), [18])),
  (120, [], (.if_icmp .ne 43, 3, (0, 0, 0), [24, 19])),
  (123, [(.iload_n 3, 1, 0, 0), (.aload_n 0, 1, 0, 0), (.getfield 69, 3, 13, 6), (.idiv, 1, 0, 0), (.aload_n 0, 1, 0, 0), (.iload 4, 2, 0, 0), (.iload_n 2, 1, 0, 0)], (.invokevirtual 82, 3, (195, 3, 13), [20])),
  (136, [(.iconst 1, 1, 0, 0), (.iadd, 1, 0, 0)], (.if_icmp .eq 21, 3, (0, 0, 0), [23, 21])),
  (141, [(.iload_n 2, 1, 0, 0), (.aload_n 0, 1, 0, 0), (.getfield 69, 3, 13, 6), (.idiv, 1, 0, 0), (.aload_n 0, 1, 0, 0), (.iload 5, 2, 0, 0), (.iload_n 3, 1, 0, 0)], (.invokevirtual 82, 3, (195, 3, 13), [22])),
  (154, [(.iconst 1, 1, 0, 0), (.iadd, 1, 0, 0)], (.if_icmp .ne 7, 3, (0, 0, 0), [24, 23])),
  (159, [(.iconst 1, 1, 0, 0)], (.goto 4, 3, (0, 0, 0), [25])),
  (163, [(.iconst 0, 1, 0, 0)], (.nop, 0, (0, 0, 0), [25])),
  (164, [], (.ireturn, 1, (1, 0, 0), []))])
def am_X13_keepsAlone : ab_M := (4, [], [
  (0, [(.aload_n 0, 1, 0, 0), (.getfield 35, 3, 13, 13), (.iload_n 1, 1, 0, 0), (.iaload, 1, 0, 0)], (.lookupswitch 138 #[(0, 34), (6, 68), (7, 99)], 34, (0, 0, 0), [1, 7, 12, 18])),
  (40, [(.aload_n 0, 1, 0, 0), (.getfield 38, 3, 13, 14), (.iload_n 1, 1, 0, 0), (.iaload, 1, 0, 0), (.iload_n 2, 1, 0, 0)], (.if_icmp .ne 21, 3, (0, 0, 0), [4, 2])),
  (50, [(.aload_n 0, 1, 0, 0), (.iload_n 2, 1, 0, 0), (.iload_n 3, 1, 0, 0)], (.invokevirtual 85, 3, (196, 3, 13), [3])),
  (56, [(.aload_n 0, 1, 0, 0), (.getfield 41, 3, 13, 15), (.iload_n 1, 1, 0, 0), (.iaload, 1, 0, 0), (.ishr, 1, 0, 0), (.iconst 1, 1, 0, 0), (.iand, 1, 0, 0)], (.ifCond .ne 7, 3, (0, 0, 0), [5, 4])),
  (68, [(.iconst 1, 1, 0, 0)], (.goto 4, 3, (0, 0, 0), [6])),
  (72, [(.iconst 0, 1, 0, 0)], (.nop, 0, (0, 0, 0), [6])),
  (73, [], (.ireturn, 1, (1, 0, 0), [])),
  (74, [(.aload_n 0, 1, 0, 0), (.getfield 38, 3, 13, 14), (.iload_n 1, 1, 0, 0), (.iaload, 1, 0, 0), (.iload_n 2, 1, 0, 0)], (.if_icmp .ne 18, 3, (0, 0, 0), [9, 8])),
  (84, [(.iload_n 3, 1, 0, 0), (.aload_n 0, 1, 0, 0), (.getfield 69, 3, 13, 6), (.irem, 1, 0, 0), (.aload_n 0, 1, 0, 0), (.getfield 41, 3, 13, 15), (.iload_n 1, 1, 0, 0), (.iaload, 1, 0, 0)], (.if_icmp .ne 7, 3, (0, 0, 0), [10, 9])),
  (99, [(.iconst 1, 1, 0, 0)], (.goto 4, 3, (0, 0, 0), [11])),
  (103, [(.iconst 0, 1, 0, 0)], (.nop, 0, (0, 0, 0), [11])),
  (104, [], (.ireturn, 1, (1, 0, 0), [])),
  (105, [(.aload_n 0, 1, 0, 0), (.getfield 38, 3, 13, 14), (.iload_n 1, 1, 0, 0), (.iaload, 1, 0, 0), (.aload_n 0, 1, 0, 0), (.getfield 29, 3, 13, 10), (.iload_n 2, 1, 0, 0), (.iaload, 1, 0, 0)], (.if_icmp .ne 21, 3, (0, 0, 0), [15, 13])),
  (120, [(.aload_n 0, 1, 0, 0), (.iload_n 2, 1, 0, 0), (.iload_n 3, 1, 0, 0)], (.invokevirtual 85, 3, (196, 3, 13), [14])),
  (126, [(.aload_n 0, 1, 0, 0), (.getfield 41, 3, 13, 15), (.iload_n 1, 1, 0, 0), (.iaload, 1, 0, 0), (.ishr, 1, 0, 0), (.iconst 1, 1, 0, 0), (.iand, 1, 0, 0)], (.ifCond .ne 7, 3, (0, 0, 0), [16, 15])),
  (138, [(.iconst 1, 1, 0, 0)], (.goto 4, 3, (0, 0, 0), [17])),
  (142, [(.iconst 0, 1, 0, 0)], (.nop, 0, (0, 0, 0), [17])),
  (143, [], (.ireturn, 1, (1, 0, 0), [])),
  (144, [(.iconst 1, 1, 0, 0)], (.ireturn, 1, (1, 0, 0), []))])
def am_X13_busy : ab_M := (6, [], [
  (0, [(.iconst 0, 1, 0, 0), (.istore 4, 2, 0, 0), (.iconst 0, 1, 0, 0), (.istore 5, 2, 0, 0)], (.nop, 0, (0, 0, 0), [1])),
  (6, [(.iload 5, 2, 0, 0), (.iload_n 3, 1, 0, 0)], (.if_icmp .ge 39, 3, (0, 0, 0), [7, 2])),
  (12, [(.iload 4, 2, 0, 0), (.aload_n 0, 1, 0, 0), (.getfield 29, 3, 13, 10), (.iload 5, 2, 0, 0), (.iaload, 1, 0, 0), (.iload_n 1, 1, 0, 0)], (.if_icmp .ne 16, 3, (0, 0, 0), [5, 3])),
  (25, [(.aload_n 0, 1, 0, 0), (.iload 5, 2, 0, 0), (.aload_n 2, 1, 0, 0), (.iload 5, 2, 0, 0), (.iaload, 1, 0, 0)], (.invokevirtual 85, 3, (196, 3, 13), [4])),
  (35, [], (.goto 4, 3, (0, 0, 0), [6])),
  (38, [(.iconst 0, 1, 0, 0)], (.nop, 0, (0, 0, 0), [6])),
  (39, [(.ior, 1, 0, 0), (.istore 4, 2, 0, 0), (.iinc 5 1, 3, 0, 0)], (.goto (-39), 3, (0, 0, 0), [1])),
  (48, [(.iload 4, 2, 0, 0)], (.ireturn, 1, (0, 0, 0), []))])
def am_X13_dayBits : ab_M := (2, [], [
  (0, [(.iconst 1, 1, 0, 0), (.aload_n 0, 1, 0, 0), (.getfield 13, 3, 13, 1), (.ishl, 1, 0, 0), (.iconst 1, 1, 0, 0), (.isub, 1, 0, 0), (.iload_n 1, 1, 0, 0), (.aload_n 0, 1, 0, 0), (.getfield 13, 3, 13, 1), (.imul, 1, 0, 0), (.ishl, 1, 0, 0)], (.ireturn, 1, (0, 0, 0), []))])
def am_X13_isWithin : ab_M := (5, [], [
  (0, [(.iconst 1, 1, 0, 0), (.istore_n 3, 1, 0, 0), (.iconst 0, 1, 0, 0), (.istore 4, 2, 0, 0)], (.nop, 0, (0, 0, 0), [1])),
  (5, [(.iload 4, 2, 0, 0), (.aload_n 0, 1, 0, 0), (.getfield 7, 3, 13, 0)], (.if_icmp .ge 34, 3, (0, 0, 0), [9, 2])),
  (14, [(.iload_n 3, 1, 0, 0)], (.ifCond .eq 22, 3, (0, 0, 0), [7, 3])),
  (18, [(.iload_n 1, 1, 0, 0), (.aload_n 0, 1, 0, 0), (.iload 4, 2, 0, 0)], (.invokevirtual 92, 3, (205, 2, 13), [4])),
  (25, [(.iand, 1, 0, 0)], (.invokestatic 95, 3, (277, 1, 200), [5])),
  (29, [(.iload_n 2, 1, 0, 0)], (.if_icmp .gt 7, 3, (0, 0, 0), [7, 6])),
  (33, [(.iconst 1, 1, 0, 0)], (.goto 4, 3, (0, 0, 0), [8])),
  (37, [(.iconst 0, 1, 0, 0)], (.nop, 0, (0, 0, 0), [8])),
  (38, [(.istore_n 3, 1, 0, 0), (.iinc 4 1, 3, 0, 0)], (.goto (-37), 3, (0, 0, 0), [1])),
  (45, [(.iload_n 3, 1, 0, 0)], (.ireturn, 1, (1, 0, 0), []))])
def am_X13_keeps : ab_M := (5, [], [
  (0, [(.aload_n 0, 1, 0, 0), (.iload_n 1, 1, 0, 0)], (.invokevirtual 100, 3, (201, 2, 13), [1])),
  (5, [], (.ifCond .eq 25, 3, (0, 0, 0), [4, 2])),
  (8, [(.aload_n 0, 1, 0, 0), (.iload_n 1, 1, 0, 0), (.aload_n 2, 1, 0, 0), (.aload_n 0, 1, 0, 0), (.getfield 38, 3, 13, 14), (.iload_n 1, 1, 0, 0), (.iaload, 1, 0, 0), (.iaload, 1, 0, 0), (.aload_n 2, 1, 0, 0), (.aload_n 0, 1, 0, 0), (.getfield 41, 3, 13, 15), (.iload_n 1, 1, 0, 0), (.iaload, 1, 0, 0), (.iaload, 1, 0, 0)], (.invokevirtual 104, 3, (202, 4, 13), [3])),
  (29, [], (.ireturn, 1, (1, 0, 0), [])),
  (30, [(.aload_n 0, 1, 0, 0), (.getfield 35, 3, 13, 13), (.iload_n 1, 1, 0, 0), (.iaload, 1, 0, 0), (.iconst 1, 1, 0, 0)], (.if_icmp .ne 29, 3, (0, 0, 0), [8, 5])),
  (40, [(.aload_n 0, 1, 0, 0), (.aload_n 0, 1, 0, 0), (.aload_n 0, 1, 0, 0), (.getfield 38, 3, 13, 14), (.iload_n 1, 1, 0, 0), (.iaload, 1, 0, 0), (.aload_n 2, 1, 0, 0), (.aload_n 0, 1, 0, 0), (.getfield 59, 3, 13, 8)], (.invokevirtual 107, 3, (204, 4, 13), [6])),
  (56, [(.aload_n 0, 1, 0, 0), (.getfield 41, 3, 13, 15), (.iload_n 1, 1, 0, 0), (.iaload, 1, 0, 0)], (.invokevirtual 111, 3, (206, 3, 13), [7])),
  (65, [], (.ireturn, 1, (1, 0, 0), [])),
  (66, [(.iconst 1, 1, 0, 0), (.istore_n 3, 1, 0, 0), (.iconst 0, 1, 0, 0), (.istore 4, 2, 0, 0)], (.nop, 0, (0, 0, 0), [9])),
  (71, [(.iload 4, 2, 0, 0), (.aload_n 0, 1, 0, 0), (.getfield 59, 3, 13, 8)], (.if_icmp .ge 33, 3, (0, 0, 0), [16, 10])),
  (80, [(.iload_n 3, 1, 0, 0)], (.ifCond .eq 21, 3, (0, 0, 0), [14, 11])),
  (84, [(.aload_n 0, 1, 0, 0), (.iload_n 1, 1, 0, 0), (.iload 4, 2, 0, 0), (.aload_n 2, 1, 0, 0), (.iload 4, 2, 0, 0), (.iaload, 1, 0, 0)], (.invokevirtual 115, 3, (203, 4, 13), [12])),
  (95, [], (.ifCond .eq 7, 3, (0, 0, 0), [14, 13])),
  (98, [(.iconst 1, 1, 0, 0)], (.goto 4, 3, (0, 0, 0), [15])),
  (102, [(.iconst 0, 1, 0, 0)], (.nop, 0, (0, 0, 0), [15])),
  (103, [(.istore_n 3, 1, 0, 0), (.iinc 4 1, 3, 0, 0)], (.goto (-36), 3, (0, 0, 0), [9])),
  (110, [(.iload_n 3, 1, 0, 0)], (.ireturn, 1, (1, 0, 0), []))])
def am_X13_brokenBy : ab_M := (4, [], [
  (0, [(.iconst 0, 1, 0, 0), (.istore_n 2, 1, 0, 0), (.iconst 0, 1, 0, 0), (.istore_n 3, 1, 0, 0)], (.nop, 0, (0, 0, 0), [1])),
  (4, [(.iload_n 3, 1, 0, 0), (.aload_n 0, 1, 0, 0), (.getfield 118, 3, 13, 12)], (.if_icmp .ge 28, 3, (0, 0, 0), [7, 2])),
  (12, [(.iload_n 2, 1, 0, 0), (.aload_n 0, 1, 0, 0), (.iload_n 3, 1, 0, 0), (.aload_n 1, 1, 0, 0)], (.invokevirtual 121, 3, (207, 3, 13), [3])),
  (19, [], (.ifCond .eq 7, 3, (0, 0, 0), [5, 4])),
  (22, [(.iconst 0, 1, 0, 0)], (.goto 6, 3, (0, 0, 0), [6])),
  (26, [(.iconst 1, 1, 0, 0), (.iload_n 3, 1, 0, 0), (.ishl, 1, 0, 0)], (.nop, 0, (0, 0, 0), [6])),
  (29, [(.ior, 1, 0, 0), (.istore_n 2, 1, 0, 0), (.iinc 3 1, 3, 0, 0)], (.goto (-30), 3, (0, 0, 0), [1])),
  (37, [(.iload_n 2, 1, 0, 0)], (.ireturn, 1, (0, 0, 0), []))])
def am_X13_faultsOf : ab_M := (5, [], [
  (0, [(.iconst 0, 1, 0, 0), (.istore_n 2, 1, 0, 0), (.iconst 0, 1, 0, 0), (.istore_n 3, 1, 0, 0)], (.nop, 0, (0, 0, 0), [1])),
  (4, [(.iload_n 3, 1, 0, 0), (.aload_n 0, 1, 0, 0), (.getfield 59, 3, 13, 8)], (.if_icmp .ge 77, 3, (0, 0, 0), [15, 2])),
  (12, [(.iload_n 2, 1, 0, 0), (.aload_n 0, 1, 0, 0), (.iload_n 3, 1, 0, 0), (.aload_n 1, 1, 0, 0), (.iload_n 3, 1, 0, 0), (.iaload, 1, 0, 0)], (.invokevirtual 125, 3, (198, 3, 13), [3])),
  (21, [], (.ifCond .eq 7, 3, (0, 0, 0), [5, 4])),
  (24, [(.iconst 0, 1, 0, 0)], (.goto 4, 3, (0, 0, 0), [6])),
  (28, [(.iconst 1, 1, 0, 0)], (.nop, 0, (0, 0, 0), [6])),
  (29, [(.aload_n 0, 1, 0, 0), (.iload_n 3, 1, 0, 0), (.aload_n 1, 1, 0, 0), (.iload_n 3, 1, 0, 0), (.iaload, 1, 0, 0)], (.invokevirtual 128, 3, (199, 3, 13), [7])),
  (37, [], (.ifCond .eq 7, 3, (0, 0, 0), [9, 8])),
  (40, [(.iconst 0, 1, 0, 0)], (.goto 4, 3, (0, 0, 0), [10])),
  (44, [(.iconst 1, 1, 0, 0)], (.nop, 0, (0, 0, 0), [10])),
  (45, [(.iadd, 1, 0, 0), (.iadd, 1, 0, 0), (.istore_n 2, 1, 0, 0), (.iconst 0, 1, 0, 0), (.istore 4, 2, 0, 0)], (.nop, 0, (0, 0, 0), [11])),
  (51, [(.iload 4, 2, 0, 0), (.iload_n 3, 1, 0, 0)], (.if_icmp .ge 26, 3, (0, 0, 0), [14, 12])),
  (57, [(.iload_n 2, 1, 0, 0), (.aload_n 0, 1, 0, 0), (.iload_n 3, 1, 0, 0), (.aload_n 1, 1, 0, 0), (.iload_n 3, 1, 0, 0), (.iaload, 1, 0, 0), (.iload 4, 2, 0, 0), (.aload_n 1, 1, 0, 0), (.iload 4, 2, 0, 0), (.iaload, 1, 0, 0)], (.invokevirtual 131, 3, (200, 5, 13), [13])),
  (72, [(.iadd, 1, 0, 0), (.istore_n 2, 1, 0, 0), (.iinc 4 1, 3, 0, 0)], (.goto (-26), 3, (0, 0, 0), [11])),
  (80, [(.iinc 3 1, 3, 0, 0)], (.goto (-79), 3, (0, 0, 0), [1])),
  (86, [(.iload_n 2, 1, 0, 0)], (.ireturn, 1, (0, 0, 0), []))])
def am_X13_isGood : ab_M := (2, [], [
  (0, [(.aload_n 0, 1, 0, 0), (.aload_n 1, 1, 0, 0)], (.invokevirtual 135, 3, (209, 2, 13), [1])),
  (5, [], (.ifCond .ne 15, 3, (0, 0, 0), [5, 2])),
  (8, [(.aload_n 0, 1, 0, 0), (.aload_n 1, 1, 0, 0)], (.invokevirtual 139, 3, (208, 2, 13), [3])),
  (13, [], (.ifCond .ne 7, 3, (0, 0, 0), [5, 4])),
  (16, [(.iconst 1, 1, 0, 0)], (.goto 4, 3, (0, 0, 0), [6])),
  (20, [(.iconst 0, 1, 0, 0)], (.nop, 0, (0, 0, 0), [6])),
  (21, [], (.ireturn, 1, (1, 0, 0), []))])
def am_X13_weightAlone : ab_M := (4, [], [
  (0, [(.aload_n 0, 1, 0, 0), (.getfield 20, 3, 13, 4), (.aload_n 0, 1, 0, 0), (.getfield 26, 3, 13, 9), (.iload_n 1, 1, 0, 0), (.iaload, 1, 0, 0), (.iaload, 1, 0, 0), (.istore_n 3, 1, 0, 0), (.aload_n 0, 1, 0, 0), (.getfield 44, 3, 13, 16), (.aload_n 0, 1, 0, 0), (.iload_n 1, 1, 0, 0), (.iload_n 2, 1, 0, 0)], (.invokevirtual 82, 3, (195, 3, 13), [1])),
  (22, [(.aload_n 0, 1, 0, 0), (.getfield 13, 3, 13, 1), (.irem, 1, 0, 0), (.imul, 1, 0, 0), (.aload_n 0, 1, 0, 0), (.getfield 47, 3, 13, 17), (.iload_n 3, 1, 0, 0), (.iconst (-1), 1, 0, 0)], (.if_icmp .eq 17, 3, (0, 0, 0), [4, 2])),
  (37, [(.iload_n 3, 1, 0, 0), (.iload_n 2, 1, 0, 0), (.aload_n 0, 1, 0, 0), (.getfield 69, 3, 13, 6), (.irem, 1, 0, 0)], (.if_icmp .eq 7, 3, (0, 0, 0), [4, 3])),
  (47, [(.iconst 1, 1, 0, 0)], (.goto 4, 3, (0, 0, 0), [5])),
  (51, [(.iconst 0, 1, 0, 0)], (.nop, 0, (0, 0, 0), [5])),
  (52, [(.imul, 1, 0, 0), (.iadd, 1, 0, 0)], (.ireturn, 1, (0, 0, 0), []))])
def am_X13_weightOf : ab_M := (7, [], [
  (0, [(.iconst 0, 1, 0, 0), (.istore_n 2, 1, 0, 0), (.iconst 0, 1, 0, 0), (.istore_n 3, 1, 0, 0)], (.nop, 0, (0, 0, 0), [1])),
  (4, [(.iload_n 3, 1, 0, 0), (.aload_n 0, 1, 0, 0), (.getfield 59, 3, 13, 8)], (.if_icmp .ge 20, 3, (0, 0, 0), [4, 2])),
  (12, [(.iload_n 2, 1, 0, 0), (.aload_n 0, 1, 0, 0), (.iload_n 3, 1, 0, 0), (.aload_n 1, 1, 0, 0), (.iload_n 3, 1, 0, 0), (.iaload, 1, 0, 0)], (.invokevirtual 142, 3, (211, 3, 13), [3])),
  (21, [(.iadd, 1, 0, 0), (.istore_n 2, 1, 0, 0), (.iinc 3 1, 3, 0, 0)], (.goto (-22), 3, (0, 0, 0), [1])),
  (29, [(.iconst 0, 1, 0, 0), (.istore_n 3, 1, 0, 0)], (.nop, 0, (0, 0, 0), [5])),
  (31, [(.iload_n 3, 1, 0, 0), (.aload_n 0, 1, 0, 0), (.getfield 66, 3, 13, 5)], (.if_icmp .ge 75, 3, (0, 0, 0), [15, 6])),
  (39, [(.aload_n 0, 1, 0, 0), (.iload_n 3, 1, 0, 0), (.aload_n 1, 1, 0, 0), (.aload_n 0, 1, 0, 0), (.getfield 59, 3, 13, 8)], (.invokevirtual 107, 3, (204, 4, 13), [7])),
  (49, [(.istore 4, 2, 0, 0), (.iconst 0, 1, 0, 0), (.istore 5, 2, 0, 0)], (.nop, 0, (0, 0, 0), [8])),
  (54, [(.iload 5, 2, 0, 0), (.aload_n 0, 1, 0, 0), (.getfield 7, 3, 13, 0)], (.if_icmp .ge 45, 3, (0, 0, 0), [14, 9])),
  (63, [(.iload 4, 2, 0, 0), (.aload_n 0, 1, 0, 0), (.iload 5, 2, 0, 0)], (.invokevirtual 92, 3, (205, 2, 13), [10])),
  (71, [(.iand, 1, 0, 0), (.iload 5, 2, 0, 0), (.aload_n 0, 1, 0, 0), (.getfield 13, 3, 13, 1), (.imul, 1, 0, 0), (.ishr, 1, 0, 0), (.istore 6, 2, 0, 0), (.iload_n 2, 1, 0, 0), (.iload 6, 2, 0, 0), (.iconst 5, 1, 0, 0)], (.if_icmp .ne 10, 3, (0, 0, 0), [12, 11])),
  (89, [(.aload_n 0, 1, 0, 0), (.getfield 50, 3, 13, 18)], (.goto 4, 3, (0, 0, 0), [13])),
  (96, [(.iconst 0, 1, 0, 0)], (.nop, 0, (0, 0, 0), [13])),
  (97, [(.iadd, 1, 0, 0), (.istore_n 2, 1, 0, 0), (.iinc 5 1, 3, 0, 0)], (.goto (-48), 3, (0, 0, 0), [8])),
  (105, [(.iinc 3 1, 3, 0, 0)], (.goto (-77), 3, (0, 0, 0), [5])),
  (111, [(.iload_n 2, 1, 0, 0)], (.ireturn, 1, (0, 0, 0), []))])
def am_X13_lightest : ab_M := (5, [], [
  (0, [(.ldc 145, 2, 2147483647, 0), (.istore_n 3, 1, 0, 0), (.iconst 0, 1, 0, 0), (.istore 4, 2, 0, 0)], (.nop, 0, (0, 0, 0), [1])),
  (6, [(.iload 4, 2, 0, 0), (.aload_n 0, 1, 0, 0)], (.invokevirtual 72, 3, (189, 1, 13), [2])),
  (12, [(.aload_n 0, 1, 0, 0), (.getfield 69, 3, 13, 6), (.imul, 1, 0, 0)], (.if_icmp .ge 35, 3, (0, 0, 0), [8, 3])),
  (20, [(.iload_n 2, 1, 0, 0), (.iload 4, 2, 0, 0), (.ishr, 1, 0, 0), (.iconst 1, 1, 0, 0), (.iand, 1, 0, 0), (.iconst 1, 1, 0, 0)], (.if_icmp .ne 17, 3, (0, 0, 0), [6, 4])),
  (30, [(.iload_n 3, 1, 0, 0), (.aload_n 0, 1, 0, 0), (.iload_n 1, 1, 0, 0), (.iload 4, 2, 0, 0)], (.invokevirtual 142, 3, (211, 3, 13), [5])),
  (38, [(.invokestatic 76, 3, 2, 0)], (.goto 4, 3, (0, 0, 0), [7])),
  (44, [(.iload_n 3, 1, 0, 0)], (.nop, 0, (0, 0, 0), [7])),
  (45, [(.istore_n 3, 1, 0, 0), (.iinc 4 1, 3, 0, 0)], (.goto (-43), 3, (0, 0, 0), [1])),
  (52, [(.iload_n 3, 1, 0, 0)], (.ireturn, 1, (0, 0, 0), []))])
def am_X13_shareOf : ab_M := (8, [], [
  (0, [(.iconst 0, 1, 0, 0), (.istore 4, 2, 0, 0), (.iconst 0, 1, 0, 0), (.istore 5, 2, 0, 0)], (.nop, 0, (0, 0, 0), [1])),
  (6, [(.iload 5, 2, 0, 0), (.iload_n 3, 1, 0, 0)], (.if_icmp .ge 99, 3, (0, 0, 0), [15, 2])),
  (12, [(.iconst 0, 1, 0, 0), (.istore 6, 2, 0, 0), (.iconst 0, 1, 0, 0), (.istore 7, 2, 0, 0)], (.nop, 0, (0, 0, 0), [3])),
  (18, [(.iload 7, 2, 0, 0), (.aload_n 0, 1, 0, 0), (.getfield 7, 3, 13, 0)], (.if_icmp .ge 52, 3, (0, 0, 0), [10, 4])),
  (27, [(.iload 6, 2, 0, 0)], (.ifCond .ne 34, 3, (0, 0, 0), [7, 5])),
  (32, [(.aload_n 0, 1, 0, 0), (.iload 5, 2, 0, 0), (.aload_n 2, 1, 0, 0), (.iload 5, 2, 0, 0), (.iaload, 1, 0, 0)], (.invokevirtual 85, 3, (196, 3, 13), [6])),
  (42, [(.iload 7, 2, 0, 0), (.aload_n 0, 1, 0, 0), (.getfield 13, 3, 13, 1), (.imul, 1, 0, 0), (.aload_n 0, 1, 0, 0), (.getfield 13, 3, 13, 1), (.iadd, 1, 0, 0), (.iconst 1, 1, 0, 0), (.isub, 1, 0, 0), (.ishr, 1, 0, 0), (.iconst 1, 1, 0, 0), (.iand, 1, 0, 0), (.iconst 1, 1, 0, 0)], (.if_icmp .ne 7, 3, (0, 0, 0), [8, 7])),
  (63, [(.iconst 1, 1, 0, 0)], (.goto 4, 3, (0, 0, 0), [9])),
  (67, [(.iconst 0, 1, 0, 0)], (.nop, 0, (0, 0, 0), [9])),
  (68, [(.istore 6, 2, 0, 0), (.iinc 7 1, 3, 0, 0)], (.goto (-55), 3, (0, 0, 0), [3])),
  (76, [(.iload 4, 2, 0, 0), (.iload 6, 2, 0, 0)], (.ifCond .eq 18, 3, (0, 0, 0), [13, 11])),
  (83, [(.aload_n 0, 1, 0, 0), (.getfield 29, 3, 13, 10), (.iload 5, 2, 0, 0), (.iaload, 1, 0, 0), (.iload_n 1, 1, 0, 0)], (.if_icmp .ne 7, 3, (0, 0, 0), [13, 12])),
  (94, [(.iconst 1, 1, 0, 0)], (.goto 4, 3, (0, 0, 0), [14])),
  (98, [(.iconst 0, 1, 0, 0)], (.nop, 0, (0, 0, 0), [14])),
  (99, [(.iadd, 1, 0, 0), (.istore 4, 2, 0, 0), (.iinc 5 1, 3, 0, 0)], (.goto (-99), 3, (0, 0, 0), [1])),
  (108, [(.iload 4, 2, 0, 0)], (.ireturn, 1, (0, 0, 0), []))])
def am_X13_fillShares : ab_M := (7, [], [
  (0, [(.iconst 0, 1, 0, 0), (.istore 4, 2, 0, 0)], (.nop, 0, (0, 0, 0), [1])),
  (3, [(.iload 4, 2, 0, 0), (.aload_n 0, 1, 0, 0), (.getfield 66, 3, 13, 5)], (.if_icmp .ge 61, 3, (0, 0, 0), [8, 2])),
  (12, [(.aload_n 0, 1, 0, 0), (.iload 4, 2, 0, 0), (.aload_n 2, 1, 0, 0), (.iload_n 3, 1, 0, 0)], (.invokevirtual 146, 3, (214, 4, 13), [3])),
  (20, [(.istore 5, 2, 0, 0), (.iload 4, 2, 0, 0), (.istore 6, 2, 0, 0)], (.nop, 0, (0, 0, 0), [4])),
  (26, [(.iload 6, 2, 0, 0)], (.ifCond .le 30, 3, (0, 0, 0), [7, 5])),
  (31, [(.aload_n 1, 1, 0, 0), (.iload 6, 2, 0, 0), (.iconst 1, 1, 0, 0), (.isub, 1, 0, 0), (.iaload, 1, 0, 0), (.iload 5, 2, 0, 0)], (.if_icmp .ge 19, 3, (0, 0, 0), [7, 6])),
  (42, [(.aload_n 1, 1, 0, 0), (.iload 6, 2, 0, 0), (.aload_n 1, 1, 0, 0), (.iload 6, 2, 0, 0), (.iconst 1, 1, 0, 0), (.isub, 1, 0, 0), (.iaload, 1, 0, 0), (.iastore, 1, 0, 0), (.iinc 6 (-1), 3, 0, 0)], (.goto (-29), 3, (0, 0, 0), [4])),
  (58, [(.aload_n 1, 1, 0, 0), (.iload 6, 2, 0, 0), (.iload 5, 2, 0, 0), (.iastore, 1, 0, 0), (.iinc 4 1, 3, 0, 0)], (.goto (-64), 3, (0, 0, 0), [1])),
  (70, [], (.return_, 1, (0, 0, 0), []))])
def am_X13_isFairer : ab_M := (3, [], [
  (0, [(.iconst 0, 1, 0, 0), (.istore_n 2, 1, 0, 0)], (.nop, 0, (0, 0, 0), [1])),
  (2, [(.iload_n 2, 1, 0, 0), (.aload_n 0, 1, 0, 0), (.arraylength, 1, 0, 0)], (.if_icmp .ge 33, 3, (0, 0, 0), [8, 2])),
  (8, [(.aload_n 0, 1, 0, 0), (.iload_n 2, 1, 0, 0), (.iaload, 1, 0, 0), (.aload_n 1, 1, 0, 0), (.iload_n 2, 1, 0, 0), (.iaload, 1, 0, 0)], (.if_icmp .eq 18, 3, (0, 0, 0), [7, 3])),
  (17, [(.aload_n 0, 1, 0, 0), (.iload_n 2, 1, 0, 0), (.iaload, 1, 0, 0), (.aload_n 1, 1, 0, 0), (.iload_n 2, 1, 0, 0), (.iaload, 1, 0, 0)], (.if_icmp .ge 7, 3, (0, 0, 0), [5, 4])),
  (26, [(.iconst 1, 1, 0, 0)], (.goto 4, 3, (0, 0, 0), [6])),
  (30, [(.iconst 0, 1, 0, 0)], (.nop, 0, (0, 0, 0), [6])),
  (31, [], (.ireturn, 1, (1, 0, 0), [])),
  (32, [(.iinc 2 1, 3, 0, 0)], (.goto (-33), 3, (0, 0, 0), [1])),
  (38, [(.iconst 0, 1, 0, 0)], (.ireturn, 1, (1, 0, 0), []))])
def am_X13_allRules : ab_M := (1, [], [
  (0, [(.iconst 1, 1, 0, 0), (.aload_n 0, 1, 0, 0), (.getfield 118, 3, 13, 12), (.ishl, 1, 0, 0), (.iconst 1, 1, 0, 0), (.isub, 1, 0, 0)], (.ireturn, 1, (0, 0, 0), []))])
def am_X13_ways : ab_M := (2, [], [
  (0, [(.new 149, 3, 12, 0), (.dup, 1, 0, 0), (.aload_n 0, 1, 0, 0)], (.invokespecial 151, 3, (172, 2, 100), [1])),
  (8, [(.astore_n 1, 1, 0, 0), (.aload_n 1, 1, 0, 0), (.aload_n 0, 1, 0, 0)], (.invokevirtual 154, 3, (217, 1, 13), [2])),
  (14, [(.iconst (-1), 1, 0, 0), (.iconst 0, 1, 0, 0)], (.invokevirtual 157, 3, (174, 4, 12), [3])),
  (19, [(.aload_n 1, 1, 0, 0)], (.areturn, 1, (0, 0, 0), []))])
def am_X13_narrowed : ab_M := (5, [], [
  (0, [(.aload_n 0, 1, 0, 0)], (.invokevirtual 161, 3, (218, 1, 13), [1])),
  (4, [(.astore_n 1, 1, 0, 0), (.bipush 6, 2, 0, 0), (.newarray .int, 2, 0, 0), (.astore_n 2, 1, 0, 0), (.aload_n 1, 1, 0, 0), (.getfield 165, 3, 12, 7), (.iconst 0, 1, 0, 0), (.aload_n 2, 1, 0, 0), (.iconst 0, 1, 0, 0), (.bipush 6, 2, 0, 0), (.invokestatic 168, 3, 0, 0), (.iconst 1, 1, 0, 0), (.istore_n 3, 1, 0, 0)], (.nop, 0, (0, 0, 0), [2])),
  (24, [(.iload_n 3, 1, 0, 0)], (.ifCond .eq 71, 3, (0, 0, 0), [13, 3])),
  (28, [(.aload_n 0, 1, 0, 0), (.aload_n 1, 1, 0, 0), (.aload_n 2, 1, 0, 0)], (.invokevirtual 174, 3, (220, 3, 13), [4])),
  (34, [(.istore_n 3, 1, 0, 0), (.iconst 0, 1, 0, 0), (.istore 4, 2, 0, 0)], (.nop, 0, (0, 0, 0), [5])),
  (38, [(.iload 4, 2, 0, 0), (.aload_n 0, 1, 0, 0), (.getfield 178, 3, 13, 2)], (.if_icmp .ge 20, 3, (0, 0, 0), [8, 6])),
  (47, [(.iload_n 3, 1, 0, 0), (.aload_n 0, 1, 0, 0), (.aload_n 2, 1, 0, 0), (.iload 4, 2, 0, 0), (.iconst 1, 1, 0, 0)], (.invokevirtual 181, 3, (222, 4, 13), [7])),
  (56, [(.ior, 1, 0, 0), (.istore_n 3, 1, 0, 0), (.iinc 4 1, 3, 0, 0)], (.goto (-23), 3, (0, 0, 0), [5])),
  (64, [(.iconst 0, 1, 0, 0), (.istore 4, 2, 0, 0)], (.nop, 0, (0, 0, 0), [9])),
  (67, [(.iload 4, 2, 0, 0), (.aload_n 0, 1, 0, 0), (.getfield 66, 3, 13, 5)], (.if_icmp .ge 20, 3, (0, 0, 0), [12, 10])),
  (76, [(.iload_n 3, 1, 0, 0), (.aload_n 0, 1, 0, 0), (.aload_n 2, 1, 0, 0), (.iload 4, 2, 0, 0), (.iconst 0, 1, 0, 0)], (.invokevirtual 181, 3, (222, 4, 13), [11])),
  (85, [(.ior, 1, 0, 0), (.istore_n 3, 1, 0, 0), (.iinc 4 1, 3, 0, 0)], (.goto (-23), 3, (0, 0, 0), [9])),
  (93, [], (.goto (-69), 3, (0, 0, 0), [2])),
  (96, [(.aload_n 2, 1, 0, 0)], (.areturn, 1, (0, 0, 0), []))])
def am_X13_takesByPairs : ab_M := (8, [], [
  (0, [(.iconst 0, 1, 0, 0), (.istore_n 3, 1, 0, 0), (.iconst 0, 1, 0, 0), (.istore 4, 2, 0, 0)], (.nop, 0, (0, 0, 0), [1])),
  (5, [(.iload 4, 2, 0, 0), (.aload_n 0, 1, 0, 0), (.getfield 59, 3, 13, 8)], (.if_icmp .ge 123, 3, (0, 0, 0), [18, 2])),
  (14, [(.iconst 0, 1, 0, 0), (.istore 5, 2, 0, 0)], (.nop, 0, (0, 0, 0), [3])),
  (17, [(.iload 5, 2, 0, 0), (.aload_n 1, 1, 0, 0), (.getfield 185, 3, 12, 0)], (.if_icmp .ge 105, 3, (0, 0, 0), [17, 4])),
  (26, [(.iconst 1, 1, 0, 0), (.istore 6, 2, 0, 0), (.iconst 0, 1, 0, 0), (.istore 7, 2, 0, 0)], (.nop, 0, (0, 0, 0), [5])),
  (32, [(.iload 7, 2, 0, 0), (.aload_n 0, 1, 0, 0), (.getfield 59, 3, 13, 8)], (.if_icmp .ge 51, 3, (0, 0, 0), [13, 6])),
  (41, [(.iload 6, 2, 0, 0)], (.ifCond .eq 37, 3, (0, 0, 0), [11, 7])),
  (46, [(.iload 4, 2, 0, 0), (.iload 7, 2, 0, 0)], (.if_icmp .eq 26, 3, (0, 0, 0), [10, 8])),
  (53, [(.aload_n 1, 1, 0, 0), (.getfield 188, 3, 12, 5), (.aload_n 1, 1, 0, 0), (.iload 4, 2, 0, 0), (.iload 5, 2, 0, 0), (.iload 7, 2, 0, 0)], (.invokevirtual 191, 3, (173, 4, 62), [9])),
  (67, [(.iaload, 1, 0, 0), (.aload_n 2, 1, 0, 0), (.iload 7, 2, 0, 0), (.iaload, 1, 0, 0), (.iand, 1, 0, 0)], (.ifCond .eq 7, 3, (0, 0, 0), [11, 10])),
  (76, [(.iconst 1, 1, 0, 0)], (.goto 4, 3, (0, 0, 0), [12])),
  (80, [(.iconst 0, 1, 0, 0)], (.nop, 0, (0, 0, 0), [12])),
  (81, [(.istore 6, 2, 0, 0), (.iinc 7 1, 3, 0, 0)], (.goto (-54), 3, (0, 0, 0), [5])),
  (89, [(.iload 6, 2, 0, 0)], (.ifCond .ne 31, 3, (0, 0, 0), [16, 14])),
  (94, [(.aload_n 2, 1, 0, 0), (.iload 4, 2, 0, 0), (.iaload, 1, 0, 0), (.iload 5, 2, 0, 0), (.ishr, 1, 0, 0), (.iconst 1, 1, 0, 0), (.iand, 1, 0, 0), (.iconst 1, 1, 0, 0)], (.if_icmp .ne 18, 3, (0, 0, 0), [16, 15])),
  (107, [(.aload_n 2, 1, 0, 0), (.iload 4, 2, 0, 0), (.dup2, 1, 0, 0), (.iaload, 1, 0, 0), (.iconst 1, 1, 0, 0), (.iload 5, 2, 0, 0), (.ishl, 1, 0, 0), (.iconst (-1), 1, 0, 0), (.ixor, 1, 0, 0), (.iand, 1, 0, 0), (.iastore, 1, 0, 0), (.iconst 1, 1, 0, 0), (.istore_n 3, 1, 0, 0)], (.nop, 0, (0, 0, 0), [16])),
  (122, [(.iinc 5 1, 3, 0, 0)], (.goto (-108), 3, (0, 0, 0), [3])),
  (128, [(.iinc 4 1, 3, 0, 0)], (.goto (-126), 3, (0, 0, 0), [1])),
  (134, [(.iload_n 3, 1, 0, 0)], (.ireturn, 1, (1, 0, 0), []))])
def am_X13_covered : ab_M := (5, [], [
  (0, [(.iconst 0, 1, 0, 0), (.istore_n 3, 1, 0, 0), (.iconst 0, 1, 0, 0), (.istore 4, 2, 0, 0)], (.nop, 0, (0, 0, 0), [1])),
  (5, [(.iload 4, 2, 0, 0), (.aload_n 0, 1, 0, 0)], (.invokevirtual 72, 3, (189, 1, 13), [2])),
  (11, [(.aload_n 0, 1, 0, 0), (.getfield 69, 3, 13, 6), (.imul, 1, 0, 0)], (.if_icmp .ge 33, 3, (0, 0, 0), [8, 3])),
  (19, [(.iload_n 3, 1, 0, 0), (.iload_n 2, 1, 0, 0), (.iload 4, 2, 0, 0), (.ishr, 1, 0, 0), (.iconst 1, 1, 0, 0), (.iand, 1, 0, 0), (.iconst 1, 1, 0, 0)], (.if_icmp .ne 13, 3, (0, 0, 0), [6, 4])),
  (30, [(.aload_n 0, 1, 0, 0), (.iload_n 1, 1, 0, 0), (.iload 4, 2, 0, 0)], (.invokevirtual 85, 3, (196, 3, 13), [5])),
  (37, [], (.goto 4, 3, (0, 0, 0), [7])),
  (40, [(.iconst 0, 1, 0, 0)], (.nop, 0, (0, 0, 0), [7])),
  (41, [(.ior, 1, 0, 0), (.istore_n 3, 1, 0, 0), (.iinc 4 1, 3, 0, 0)], (.goto (-41), 3, (0, 0, 0), [1])),
  (49, [(.iload_n 3, 1, 0, 0)], (.ireturn, 1, (0, 0, 0), []))])
def am_X13_takesBySets : ab_M := (13, [], [
  (0, [(.iconst 0, 1, 0, 0), (.istore 4, 2, 0, 0), (.iconst 0, 1, 0, 0), (.istore 5, 2, 0, 0)], (.nop, 0, (0, 0, 0), [1])),
  (6, [(.iload 5, 2, 0, 0), (.aload_n 0, 1, 0, 0), (.getfield 59, 3, 13, 8)], (.if_icmp .ge 47, 3, (0, 0, 0), [9, 2])),
  (15, [(.iload 4, 2, 0, 0), (.iload_n 3, 1, 0, 0)], (.ifCond .eq 13, 3, (0, 0, 0), [4, 3])),
  (21, [(.aload_n 0, 1, 0, 0), (.getfield 26, 3, 13, 9), (.iload 5, 2, 0, 0), (.iaload, 1, 0, 0)], (.goto 10, 3, (0, 0, 0), [5])),
  (31, [(.aload_n 0, 1, 0, 0), (.getfield 29, 3, 13, 10), (.iload 5, 2, 0, 0), (.iaload, 1, 0, 0)], (.nop, 0, (0, 0, 0), [5])),
  (38, [(.iload_n 2, 1, 0, 0)], (.if_icmp .ne 10, 3, (0, 0, 0), [7, 6])),
  (42, [(.iconst 1, 1, 0, 0), (.iload 5, 2, 0, 0), (.ishl, 1, 0, 0)], (.goto 4, 3, (0, 0, 0), [8])),
  (49, [(.iconst 0, 1, 0, 0)], (.nop, 0, (0, 0, 0), [8])),
  (50, [(.ior, 1, 0, 0), (.istore 4, 2, 0, 0), (.iinc 5 1, 3, 0, 0)], (.goto (-50), 3, (0, 0, 0), [1])),
  (59, [(.iconst 0, 1, 0, 0), (.istore 5, 2, 0, 0), (.iconst 1, 1, 0, 0), (.istore 6, 2, 0, 0)], (.nop, 0, (0, 0, 0), [10])),
  (65, [(.iload 6, 2, 0, 0), (.iconst 1, 1, 0, 0), (.aload_n 0, 1, 0, 0), (.getfield 59, 3, 13, 8), (.ishl, 1, 0, 0)], (.if_icmp .ge 239, 3, (0, 0, 0), [42, 11])),
  (76, [(.iload 6, 2, 0, 0), (.iload 4, 2, 0, 0), (.iconst (-1), 1, 0, 0), (.ixor, 1, 0, 0), (.iand, 1, 0, 0)], (.ifCond .eq 6, 3, (0, 0, 0), [13, 12])),
  (86, [], (.goto 220, 3, (0, 0, 0), [41])),
  (89, [(.iconst 0, 1, 0, 0), (.istore 7, 2, 0, 0), (.iconst 0, 1, 0, 0), (.istore 8, 2, 0, 0), (.iconst 0, 1, 0, 0), (.istore 9, 2, 0, 0)], (.nop, 0, (0, 0, 0), [14])),
  (98, [(.iload 9, 2, 0, 0), (.aload_n 0, 1, 0, 0), (.getfield 59, 3, 13, 8)], (.if_icmp .ge 59, 3, (0, 0, 0), [20, 15])),
  (107, [(.iload 7, 2, 0, 0), (.iload 6, 2, 0, 0), (.iload 9, 2, 0, 0), (.ishr, 1, 0, 0), (.iconst 1, 1, 0, 0), (.iand, 1, 0, 0), (.iconst 1, 1, 0, 0)], (.if_icmp .ne 16, 3, (0, 0, 0), [18, 16])),
  (120, [(.aload_n 0, 1, 0, 0), (.iload 9, 2, 0, 0), (.aload_n 1, 1, 0, 0), (.iload 9, 2, 0, 0), (.iaload, 1, 0, 0)], (.invokevirtual 195, 3, (221, 3, 13), [17])),
  (130, [], (.goto 4, 3, (0, 0, 0), [19])),
  (133, [(.iconst 0, 1, 0, 0)], (.nop, 0, (0, 0, 0), [19])),
  (134, [(.ior, 1, 0, 0), (.istore 7, 2, 0, 0), (.iload 8, 2, 0, 0), (.iload 6, 2, 0, 0), (.iload 9, 2, 0, 0), (.ishr, 1, 0, 0), (.iconst 1, 1, 0, 0), (.iand, 1, 0, 0), (.aload_n 0, 1, 0, 0), (.getfield 32, 3, 13, 11), (.iload 9, 2, 0, 0), (.iaload, 1, 0, 0), (.imul, 1, 0, 0), (.iadd, 1, 0, 0), (.istore 8, 2, 0, 0), (.iinc 9 1, 3, 0, 0)], (.goto (-62), 3, (0, 0, 0), [14])),
  (163, [(.iload 7, 2, 0, 0)], (.invokestatic 95, 3, (277, 1, 200), [21])),
  (168, [(.istore 9, 2, 0, 0), (.iconst 0, 1, 0, 0), (.istore 10, 2, 0, 0)], (.nop, 0, (0, 0, 0), [22])),
  (173, [(.iload 10, 2, 0, 0), (.aload_n 0, 1, 0, 0), (.getfield 59, 3, 13, 8)], (.if_icmp .ge 127, 3, (0, 0, 0), [41, 23])),
  (182, [(.iload 9, 2, 0, 0), (.iload 8, 2, 0, 0)], (.if_icmp .gt 120, 3, (0, 0, 0), [41, 24])),
  (189, [(.iload 9, 2, 0, 0), (.iload 8, 2, 0, 0)], (.if_icmp .ne 21, 3, (0, 0, 0), [27, 25])),
  (196, [(.iload 4, 2, 0, 0), (.iload 6, 2, 0, 0), (.iconst (-1), 1, 0, 0), (.ixor, 1, 0, 0), (.iand, 1, 0, 0), (.iload 10, 2, 0, 0), (.ishr, 1, 0, 0), (.iconst 1, 1, 0, 0), (.iand, 1, 0, 0)], (.ifCond .ne 6, 3, (0, 0, 0), [27, 26])),
  (211, [], (.goto 89, 3, (0, 0, 0), [40])),
  (214, [(.aload_n 1, 1, 0, 0), (.iload 10, 2, 0, 0), (.iaload, 1, 0, 0), (.istore 11, 2, 0, 0), (.iconst 0, 1, 0, 0), (.istore 12, 2, 0, 0)], (.nop, 0, (0, 0, 0), [28])),
  (223, [(.iload 12, 2, 0, 0), (.aload_n 0, 1, 0, 0)], (.invokevirtual 72, 3, (189, 1, 13), [29])),
  (229, [(.aload_n 0, 1, 0, 0), (.getfield 69, 3, 13, 6), (.imul, 1, 0, 0)], (.if_icmp .ge 47, 3, (0, 0, 0), [36, 30])),
  (237, [(.aload_n 1, 1, 0, 0), (.iload 10, 2, 0, 0), (.dup2, 1, 0, 0), (.iaload, 1, 0, 0), (.iload 9, 2, 0, 0), (.iload 8, 2, 0, 0)], (.if_icmp .lt 17, 3, (0, 0, 0), [33, 31])),
  (249, [(.aload_n 0, 1, 0, 0), (.iload 10, 2, 0, 0), (.iload 12, 2, 0, 0)], (.invokevirtual 85, 3, (196, 3, 13), [32])),
  (257, [(.iload 7, 2, 0, 0), (.iand, 1, 0, 0)], (.ifCond .eq 12, 3, (0, 0, 0), [34, 33])),
  (263, [(.iconst 1, 1, 0, 0), (.iload 12, 2, 0, 0), (.ishl, 1, 0, 0), (.iconst (-1), 1, 0, 0), (.ixor, 1, 0, 0)], (.goto 4, 3, (0, 0, 0), [35])),
  (272, [(.iconst (-1), 1, 0, 0)], (.nop, 0, (0, 0, 0), [35])),
  (273, [(.iand, 1, 0, 0), (.iastore, 1, 0, 0), (.iinc 12 1, 3, 0, 0)], (.goto (-55), 3, (0, 0, 0), [28])),
  (281, [(.iload 5, 2, 0, 0), (.aload_n 1, 1, 0, 0), (.iload 10, 2, 0, 0), (.iaload, 1, 0, 0), (.iload 11, 2, 0, 0)], (.if_icmp .eq 7, 3, (0, 0, 0), [38, 37])),
  (292, [(.iconst 1, 1, 0, 0)], (.goto 4, 3, (0, 0, 0), [39])),
  (296, [(.iconst 0, 1, 0, 0)], (.nop, 0, (0, 0, 0), [39])),
  (297, [(.ior, 1, 0, 0), (.istore 5, 2, 0, 0)], (.nop, 0, (0, 0, 0), [40])),
  (300, [(.iinc 10 1, 3, 0, 0)], (.goto (-130), 3, (0, 0, 0), [22])),
  (306, [(.iinc 6 1, 3, 0, 0)], (.goto (-244), 3, (0, 0, 0), [10])),
  (312, [(.iload 5, 2, 0, 0)], (.ireturn, 1, (1, 0, 0), []))])
def am_X13_setGrid : ab_M := (5, [], [
  (0, [(.iconst 1, 1, 0, 0), (.istore_n 3, 1, 0, 0), (.iconst 0, 1, 0, 0), (.istore 4, 2, 0, 0)], (.nop, 0, (0, 0, 0), [1])),
  (5, [(.iload 4, 2, 0, 0), (.aload_n 0, 1, 0, 0), (.getfield 118, 3, 13, 12)], (.if_icmp .ge 41, 3, (0, 0, 0), [8, 2])),
  (14, [(.iload_n 3, 1, 0, 0)], (.ifCond .eq 29, 3, (0, 0, 0), [6, 3])),
  (18, [(.aload_n 0, 1, 0, 0), (.getfield 35, 3, 13, 13), (.iload 4, 2, 0, 0), (.iaload, 1, 0, 0)], (.ifCond .eq 19, 3, (0, 0, 0), [6, 4])),
  (28, [(.aload_n 0, 1, 0, 0), (.getfield 35, 3, 13, 13), (.iload 4, 2, 0, 0), (.iaload, 1, 0, 0), (.bipush 7, 2, 0, 0)], (.if_icmp .eq 7, 3, (0, 0, 0), [6, 5])),
  (40, [(.iconst 1, 1, 0, 0)], (.goto 4, 3, (0, 0, 0), [7])),
  (44, [(.iconst 0, 1, 0, 0)], (.nop, 0, (0, 0, 0), [7])),
  (45, [(.istore_n 3, 1, 0, 0), (.iinc 4 1, 3, 0, 0)], (.goto (-44), 3, (0, 0, 0), [1])),
  (52, [(.aload_n 0, 1, 0, 0), (.iload_n 1, 1, 0, 0), (.iconst 1, 1, 0, 0), (.iconst 2, 1, 0, 0)], (.invokestatic 62, 3, (188, 3, 200), [9])),
  (59, [], (.ifCond .eq 16, 3, (0, 0, 0), [13, 10])),
  (62, [(.iload_n 2, 1, 0, 0), (.iconst 1, 1, 0, 0), (.iconst 3, 1, 0, 0)], (.invokestatic 62, 3, (188, 3, 200), [11])),
  (68, [], (.ifCond .eq 7, 3, (0, 0, 0), [13, 12])),
  (71, [(.iconst 1, 1, 0, 0)], (.goto 4, 3, (0, 0, 0), [14])),
  (75, [(.iconst 0, 1, 0, 0)], (.nop, 0, (0, 0, 0), [14])),
  (76, [(.iconst 1, 1, 0, 0)], (.invokevirtual 198, 3, (187, 3, 13), [15])),
  (80, [], (.ifCond .ne 12, 3, (0, 0, 0), [18, 16])),
  (83, [(.aload_n 0, 1, 0, 0), (.iload_n 3, 1, 0, 0), (.iconst 2, 1, 0, 0)], (.invokevirtual 198, 3, (187, 3, 13), [17])),
  (89, [], (.ifCond .eq 5, 3, (0, 0, 0), [19, 18])),
  (92, [(.iconst 0, 1, 0, 0)], (.ireturn, 1, (0, 0, 0), [])),
  (94, [(.aload_n 0, 1, 0, 0), (.iload_n 1, 1, 0, 0), (.putfield 7, 3, 13, 0), (.aload_n 0, 1, 0, 0), (.iload_n 2, 1, 0, 0), (.putfield 13, 3, 13, 1), (.aload_n 0, 1, 0, 0), (.aconst_null, 1, 0, 0), (.putfield 202, 3, 13, 19), (.aload_n 0, 1, 0, 0)], (.invokevirtual 72, 3, (189, 1, 13), [20])),
  (113, [], (.ireturn, 1, (0, 0, 0), []))])
def am_X13_addClass : ab_M := (3, [], [
  (0, [(.aload_n 0, 1, 0, 0), (.iload_n 2, 1, 0, 0), (.iconst (-1), 1, 0, 0)], (.if_icmp .eq 11, 3, (0, 0, 0), [3, 1])),
  (6, [(.aload_n 0, 1, 0, 0), (.iload_n 2, 1, 0, 0)], (.invokevirtual 205, 3, (192, 2, 13), [2])),
  (11, [], (.ifCond .eq 7, 3, (0, 0, 0), [4, 3])),
  (14, [(.iconst 1, 1, 0, 0)], (.goto 4, 3, (0, 0, 0), [5])),
  (18, [(.iconst 0, 1, 0, 0)], (.nop, 0, (0, 0, 0), [5])),
  (19, [(.iconst 1, 1, 0, 0)], (.invokevirtual 198, 3, (187, 3, 13), [6])),
  (23, [], (.ifCond .ne 39, 3, (0, 0, 0), [15, 7])),
  (26, [(.aload_n 0, 1, 0, 0), (.iload_n 1, 1, 0, 0), (.iconst 1, 1, 0, 0), (.bipush 99, 2, 0, 0)], (.invokestatic 62, 3, (188, 3, 200), [8])),
  (34, [(.iconst 2, 1, 0, 0)], (.invokevirtual 198, 3, (187, 3, 13), [9])),
  (38, [], (.ifCond .ne 24, 3, (0, 0, 0), [15, 10])),
  (41, [(.aload_n 0, 1, 0, 0), (.aload_n 0, 1, 0, 0), (.getfield 178, 3, 13, 2), (.iconst 4, 1, 0, 0)], (.if_icmp .ge 7, 3, (0, 0, 0), [12, 11])),
  (50, [(.iconst 1, 1, 0, 0)], (.goto 4, 3, (0, 0, 0), [13])),
  (54, [(.iconst 0, 1, 0, 0)], (.nop, 0, (0, 0, 0), [13])),
  (55, [(.iconst 3, 1, 0, 0)], (.invokevirtual 198, 3, (187, 3, 13), [14])),
  (59, [], (.ifCond .eq 5, 3, (0, 0, 0), [16, 15])),
  (62, [(.iconst 0, 1, 0, 0)], (.ireturn, 1, (0, 0, 0), [])),
  (64, [(.aload_n 0, 1, 0, 0), (.getfield 16, 3, 13, 3), (.aload_n 0, 1, 0, 0), (.getfield 178, 3, 13, 2), (.iload_n 1, 1, 0, 0), (.iastore, 1, 0, 0), (.aload_n 0, 1, 0, 0), (.getfield 20, 3, 13, 4), (.aload_n 0, 1, 0, 0), (.getfield 178, 3, 13, 2), (.iload_n 2, 1, 0, 0), (.iastore, 1, 0, 0), (.aload_n 0, 1, 0, 0), (.dup, 1, 0, 0), (.getfield 178, 3, 13, 2), (.iconst 1, 1, 0, 0), (.iadd, 1, 0, 0), (.putfield 178, 3, 13, 2), (.aload_n 0, 1, 0, 0), (.getfield 178, 3, 13, 2), (.iconst 1, 1, 0, 0), (.isub, 1, 0, 0)], (.ireturn, 1, (0, 0, 0), []))])
def am_X13_addTeacher : ab_M := (1, [], [
  (0, [(.aload_n 0, 1, 0, 0), (.aload_n 0, 1, 0, 0), (.getfield 66, 3, 13, 5), (.iconst 4, 1, 0, 0)], (.if_icmp .ge 7, 3, (0, 0, 0), [2, 1])),
  (9, [(.iconst 1, 1, 0, 0)], (.goto 4, 3, (0, 0, 0), [3])),
  (13, [(.iconst 0, 1, 0, 0)], (.nop, 0, (0, 0, 0), [3])),
  (14, [(.iconst 1, 1, 0, 0)], (.invokevirtual 198, 3, (187, 3, 13), [4])),
  (18, [], (.ifCond .eq 5, 3, (0, 0, 0), [6, 5])),
  (21, [(.iconst 0, 1, 0, 0)], (.ireturn, 1, (0, 0, 0), [])),
  (23, [(.aload_n 0, 1, 0, 0), (.dup, 1, 0, 0), (.getfield 66, 3, 13, 5), (.iconst 1, 1, 0, 0), (.iadd, 1, 0, 0), (.putfield 66, 3, 13, 5), (.aload_n 0, 1, 0, 0), (.getfield 66, 3, 13, 5), (.iconst 1, 1, 0, 0), (.isub, 1, 0, 0)], (.ireturn, 1, (0, 0, 0), []))])
def am_X13_addRoom : ab_M := (4, [], [
  (0, [(.aload_n 0, 1, 0, 0), (.iload_n 1, 1, 0, 0), (.iconst 1, 1, 0, 0), (.bipush 99, 2, 0, 0)], (.invokestatic 62, 3, (188, 3, 200), [1])),
  (8, [(.iconst 1, 1, 0, 0)], (.invokevirtual 198, 3, (187, 3, 13), [2])),
  (12, [], (.ifCond .ne 24, 3, (0, 0, 0), [8, 3])),
  (15, [(.aload_n 0, 1, 0, 0), (.aload_n 0, 1, 0, 0), (.getfield 69, 3, 13, 6), (.iconst 3, 1, 0, 0)], (.if_icmp .ge 7, 3, (0, 0, 0), [5, 4])),
  (24, [(.iconst 1, 1, 0, 0)], (.goto 4, 3, (0, 0, 0), [6])),
  (28, [(.iconst 0, 1, 0, 0)], (.nop, 0, (0, 0, 0), [6])),
  (29, [(.iconst 2, 1, 0, 0)], (.invokevirtual 198, 3, (187, 3, 13), [7])),
  (33, [], (.ifCond .eq 5, 3, (0, 0, 0), [9, 8])),
  (36, [(.iconst 0, 1, 0, 0)], (.ireturn, 1, (0, 0, 0), [])),
  (38, [(.aload_n 0, 1, 0, 0), (.getfield 69, 3, 13, 6), (.istore_n 2, 1, 0, 0), (.aload_n 0, 1, 0, 0), (.getfield 23, 3, 13, 7), (.aload_n 0, 1, 0, 0), (.getfield 69, 3, 13, 6), (.iload_n 1, 1, 0, 0), (.iastore, 1, 0, 0), (.aload_n 0, 1, 0, 0), (.dup, 1, 0, 0), (.getfield 69, 3, 13, 6), (.iconst 1, 1, 0, 0), (.iadd, 1, 0, 0), (.putfield 69, 3, 13, 6), (.iconst 0, 1, 0, 0), (.istore_n 3, 1, 0, 0)], (.nop, 0, (0, 0, 0), [10])),
  (65, [(.aload_n 0, 1, 0, 0), (.getfield 202, 3, 13, 19)], (.ifnull 54, 3, (0, 0, 0), [16, 11])),
  (72, [(.iload_n 3, 1, 0, 0), (.aload_n 0, 1, 0, 0), (.getfield 202, 3, 13, 19), (.arraylength, 1, 0, 0)], (.if_icmp .ge 45, 3, (0, 0, 0), [16, 12])),
  (81, [(.aload_n 0, 1, 0, 0), (.getfield 202, 3, 13, 19), (.iload_n 3, 1, 0, 0), (.iload_n 2, 1, 0, 0)], (.ifCond .ne 7, 3, (0, 0, 0), [14, 13])),
  (90, [(.iconst 0, 1, 0, 0)], (.goto 25, 3, (0, 0, 0), [15])),
  (94, [(.aload_n 0, 1, 0, 0), (.getfield 202, 3, 13, 19), (.iload_n 3, 1, 0, 0), (.iaload, 1, 0, 0), (.iload_n 2, 1, 0, 0), (.idiv, 1, 0, 0), (.aload_n 0, 1, 0, 0), (.getfield 69, 3, 13, 6), (.imul, 1, 0, 0), (.aload_n 0, 1, 0, 0), (.getfield 202, 3, 13, 19), (.iload_n 3, 1, 0, 0), (.iaload, 1, 0, 0), (.iload_n 2, 1, 0, 0), (.irem, 1, 0, 0), (.iadd, 1, 0, 0)], (.nop, 0, (0, 0, 0), [15])),
  (116, [(.iastore, 1, 0, 0), (.iinc 3 1, 3, 0, 0)], (.goto (-55), 3, (0, 0, 0), [10])),
  (123, [(.aload_n 0, 1, 0, 0), (.getfield 69, 3, 13, 6), (.iconst 1, 1, 0, 0), (.isub, 1, 0, 0)], (.ireturn, 1, (0, 0, 0), []))])
def am_X13_addLesson : ab_M := (4, [], [
  (0, [(.aload_n 0, 1, 0, 0), (.iload_n 1, 1, 0, 0), (.iconst 0, 1, 0, 0), (.aload_n 0, 1, 0, 0), (.getfield 178, 3, 13, 2), (.iconst 1, 1, 0, 0), (.isub, 1, 0, 0)], (.invokestatic 62, 3, (188, 3, 200), [1])),
  (12, [], (.ifCond .eq 15, 3, (0, 0, 0), [5, 2])),
  (15, [(.aload_n 0, 1, 0, 0), (.iload_n 2, 1, 0, 0)], (.invokevirtual 208, 3, (191, 2, 13), [3])),
  (20, [], (.ifCond .eq 7, 3, (0, 0, 0), [5, 4])),
  (23, [(.iconst 1, 1, 0, 0)], (.goto 4, 3, (0, 0, 0), [6])),
  (27, [(.iconst 0, 1, 0, 0)], (.nop, 0, (0, 0, 0), [6])),
  (28, [(.iconst 1, 1, 0, 0)], (.invokevirtual 198, 3, (187, 3, 13), [7])),
  (32, [], (.ifCond .ne 39, 3, (0, 0, 0), [16, 8])),
  (35, [(.aload_n 0, 1, 0, 0), (.iload_n 3, 1, 0, 0), (.iconst 1, 1, 0, 0), (.iconst 2, 1, 0, 0)], (.invokestatic 62, 3, (188, 3, 200), [9])),
  (42, [(.iconst 2, 1, 0, 0)], (.invokevirtual 198, 3, (187, 3, 13), [10])),
  (46, [], (.ifCond .ne 25, 3, (0, 0, 0), [16, 11])),
  (49, [(.aload_n 0, 1, 0, 0), (.aload_n 0, 1, 0, 0), (.getfield 59, 3, 13, 8), (.bipush 6, 2, 0, 0)], (.if_icmp .ge 7, 3, (0, 0, 0), [13, 12])),
  (59, [(.iconst 1, 1, 0, 0)], (.goto 4, 3, (0, 0, 0), [14])),
  (63, [(.iconst 0, 1, 0, 0)], (.nop, 0, (0, 0, 0), [14])),
  (64, [(.iconst 3, 1, 0, 0)], (.invokevirtual 198, 3, (187, 3, 13), [15])),
  (68, [], (.ifCond .eq 5, 3, (0, 0, 0), [17, 16])),
  (71, [(.iconst 0, 1, 0, 0)], (.ireturn, 1, (0, 0, 0), [])),
  (73, [(.aload_n 0, 1, 0, 0), (.getfield 26, 3, 13, 9), (.aload_n 0, 1, 0, 0), (.getfield 59, 3, 13, 8), (.iload_n 1, 1, 0, 0), (.iastore, 1, 0, 0), (.aload_n 0, 1, 0, 0), (.getfield 29, 3, 13, 10), (.aload_n 0, 1, 0, 0), (.getfield 59, 3, 13, 8), (.iload_n 2, 1, 0, 0), (.iastore, 1, 0, 0), (.aload_n 0, 1, 0, 0), (.getfield 32, 3, 13, 11), (.aload_n 0, 1, 0, 0), (.getfield 59, 3, 13, 8), (.iload_n 3, 1, 0, 0), (.iastore, 1, 0, 0), (.aload_n 0, 1, 0, 0), (.dup, 1, 0, 0), (.getfield 59, 3, 13, 8), (.iconst 1, 1, 0, 0), (.iadd, 1, 0, 0), (.putfield 59, 3, 13, 8), (.aload_n 0, 1, 0, 0), (.aconst_null, 1, 0, 0), (.putfield 202, 3, 13, 19), (.aload_n 0, 1, 0, 0), (.getfield 59, 3, 13, 8), (.iconst 1, 1, 0, 0), (.isub, 1, 0, 0)], (.ireturn, 1, (0, 0, 0), []))])
def am_X13_isRule : ab_M := (4, [], [
  (0, [(.iload_n 1, 1, 0, 0)], (.tableswitch 136 0 7 #[47, 69, 136, 136, 136, 136, 92, 114], 47, (0, 0, 0), [1, 8, 29, 29, 29, 29, 15, 22, 29])),
  (48, [(.aload_n 0, 1, 0, 0), (.iload_n 2, 1, 0, 0)], (.invokevirtual 211, 3, (190, 2, 13), [2])),
  (53, [], (.ifCond .eq 15, 3, (0, 0, 0), [6, 3])),
  (56, [(.aload_n 0, 1, 0, 0), (.iload_n 3, 1, 0, 0)], (.invokevirtual 214, 3, (193, 2, 13), [4])),
  (61, [], (.ifCond .eq 7, 3, (0, 0, 0), [6, 5])),
  (64, [(.iconst 1, 1, 0, 0)], (.goto 4, 3, (0, 0, 0), [7])),
  (68, [(.iconst 0, 1, 0, 0)], (.nop, 0, (0, 0, 0), [7])),
  (69, [], (.ireturn, 1, (1, 0, 0), [])),
  (70, [(.aload_n 0, 1, 0, 0), (.iload_n 2, 1, 0, 0)], (.invokevirtual 208, 3, (191, 2, 13), [9])),
  (75, [], (.ifCond .eq 16, 3, (0, 0, 0), [13, 10])),
  (78, [(.iload_n 3, 1, 0, 0), (.iconst 0, 1, 0, 0), (.iconst 3, 1, 0, 0)], (.invokestatic 62, 3, (188, 3, 200), [11])),
  (84, [], (.ifCond .eq 7, 3, (0, 0, 0), [13, 12])),
  (87, [(.iconst 1, 1, 0, 0)], (.goto 4, 3, (0, 0, 0), [14])),
  (91, [(.iconst 0, 1, 0, 0)], (.nop, 0, (0, 0, 0), [14])),
  (92, [], (.ireturn, 1, (1, 0, 0), [])),
  (93, [(.aload_n 0, 1, 0, 0), (.iload_n 2, 1, 0, 0)], (.invokevirtual 211, 3, (190, 2, 13), [16])),
  (98, [], (.ifCond .eq 15, 3, (0, 0, 0), [20, 17])),
  (101, [(.aload_n 0, 1, 0, 0), (.iload_n 3, 1, 0, 0)], (.invokevirtual 205, 3, (192, 2, 13), [18])),
  (106, [], (.ifCond .eq 7, 3, (0, 0, 0), [20, 19])),
  (109, [(.iconst 1, 1, 0, 0)], (.goto 4, 3, (0, 0, 0), [21])),
  (113, [(.iconst 0, 1, 0, 0)], (.nop, 0, (0, 0, 0), [21])),
  (114, [], (.ireturn, 1, (1, 0, 0), [])),
  (115, [(.aload_n 0, 1, 0, 0), (.iload_n 2, 1, 0, 0)], (.invokevirtual 208, 3, (191, 2, 13), [23])),
  (120, [], (.ifCond .eq 15, 3, (0, 0, 0), [27, 24])),
  (123, [(.aload_n 0, 1, 0, 0), (.iload_n 3, 1, 0, 0)], (.invokevirtual 214, 3, (193, 2, 13), [25])),
  (128, [], (.ifCond .eq 7, 3, (0, 0, 0), [27, 26])),
  (131, [(.iconst 1, 1, 0, 0)], (.goto 4, 3, (0, 0, 0), [28])),
  (135, [(.iconst 0, 1, 0, 0)], (.nop, 0, (0, 0, 0), [28])),
  (136, [], (.ireturn, 1, (1, 0, 0), [])),
  (137, [(.iload_n 1, 1, 0, 0), (.iconst 2, 1, 0, 0), (.iconst 5, 1, 0, 0)], (.invokestatic 62, 3, (188, 3, 200), [30])),
  (143, [], (.ifCond .eq 28, 3, (0, 0, 0), [37, 31])),
  (146, [(.aload_n 0, 1, 0, 0), (.iload_n 2, 1, 0, 0)], (.invokevirtual 211, 3, (190, 2, 13), [32])),
  (151, [], (.ifCond .eq 20, 3, (0, 0, 0), [37, 33])),
  (154, [(.aload_n 0, 1, 0, 0), (.iload_n 3, 1, 0, 0)], (.invokevirtual 211, 3, (190, 2, 13), [34])),
  (159, [], (.ifCond .eq 12, 3, (0, 0, 0), [37, 35])),
  (162, [(.iload_n 2, 1, 0, 0), (.iload_n 3, 1, 0, 0)], (.if_icmp .eq 7, 3, (0, 0, 0), [37, 36])),
  (167, [(.iconst 1, 1, 0, 0)], (.goto 4, 3, (0, 0, 0), [38])),
  (171, [(.iconst 0, 1, 0, 0)], (.nop, 0, (0, 0, 0), [38])),
  (172, [], (.ireturn, 1, (1, 0, 0), []))])
def am_X13_addRule : ab_M := (4, [], [
  (0, [(.aload_n 0, 1, 0, 0), (.aload_n 0, 1, 0, 0), (.iload_n 1, 1, 0, 0), (.iload_n 2, 1, 0, 0), (.iload_n 3, 1, 0, 0)], (.invokevirtual 217, 3, (228, 4, 13), [1])),
  (8, [(.iconst 1, 1, 0, 0)], (.invokevirtual 198, 3, (187, 3, 13), [2])),
  (12, [], (.ifCond .ne 25, 3, (0, 0, 0), [8, 3])),
  (15, [(.aload_n 0, 1, 0, 0), (.aload_n 0, 1, 0, 0), (.getfield 118, 3, 13, 12), (.bipush 10, 2, 0, 0)], (.if_icmp .ge 7, 3, (0, 0, 0), [5, 4])),
  (25, [(.iconst 1, 1, 0, 0)], (.goto 4, 3, (0, 0, 0), [6])),
  (29, [(.iconst 0, 1, 0, 0)], (.nop, 0, (0, 0, 0), [6])),
  (30, [(.iconst 2, 1, 0, 0)], (.invokevirtual 198, 3, (187, 3, 13), [7])),
  (34, [], (.ifCond .eq 5, 3, (0, 0, 0), [9, 8])),
  (37, [(.iconst 0, 1, 0, 0)], (.ireturn, 1, (0, 0, 0), [])),
  (39, [(.aload_n 0, 1, 0, 0), (.getfield 35, 3, 13, 13), (.aload_n 0, 1, 0, 0), (.getfield 118, 3, 13, 12), (.iload_n 1, 1, 0, 0), (.iastore, 1, 0, 0), (.aload_n 0, 1, 0, 0), (.getfield 38, 3, 13, 14), (.aload_n 0, 1, 0, 0), (.getfield 118, 3, 13, 12), (.iload_n 2, 1, 0, 0), (.iastore, 1, 0, 0), (.aload_n 0, 1, 0, 0), (.getfield 41, 3, 13, 15), (.aload_n 0, 1, 0, 0), (.getfield 118, 3, 13, 12), (.iload_n 3, 1, 0, 0), (.iastore, 1, 0, 0), (.aload_n 0, 1, 0, 0), (.dup, 1, 0, 0), (.getfield 118, 3, 13, 12), (.iconst 1, 1, 0, 0), (.iadd, 1, 0, 0), (.putfield 118, 3, 13, 12), (.aload_n 0, 1, 0, 0), (.getfield 118, 3, 13, 12), (.iconst 1, 1, 0, 0), (.isub, 1, 0, 0)], (.ireturn, 1, (0, 0, 0), []))])
def am_X13_dropRule : ab_M := (3, [], [
  (0, [(.aload_n 0, 1, 0, 0), (.iload_n 1, 1, 0, 0), (.iconst 0, 1, 0, 0), (.aload_n 0, 1, 0, 0), (.getfield 118, 3, 13, 12), (.iconst 1, 1, 0, 0), (.isub, 1, 0, 0)], (.invokestatic 62, 3, (188, 3, 200), [1])),
  (12, [(.iconst 1, 1, 0, 0)], (.invokevirtual 198, 3, (187, 3, 13), [2])),
  (16, [], (.ifCond .eq 5, 3, (0, 0, 0), [4, 3])),
  (19, [(.iconst 0, 1, 0, 0)], (.ireturn, 1, (0, 0, 0), [])),
  (21, [(.aload_n 0, 1, 0, 0), (.dup, 1, 0, 0), (.getfield 118, 3, 13, 12), (.iconst 1, 1, 0, 0), (.isub, 1, 0, 0), (.putfield 118, 3, 13, 12), (.iload_n 1, 1, 0, 0), (.istore_n 2, 1, 0, 0)], (.nop, 0, (0, 0, 0), [5])),
  (33, [(.iload_n 2, 1, 0, 0), (.aload_n 0, 1, 0, 0), (.getfield 118, 3, 13, 12)], (.if_icmp .ge 51, 3, (0, 0, 0), [7, 6])),
  (41, [(.aload_n 0, 1, 0, 0), (.getfield 35, 3, 13, 13), (.iload_n 2, 1, 0, 0), (.aload_n 0, 1, 0, 0), (.getfield 35, 3, 13, 13), (.iload_n 2, 1, 0, 0), (.iconst 1, 1, 0, 0), (.iadd, 1, 0, 0), (.iaload, 1, 0, 0), (.iastore, 1, 0, 0), (.aload_n 0, 1, 0, 0), (.getfield 38, 3, 13, 14), (.iload_n 2, 1, 0, 0), (.aload_n 0, 1, 0, 0), (.getfield 38, 3, 13, 14), (.iload_n 2, 1, 0, 0), (.iconst 1, 1, 0, 0), (.iadd, 1, 0, 0), (.iaload, 1, 0, 0), (.iastore, 1, 0, 0), (.aload_n 0, 1, 0, 0), (.getfield 41, 3, 13, 15), (.iload_n 2, 1, 0, 0), (.aload_n 0, 1, 0, 0), (.getfield 41, 3, 13, 15), (.iload_n 2, 1, 0, 0), (.iconst 1, 1, 0, 0), (.iadd, 1, 0, 0), (.iaload, 1, 0, 0), (.iastore, 1, 0, 0), (.iinc 2 1, 3, 0, 0)], (.goto (-53), 3, (0, 0, 0), [5])),
  (89, [(.aload_n 0, 1, 0, 0), (.getfield 118, 3, 13, 12)], (.ireturn, 1, (0, 0, 0), []))])
def am_X13_left : ab_M := (2, [], [
  (0, [(.aload_n 0, 1, 0, 0), (.aload_n 0, 1, 0, 0), (.iload_n 1, 1, 0, 0)], (.invokevirtual 211, 3, (190, 2, 13), [1])),
  (6, [(.iconst 1, 1, 0, 0)], (.invokevirtual 198, 3, (187, 3, 13), [2])),
  (10, [], (.ifCond .eq 7, 3, (0, 0, 0), [4, 3])),
  (13, [(.iconst 0, 1, 0, 0)], (.goto 12, 3, (0, 0, 0), [6])),
  (17, [(.aload_n 0, 1, 0, 0)], (.invokevirtual 220, 3, (219, 1, 13), [5])),
  (21, [(.iload_n 1, 1, 0, 0), (.iaload, 1, 0, 0)], (.invokestatic 95, 3, (277, 1, 200), [6])),
  (26, [], (.ireturn, 1, (0, 0, 0), []))])
def am_X13_leftAt : ab_M := (6, [], [
  (0, [(.aload_n 0, 1, 0, 0), (.aload_n 0, 1, 0, 0), (.iload_n 1, 1, 0, 0)], (.invokevirtual 211, 3, (190, 2, 13), [1])),
  (6, [(.iconst 1, 1, 0, 0)], (.invokevirtual 198, 3, (187, 3, 13), [2])),
  (10, [], (.ifCond .eq 5, 3, (0, 0, 0), [4, 3])),
  (13, [(.iconst 0, 1, 0, 0)], (.ireturn, 1, (0, 0, 0), [])),
  (15, [(.aload_n 0, 1, 0, 0)], (.invokevirtual 220, 3, (219, 1, 13), [5])),
  (19, [(.iload_n 1, 1, 0, 0), (.iaload, 1, 0, 0), (.istore_n 3, 1, 0, 0), (.iconst 0, 1, 0, 0), (.istore 4, 2, 0, 0), (.iconst 0, 1, 0, 0), (.istore 5, 2, 0, 0)], (.nop, 0, (0, 0, 0), [6])),
  (28, [(.iload 5, 2, 0, 0), (.aload_n 0, 1, 0, 0)], (.invokevirtual 72, 3, (189, 1, 13), [7])),
  (34, [(.aload_n 0, 1, 0, 0), (.getfield 69, 3, 13, 6), (.imul, 1, 0, 0)], (.if_icmp .ge 35, 3, (0, 0, 0), [14, 8])),
  (42, [(.iload_n 3, 1, 0, 0), (.iload 5, 2, 0, 0), (.ishr, 1, 0, 0), (.iconst 1, 1, 0, 0), (.iand, 1, 0, 0), (.iconst 1, 1, 0, 0)], (.if_icmp .ne 19, 3, (0, 0, 0), [13, 9])),
  (52, [(.iload 4, 2, 0, 0), (.iload_n 2, 1, 0, 0)], (.if_icmp .ne 10, 3, (0, 0, 0), [12, 10])),
  (58, [(.aload_n 0, 1, 0, 0), (.iload 5, 2, 0, 0)], (.invokevirtual 224, 3, (194, 2, 13), [11])),
  (64, [], (.ireturn, 1, (0, 0, 0), [])),
  (65, [(.iinc 4 1, 3, 0, 0)], (.nop, 0, (0, 0, 0), [13])),
  (68, [(.iinc 5 1, 3, 0, 0)], (.goto (-43), 3, (0, 0, 0), [6])),
  (74, [(.aload_n 0, 1, 0, 0), (.iconst 2, 1, 0, 0), (.putfield 56, 3, 13, 22), (.iconst 0, 1, 0, 0)], (.ireturn, 1, (0, 0, 0), []))])
def am_X13_first : ab_M := (3, [], [
  (0, [(.aload_n 0, 1, 0, 0), (.iconst 0, 1, 0, 0), (.putfield 56, 3, 13, 22), (.aload_n 0, 1, 0, 0)], (.invokevirtual 161, 3, (218, 1, 13), [1])),
  (9, [(.astore_n 1, 1, 0, 0), (.aload_n 1, 1, 0, 0)], (.invokevirtual 227, 3, (177, 1, 12), [2])),
  (14, [(.istore_n 2, 1, 0, 0), (.aload_n 0, 1, 0, 0), (.iload_n 2, 1, 0, 0)], (.ifCond .eq 10, 3, (0, 0, 0), [5, 3])),
  (20, [(.aload_n 1, 1, 0, 0)], (.invokevirtual 231, 3, (181, 1, 62), [4])),
  (24, [], (.goto 7, 3, (0, 0, 0), [6])),
  (27, [(.aload_n 0, 1, 0, 0), (.getfield 202, 3, 13, 19)], (.nop, 0, (0, 0, 0), [6])),
  (31, [(.putfield 202, 3, 13, 19), (.iload_n 2, 1, 0, 0)], (.ireturn, 1, (1, 0, 0), []))])
def am_X13_noTable : ab_M := (2, [], [
  (0, [(.aload_n 0, 1, 0, 0), (.aload_n 0, 1, 0, 0), (.getfield 202, 3, 13, 19)], (.ifnull 7, 3, (0, 0, 0), [2, 1])),
  (8, [(.iconst 1, 1, 0, 0)], (.goto 4, 3, (0, 0, 0), [3])),
  (12, [(.iconst 0, 1, 0, 0)], (.nop, 0, (0, 0, 0), [3])),
  (13, [(.iload_n 1, 1, 0, 0)], (.invokevirtual 198, 3, (187, 3, 13), [4])),
  (17, [], (.ireturn, 1, (1, 0, 0), []))])
def am_X13_next : ab_M := (3, [], [
  (0, [(.aload_n 0, 1, 0, 0), (.iconst 1, 1, 0, 0)], (.invokevirtual 234, 3, (234, 2, 13), [1])),
  (5, [], (.ifCond .eq 5, 3, (0, 0, 0), [3, 2])),
  (8, [(.iconst 0, 1, 0, 0)], (.ireturn, 1, (1, 0, 0), [])),
  (10, [(.aload_n 0, 1, 0, 0)], (.invokevirtual 161, 3, (218, 1, 13), [4])),
  (14, [(.astore_n 1, 1, 0, 0), (.aload_n 1, 1, 0, 0), (.iconst 0, 1, 0, 0), (.aload_n 0, 1, 0, 0), (.getfield 202, 3, 13, 19)], (.invokevirtual 237, 3, (179, 3, 12), [5])),
  (24, [(.istore_n 2, 1, 0, 0), (.aload_n 0, 1, 0, 0), (.iload_n 2, 1, 0, 0)], (.ifCond .eq 10, 3, (0, 0, 0), [8, 6])),
  (30, [(.aload_n 1, 1, 0, 0)], (.invokevirtual 231, 3, (181, 1, 62), [7])),
  (34, [], (.goto 7, 3, (0, 0, 0), [9])),
  (37, [(.aload_n 0, 1, 0, 0), (.getfield 202, 3, 13, 19)], (.nop, 0, (0, 0, 0), [9])),
  (41, [(.putfield 202, 3, 13, 19), (.iload_n 2, 1, 0, 0)], (.ireturn, 1, (1, 0, 0), []))])
def am_X13_place : ab_M := (5, [], [
  (0, [(.aload_n 0, 1, 0, 0), (.aload_n 0, 1, 0, 0), (.iload_n 1, 1, 0, 0)], (.invokevirtual 211, 3, (190, 2, 13), [1])),
  (6, [], (.ifCond .eq 23, 3, (0, 0, 0), [7, 2])),
  (9, [(.aload_n 0, 1, 0, 0), (.iload_n 2, 1, 0, 0)], (.invokevirtual 214, 3, (193, 2, 13), [3])),
  (14, [], (.ifCond .eq 15, 3, (0, 0, 0), [7, 4])),
  (17, [(.aload_n 0, 1, 0, 0), (.iload_n 3, 1, 0, 0)], (.invokevirtual 205, 3, (192, 2, 13), [5])),
  (22, [], (.ifCond .eq 7, 3, (0, 0, 0), [7, 6])),
  (25, [(.iconst 1, 1, 0, 0)], (.goto 4, 3, (0, 0, 0), [8])),
  (29, [(.iconst 0, 1, 0, 0)], (.nop, 0, (0, 0, 0), [8])),
  (30, [(.iconst 1, 1, 0, 0)], (.invokevirtual 198, 3, (187, 3, 13), [9])),
  (34, [], (.ifCond .eq 5, 3, (0, 0, 0), [11, 10])),
  (37, [(.iconst 0, 1, 0, 0)], (.ireturn, 1, (0, 0, 0), [])),
  (39, [(.aload_n 0, 1, 0, 0), (.getfield 202, 3, 13, 19)], (.ifnonnull 7, 3, (0, 0, 0), [13, 12])),
  (46, [(.iconst (-1), 1, 0, 0)], (.goto 13, 3, (0, 0, 0), [14])),
  (50, [(.aload_n 0, 1, 0, 0), (.aload_n 0, 1, 0, 0), (.getfield 202, 3, 13, 19), (.iload_n 1, 1, 0, 0), (.iaload, 1, 0, 0)], (.invokevirtual 224, 3, (194, 2, 13), [14])),
  (60, [(.istore 4, 2, 0, 0), (.aload_n 0, 1, 0, 0), (.getfield 202, 3, 13, 19)], (.ifnonnull 13, 3, (0, 0, 0), [16, 15])),
  (69, [(.aload_n 0, 1, 0, 0), (.aload_n 0, 1, 0, 0), (.getfield 59, 3, 13, 8), (.newarray .int, 2, 0, 0), (.putfield 202, 3, 13, 19)], (.nop, 0, (0, 0, 0), [16])),
  (79, [(.aload_n 0, 1, 0, 0), (.getfield 202, 3, 13, 19), (.iload_n 1, 1, 0, 0), (.iload_n 2, 1, 0, 0), (.aload_n 0, 1, 0, 0), (.getfield 69, 3, 13, 6), (.imul, 1, 0, 0), (.iload_n 3, 1, 0, 0), (.iadd, 1, 0, 0), (.iastore, 1, 0, 0), (.iload 4, 2, 0, 0)], (.ireturn, 1, (0, 0, 0), []))])
def am_X13_at : ab_M := (2, [], [
  (0, [(.aload_n 0, 1, 0, 0), (.aload_n 0, 1, 0, 0), (.iload_n 1, 1, 0, 0)], (.invokevirtual 211, 3, (190, 2, 13), [1])),
  (6, [(.iconst 1, 1, 0, 0)], (.invokevirtual 198, 3, (187, 3, 13), [2])),
  (10, [], (.ifCond .ne 11, 3, (0, 0, 0), [5, 3])),
  (13, [(.aload_n 0, 1, 0, 0), (.iconst 2, 1, 0, 0)], (.invokevirtual 234, 3, (234, 2, 13), [4])),
  (18, [], (.ifCond .eq 7, 3, (0, 0, 0), [6, 5])),
  (21, [(.iconst 0, 1, 0, 0)], (.goto 13, 3, (0, 0, 0), [7])),
  (25, [(.aload_n 0, 1, 0, 0), (.aload_n 0, 1, 0, 0), (.getfield 202, 3, 13, 19), (.iload_n 1, 1, 0, 0), (.iaload, 1, 0, 0)], (.invokevirtual 224, 3, (194, 2, 13), [7])),
  (35, [], (.ireturn, 1, (0, 0, 0), []))])
def am_X13_broken : ab_M := (1, [], [
  (0, [(.aload_n 0, 1, 0, 0), (.iconst 1, 1, 0, 0)], (.invokevirtual 234, 3, (234, 2, 13), [1])),
  (5, [], (.ifCond .eq 7, 3, (0, 0, 0), [3, 2])),
  (8, [(.iconst 0, 1, 0, 0)], (.goto 11, 3, (0, 0, 0), [4])),
  (12, [(.aload_n 0, 1, 0, 0), (.aload_n 0, 1, 0, 0), (.getfield 202, 3, 13, 19)], (.invokevirtual 139, 3, (208, 2, 13), [4])),
  (20, [], (.ireturn, 1, (0, 0, 0), []))])
def am_X13_groundFaults : ab_M := (1, [], [
  (0, [(.aload_n 0, 1, 0, 0), (.iconst 1, 1, 0, 0)], (.invokevirtual 234, 3, (234, 2, 13), [1])),
  (5, [], (.ifCond .eq 7, 3, (0, 0, 0), [3, 2])),
  (8, [(.iconst 0, 1, 0, 0)], (.goto 11, 3, (0, 0, 0), [4])),
  (12, [(.aload_n 0, 1, 0, 0), (.aload_n 0, 1, 0, 0), (.getfield 202, 3, 13, 19)], (.invokevirtual 135, 3, (209, 2, 13), [4])),
  (20, [], (.ireturn, 1, (0, 0, 0), []))])
def am_X13_image : ab_M := (4, [], [
  (0, [(.aload_n 0, 1, 0, 0), (.iconst 1, 1, 0, 0)], (.invokevirtual 234, 3, (234, 2, 13), [1])),
  (5, [], (.ifCond .eq 5, 3, (0, 0, 0), [3, 2])),
  (8, [(.iconst 0, 1, 0, 0)], (.ireturn, 1, (0, 0, 0), [])),
  (10, [(.aload_n 0, 1, 0, 0), (.getfield 240, 3, 13, 20)], (.ifnull 15, 3, (0, 0, 0), [5, 4])),
  (17, [(.aload_n 0, 1, 0, 0), (.getfield 240, 3, 13, 20), (.arraylength, 1, 0, 0), (.aload_n 0, 1, 0, 0), (.getfield 59, 3, 13, 8)], (.if_icmp .eq 7, 3, (0, 0, 0), [6, 5])),
  (29, [(.iconst (-1), 1, 0, 0)], (.goto 4, 3, (0, 0, 0), [7])),
  (33, [(.iconst 0, 1, 0, 0)], (.nop, 0, (0, 0, 0), [7])),
  (34, [(.istore_n 1, 1, 0, 0), (.aload_n 0, 1, 0, 0), (.getfield 59, 3, 13, 8), (.newarray .int, 2, 0, 0), (.astore_n 2, 1, 0, 0), (.iconst 0, 1, 0, 0), (.istore_n 3, 1, 0, 0)], (.nop, 0, (0, 0, 0), [8])),
  (44, [(.iload_n 3, 1, 0, 0), (.aload_n 0, 1, 0, 0), (.getfield 59, 3, 13, 8)], (.if_icmp .ge 47, 3, (0, 0, 0), [15, 9])),
  (52, [(.aload_n 2, 1, 0, 0), (.iload_n 3, 1, 0, 0), (.aload_n 0, 1, 0, 0), (.aload_n 0, 1, 0, 0), (.getfield 202, 3, 13, 19), (.iload_n 3, 1, 0, 0), (.iaload, 1, 0, 0)], (.invokevirtual 224, 3, (194, 2, 13), [10])),
  (64, [(.iastore, 1, 0, 0), (.iload_n 1, 1, 0, 0), (.iload_n 1, 1, 0, 0), (.iconst (-1), 1, 0, 0)], (.if_icmp .eq 19, 3, (0, 0, 0), [13, 11])),
  (71, [(.aload_n 2, 1, 0, 0), (.iload_n 3, 1, 0, 0), (.iaload, 1, 0, 0), (.aload_n 0, 1, 0, 0), (.getfield 240, 3, 13, 20), (.iload_n 3, 1, 0, 0), (.iaload, 1, 0, 0)], (.if_icmp .eq 7, 3, (0, 0, 0), [13, 12])),
  (83, [(.iconst 1, 1, 0, 0)], (.goto 4, 3, (0, 0, 0), [14])),
  (87, [(.iconst 0, 1, 0, 0)], (.nop, 0, (0, 0, 0), [14])),
  (88, [(.iadd, 1, 0, 0), (.istore_n 1, 1, 0, 0), (.iinc 3 1, 3, 0, 0)], (.goto (-49), 3, (0, 0, 0), [8])),
  (96, [(.aload_n 0, 1, 0, 0), (.aload_n 2, 1, 0, 0), (.putfield 240, 3, 13, 20), (.iload_n 1, 1, 0, 0)], (.ireturn, 1, (0, 0, 0), []))])
def am_X13_restore : ab_M := (5, [], [
  (0, [(.aload_n 0, 1, 0, 0), (.getfield 240, 3, 13, 20)], (.ifnull 19, 3, (0, 0, 0), [3, 1])),
  (7, [(.aload_n 0, 1, 0, 0), (.getfield 240, 3, 13, 20), (.arraylength, 1, 0, 0), (.aload_n 0, 1, 0, 0), (.getfield 59, 3, 13, 8)], (.if_icmp .ne 7, 3, (0, 0, 0), [3, 2])),
  (19, [(.iconst 1, 1, 0, 0)], (.goto 4, 3, (0, 0, 0), [4])),
  (23, [(.iconst 0, 1, 0, 0)], (.nop, 0, (0, 0, 0), [4])),
  (24, [(.istore_n 1, 1, 0, 0), (.iconst 0, 1, 0, 0), (.istore_n 2, 1, 0, 0)], (.nop, 0, (0, 0, 0), [5])),
  (27, [(.iload_n 1, 1, 0, 0)], (.ifCond .eq 55, 3, (0, 0, 0), [14, 6])),
  (31, [(.iload_n 2, 1, 0, 0), (.aload_n 0, 1, 0, 0), (.getfield 59, 3, 13, 8)], (.if_icmp .ge 47, 3, (0, 0, 0), [14, 7])),
  (39, [(.aload_n 0, 1, 0, 0), (.aload_n 0, 1, 0, 0), (.getfield 240, 3, 13, 20), (.iload_n 2, 1, 0, 0), (.iaload, 1, 0, 0), (.bipush 10, 2, 0, 0), (.idiv, 1, 0, 0)], (.invokevirtual 214, 3, (193, 2, 13), [8])),
  (52, [], (.ifCond .eq 23, 3, (0, 0, 0), [12, 9])),
  (55, [(.aload_n 0, 1, 0, 0), (.aload_n 0, 1, 0, 0), (.getfield 240, 3, 13, 20), (.iload_n 2, 1, 0, 0), (.iaload, 1, 0, 0), (.bipush 10, 2, 0, 0), (.irem, 1, 0, 0)], (.invokevirtual 205, 3, (192, 2, 13), [10])),
  (68, [], (.ifCond .eq 7, 3, (0, 0, 0), [12, 11])),
  (71, [(.iconst 1, 1, 0, 0)], (.goto 4, 3, (0, 0, 0), [13])),
  (75, [(.iconst 0, 1, 0, 0)], (.nop, 0, (0, 0, 0), [13])),
  (76, [(.istore_n 1, 1, 0, 0), (.iinc 2 1, 3, 0, 0)], (.goto (-53), 3, (0, 0, 0), [5])),
  (83, [(.aload_n 0, 1, 0, 0), (.iload_n 1, 1, 0, 0), (.iconst 1, 1, 0, 0)], (.invokevirtual 198, 3, (187, 3, 13), [15])),
  (89, [], (.ifCond .eq 5, 3, (0, 0, 0), [17, 16])),
  (92, [(.iconst 0, 1, 0, 0)], (.ireturn, 1, (0, 0, 0), [])),
  (94, [(.aload_n 0, 1, 0, 0), (.getfield 202, 3, 13, 19)], (.ifnonnull 7, 3, (0, 0, 0), [19, 18])),
  (101, [(.iconst (-1), 1, 0, 0)], (.goto 4, 3, (0, 0, 0), [20])),
  (105, [(.iconst 0, 1, 0, 0)], (.nop, 0, (0, 0, 0), [20])),
  (106, [(.istore_n 2, 1, 0, 0), (.aload_n 0, 1, 0, 0), (.getfield 59, 3, 13, 8), (.newarray .int, 2, 0, 0), (.astore_n 3, 1, 0, 0), (.iconst 0, 1, 0, 0), (.istore 4, 2, 0, 0)], (.nop, 0, (0, 0, 0), [21])),
  (117, [(.iload 4, 2, 0, 0), (.aload_n 0, 1, 0, 0), (.getfield 59, 3, 13, 8)], (.if_icmp .ge 68, 3, (0, 0, 0), [27, 22])),
  (126, [(.aload_n 3, 1, 0, 0), (.iload 4, 2, 0, 0), (.aload_n 0, 1, 0, 0), (.getfield 240, 3, 13, 20), (.iload 4, 2, 0, 0), (.iaload, 1, 0, 0), (.bipush 10, 2, 0, 0), (.idiv, 1, 0, 0), (.aload_n 0, 1, 0, 0), (.getfield 69, 3, 13, 6), (.imul, 1, 0, 0), (.aload_n 0, 1, 0, 0), (.getfield 240, 3, 13, 20), (.iload 4, 2, 0, 0), (.iaload, 1, 0, 0), (.bipush 10, 2, 0, 0), (.irem, 1, 0, 0), (.iadd, 1, 0, 0), (.iastore, 1, 0, 0), (.iload_n 2, 1, 0, 0), (.aload_n 0, 1, 0, 0), (.getfield 202, 3, 13, 19)], (.ifnull 21, 3, (0, 0, 0), [25, 23])),
  (164, [(.aload_n 3, 1, 0, 0), (.iload 4, 2, 0, 0), (.iaload, 1, 0, 0), (.aload_n 0, 1, 0, 0), (.getfield 202, 3, 13, 19), (.iload 4, 2, 0, 0), (.iaload, 1, 0, 0)], (.if_icmp .eq 7, 3, (0, 0, 0), [25, 24])),
  (178, [(.iconst 1, 1, 0, 0)], (.goto 4, 3, (0, 0, 0), [26])),
  (182, [(.iconst 0, 1, 0, 0)], (.nop, 0, (0, 0, 0), [26])),
  (183, [(.iadd, 1, 0, 0), (.istore_n 2, 1, 0, 0), (.iinc 4 1, 3, 0, 0)], (.goto (-71), 3, (0, 0, 0), [21])),
  (191, [(.aload_n 0, 1, 0, 0), (.aload_n 3, 1, 0, 0), (.putfield 202, 3, 13, 19), (.iload_n 2, 1, 0, 0)], (.ireturn, 1, (0, 0, 0), []))])
def am_X13_print : ab_M := (8, [], [
  (0, [(.iload_n 1, 1, 0, 0)], (.ifCond .ne 10, 3, (0, 0, 0), [2, 1])),
  (4, [(.aload_n 0, 1, 0, 0), (.getfield 178, 3, 13, 2)], (.goto 19, 3, (0, 0, 0), [5])),
  (11, [(.iload_n 1, 1, 0, 0), (.iconst 1, 1, 0, 0)], (.if_icmp .ne 10, 3, (0, 0, 0), [4, 3])),
  (16, [(.aload_n 0, 1, 0, 0), (.getfield 66, 3, 13, 5)], (.goto 7, 3, (0, 0, 0), [5])),
  (23, [(.aload_n 0, 1, 0, 0), (.getfield 69, 3, 13, 6)], (.nop, 0, (0, 0, 0), [5])),
  (27, [(.istore_n 3, 1, 0, 0), (.aload_n 0, 1, 0, 0), (.iload_n 1, 1, 0, 0), (.iconst 0, 1, 0, 0), (.iconst 2, 1, 0, 0)], (.invokestatic 62, 3, (188, 3, 200), [6])),
  (35, [(.iconst 1, 1, 0, 0)], (.invokevirtual 198, 3, (187, 3, 13), [7])),
  (39, [], (.ifCond .ne 27, 3, (0, 0, 0), [13, 8])),
  (42, [(.aload_n 0, 1, 0, 0), (.iload_n 2, 1, 0, 0), (.iconst 0, 1, 0, 0), (.iload_n 3, 1, 0, 0), (.iconst 1, 1, 0, 0), (.isub, 1, 0, 0)], (.invokestatic 62, 3, (188, 3, 200), [9])),
  (51, [(.iconst 2, 1, 0, 0)], (.invokevirtual 198, 3, (187, 3, 13), [10])),
  (55, [], (.ifCond .ne 11, 3, (0, 0, 0), [13, 11])),
  (58, [(.aload_n 0, 1, 0, 0), (.iconst 3, 1, 0, 0)], (.invokevirtual 234, 3, (234, 2, 13), [12])),
  (63, [], (.ifCond .eq 5, 3, (0, 0, 0), [14, 13])),
  (66, [(.iconst 0, 1, 0, 0)], (.ireturn, 1, (0, 0, 0), [])),
  (68, [(.aload_n 0, 1, 0, 0), (.aload_n 0, 1, 0, 0)], (.invokevirtual 72, 3, (189, 1, 13), [15])),
  (73, [(.aload_n 0, 1, 0, 0), (.getfield 7, 3, 13, 0), (.iadd, 1, 0, 0), (.iconst 1, 1, 0, 0), (.isub, 1, 0, 0), (.newarray .int, 2, 0, 0), (.putfield 53, 3, 13, 21), (.iconst 0, 1, 0, 0), (.istore 4, 2, 0, 0)], (.nop, 0, (0, 0, 0), [16])),
  (88, [(.iload 4, 2, 0, 0), (.aload_n 0, 1, 0, 0)], (.invokevirtual 72, 3, (189, 1, 13), [17])),
  (94, [], (.if_icmp .ge 181, 3, (0, 0, 0), [35, 18])),
  (97, [(.iload 4, 2, 0, 0), (.iload 4, 2, 0, 0), (.aload_n 0, 1, 0, 0), (.getfield 13, 3, 13, 1), (.idiv, 1, 0, 0), (.iadd, 1, 0, 0), (.istore 5, 2, 0, 0), (.aload_n 0, 1, 0, 0), (.getfield 53, 3, 13, 21), (.iload 5, 2, 0, 0), (.bipush 46, 2, 0, 0), (.iastore, 1, 0, 0), (.aload_n 0, 1, 0, 0), (.getfield 59, 3, 13, 8), (.iconst 1, 1, 0, 0), (.isub, 1, 0, 0), (.istore 6, 2, 0, 0)], (.nop, 0, (0, 0, 0), [19])),
  (126, [(.iload 6, 2, 0, 0)], (.ifCond .lt 102, 3, (0, 0, 0), [31, 20])),
  (131, [(.iload_n 1, 1, 0, 0)], (.ifCond .ne 13, 3, (0, 0, 0), [22, 21])),
  (135, [(.aload_n 0, 1, 0, 0), (.getfield 26, 3, 13, 9), (.iload 6, 2, 0, 0), (.iaload, 1, 0, 0)], (.goto 30, 3, (0, 0, 0), [25])),
  (145, [(.iload_n 1, 1, 0, 0), (.iconst 1, 1, 0, 0)], (.if_icmp .ne 13, 3, (0, 0, 0), [24, 23])),
  (150, [(.aload_n 0, 1, 0, 0), (.getfield 29, 3, 13, 10), (.iload 6, 2, 0, 0), (.iaload, 1, 0, 0)], (.goto 15, 3, (0, 0, 0), [25])),
  (160, [(.aload_n 0, 1, 0, 0), (.getfield 202, 3, 13, 19), (.iload 6, 2, 0, 0), (.iaload, 1, 0, 0), (.aload_n 0, 1, 0, 0), (.getfield 69, 3, 13, 6), (.irem, 1, 0, 0)], (.nop, 0, (0, 0, 0), [25])),
  (172, [(.istore 7, 2, 0, 0), (.aload_n 0, 1, 0, 0), (.getfield 53, 3, 13, 21), (.iload 5, 2, 0, 0), (.iload 7, 2, 0, 0), (.iload_n 2, 1, 0, 0)], (.if_icmp .ne 33, 3, (0, 0, 0), [29, 26])),
  (186, [(.aload_n 0, 1, 0, 0), (.iload 6, 2, 0, 0), (.aload_n 0, 1, 0, 0), (.getfield 202, 3, 13, 19), (.iload 6, 2, 0, 0), (.iaload, 1, 0, 0)], (.invokevirtual 85, 3, (196, 3, 13), [27])),
  (199, [(.iload 4, 2, 0, 0), (.ishr, 1, 0, 0), (.iconst 1, 1, 0, 0), (.iand, 1, 0, 0), (.iconst 1, 1, 0, 0)], (.if_icmp .ne 11, 3, (0, 0, 0), [29, 28])),
  (208, [(.bipush 48, 2, 0, 0), (.iload 6, 2, 0, 0), (.iadd, 1, 0, 0)], (.goto 10, 3, (0, 0, 0), [30])),
  (216, [(.aload_n 0, 1, 0, 0), (.getfield 53, 3, 13, 21), (.iload 5, 2, 0, 0), (.iaload, 1, 0, 0)], (.nop, 0, (0, 0, 0), [30])),
  (223, [(.iastore, 1, 0, 0), (.iinc 6 (-1), 3, 0, 0)], (.goto (-101), 3, (0, 0, 0), [19])),
  (230, [(.iload 4, 2, 0, 0), (.aload_n 0, 1, 0, 0), (.getfield 13, 3, 13, 1), (.irem, 1, 0, 0), (.aload_n 0, 1, 0, 0), (.getfield 13, 3, 13, 1), (.iconst 1, 1, 0, 0), (.isub, 1, 0, 0)], (.if_icmp .ne 26, 3, (0, 0, 0), [34, 32])),
  (246, [(.iload 5, 2, 0, 0), (.iconst 1, 1, 0, 0), (.iadd, 1, 0, 0), (.aload_n 0, 1, 0, 0), (.getfield 53, 3, 13, 21), (.arraylength, 1, 0, 0)], (.if_icmp .ge 14, 3, (0, 0, 0), [34, 33])),
  (258, [(.aload_n 0, 1, 0, 0), (.getfield 53, 3, 13, 21), (.iload 5, 2, 0, 0), (.iconst 1, 1, 0, 0), (.iadd, 1, 0, 0), (.bipush 124, 2, 0, 0), (.iastore, 1, 0, 0)], (.nop, 0, (0, 0, 0), [34])),
  (269, [(.iinc 4 1, 3, 0, 0)], (.goto (-184), 3, (0, 0, 0), [16])),
  (275, [(.aload_n 0, 1, 0, 0), (.getfield 53, 3, 13, 21), (.arraylength, 1, 0, 0)], (.ireturn, 1, (0, 0, 0), []))])
def am_X13_outputByte : ab_M := (2, [], [
  (0, [(.aload_n 0, 1, 0, 0), (.iconst 0, 1, 0, 0), (.putfield 56, 3, 13, 22), (.iload_n 1, 1, 0, 0), (.iconst 0, 1, 0, 0), (.aload_n 0, 1, 0, 0), (.getfield 53, 3, 13, 21), (.arraylength, 1, 0, 0), (.iconst 1, 1, 0, 0), (.isub, 1, 0, 0)], (.invokestatic 62, 3, (188, 3, 200), [1])),
  (17, [], (.ifCond .eq 12, 3, (0, 0, 0), [3, 2])),
  (20, [(.aload_n 0, 1, 0, 0), (.getfield 53, 3, 13, 21), (.iload_n 1, 1, 0, 0), (.iaload, 1, 0, 0)], (.goto 4, 3, (0, 0, 0), [4])),
  (29, [(.iconst (-1), 1, 0, 0)], (.nop, 0, (0, 0, 0), [4])),
  (30, [], (.ireturn, 1, (0, 0, 0), []))])
def am_X13_canKeep : ab_M := (4, [], [
  (0, [(.aload_n 0, 1, 0, 0), (.iload_n 1, 1, 0, 0), (.iload_n 2, 1, 0, 0), (.iload_n 3, 1, 0, 0)], (.invokevirtual 157, 3, (174, 4, 12), [1])),
  (7, [(.aload_n 0, 1, 0, 0)], (.invokevirtual 227, 3, (177, 1, 12), [2])),
  (11, [], (.ireturn, 1, (1, 0, 0), []))])
def am_X13_coreOf : ab_M := (7, [], [
  (0, [(.new 149, 3, 12, 0), (.dup, 1, 0, 0), (.aload_n 0, 1, 0, 0)], (.invokespecial 151, 3, (172, 2, 100), [1])),
  (8, [(.astore_n 3, 1, 0, 0), (.aload_n 0, 1, 0, 0)], (.invokevirtual 154, 3, (217, 1, 13), [2])),
  (13, [(.istore 4, 2, 0, 0), (.aload_n 3, 1, 0, 0), (.iload 4, 2, 0, 0), (.iload_n 1, 1, 0, 0), (.iload_n 2, 1, 0, 0)], (.invokestatic 243, 3, (244, 4, 200), [3])),
  (23, [], (.ifCond .eq 5, 3, (0, 0, 0), [5, 4])),
  (26, [(.iconst (-1), 1, 0, 0)], (.ireturn, 1, (0, 0, 0), [])),
  (28, [(.aload_n 0, 1, 0, 0), (.getfield 118, 3, 13, 12), (.iconst 1, 1, 0, 0), (.isub, 1, 0, 0), (.istore 5, 2, 0, 0)], (.nop, 0, (0, 0, 0), [6])),
  (36, [(.iload 5, 2, 0, 0)], (.ifCond .lt 40, 3, (0, 0, 0), [12, 7])),
  (41, [(.iload 4, 2, 0, 0), (.iconst 1, 1, 0, 0), (.iload 5, 2, 0, 0), (.ishl, 1, 0, 0), (.iconst (-1), 1, 0, 0), (.ixor, 1, 0, 0), (.iand, 1, 0, 0), (.istore 6, 2, 0, 0), (.aload_n 3, 1, 0, 0), (.iload 6, 2, 0, 0), (.iload_n 1, 1, 0, 0), (.iload_n 2, 1, 0, 0)], (.invokestatic 243, 3, (244, 4, 200), [8])),
  (60, [], (.ifCond .eq 8, 3, (0, 0, 0), [10, 9])),
  (63, [(.iload 4, 2, 0, 0)], (.goto 5, 3, (0, 0, 0), [11])),
  (68, [(.iload 6, 2, 0, 0)], (.nop, 0, (0, 0, 0), [11])),
  (70, [(.istore 4, 2, 0, 0), (.iinc 5 (-1), 3, 0, 0)], (.goto (-39), 3, (0, 0, 0), [6])),
  (78, [(.iload 4, 2, 0, 0)], (.ireturn, 1, (0, 0, 0), []))])
def am_X13_core : ab_M := (1, [], [
  (0, [(.aload_n 0, 1, 0, 0), (.iconst 0, 1, 0, 0), (.putfield 56, 3, 13, 22), (.aload_n 0, 1, 0, 0), (.iconst (-1), 1, 0, 0), (.iconst 0, 1, 0, 0)], (.invokevirtual 247, 3, (245, 3, 13), [1])),
  (11, [], (.ireturn, 1, (0, 0, 0), []))])
def am_X13_smallest : ab_M := (7, [], [
  (0, [(.new 149, 3, 12, 0), (.dup, 1, 0, 0), (.aload_n 0, 1, 0, 0)], (.invokespecial 151, 3, (172, 2, 100), [1])),
  (8, [(.astore_n 1, 1, 0, 0), (.iconst 1, 1, 0, 0), (.aload_n 0, 1, 0, 0), (.getfield 118, 3, 13, 12), (.ishl, 1, 0, 0), (.newarray .int, 2, 0, 0), (.astore_n 2, 1, 0, 0), (.iconst 0, 1, 0, 0), (.istore_n 3, 1, 0, 0), (.aload_n 1, 1, 0, 0), (.aload_n 0, 1, 0, 0)], (.invokevirtual 154, 3, (217, 1, 13), [2])),
  (25, [(.iconst (-1), 1, 0, 0), (.iconst 0, 1, 0, 0)], (.invokestatic 243, 3, (244, 4, 200), [3])),
  (30, [(.istore 4, 2, 0, 0), (.iconst 0, 1, 0, 0), (.istore 5, 2, 0, 0)], (.nop, 0, (0, 0, 0), [4])),
  (35, [(.iload 5, 2, 0, 0), (.aload_n 0, 1, 0, 0), (.getfield 118, 3, 13, 12)], (.if_icmp .gt 67, 3, (0, 0, 0), [16, 5])),
  (44, [(.iload_n 3, 1, 0, 0)], (.ifCond .ne 63, 3, (0, 0, 0), [16, 6])),
  (48, [(.iload 4, 2, 0, 0)], (.ifCond .ne 58, 3, (0, 0, 0), [16, 7])),
  (53, [(.iconst 0, 1, 0, 0), (.istore 6, 2, 0, 0)], (.nop, 0, (0, 0, 0), [8])),
  (56, [(.iload 6, 2, 0, 0), (.iconst 1, 1, 0, 0), (.aload_n 0, 1, 0, 0), (.getfield 118, 3, 13, 12), (.ishl, 1, 0, 0)], (.if_icmp .ge 38, 3, (0, 0, 0), [15, 9])),
  (67, [(.iload 6, 2, 0, 0)], (.invokestatic 95, 3, (277, 1, 200), [10])),
  (72, [(.iload 5, 2, 0, 0)], (.if_icmp .ne 22, 3, (0, 0, 0), [14, 11])),
  (77, [(.aload_n 1, 1, 0, 0), (.iload 6, 2, 0, 0), (.iconst (-1), 1, 0, 0), (.iconst 0, 1, 0, 0)], (.invokestatic 243, 3, (244, 4, 200), [12])),
  (85, [], (.ifCond .ne 11, 3, (0, 0, 0), [14, 13])),
  (88, [(.aload_n 2, 1, 0, 0), (.iload_n 3, 1, 0, 0), (.iload 6, 2, 0, 0), (.iastore, 1, 0, 0), (.iinc 3 1, 3, 0, 0)], (.nop, 0, (0, 0, 0), [14])),
  (96, [(.iinc 6 1, 3, 0, 0)], (.goto (-43), 3, (0, 0, 0), [8])),
  (102, [(.iinc 5 1, 3, 0, 0)], (.goto (-70), 3, (0, 0, 0), [4])),
  (108, [(.iload_n 3, 1, 0, 0), (.newarray .int, 2, 0, 0), (.astore 5, 2, 0, 0), (.aload_n 2, 1, 0, 0), (.iconst 0, 1, 0, 0), (.aload 5, 2, 0, 0), (.iconst 0, 1, 0, 0), (.iload_n 3, 1, 0, 0), (.invokestatic 168, 3, 0, 0), (.aload 5, 2, 0, 0)], (.areturn, 1, (0, 0, 0), []))])
def am_X13_cores : ab_M := (1, [], [
  (0, [(.aload_n 0, 1, 0, 0), (.iconst 0, 1, 0, 0), (.putfield 56, 3, 13, 22), (.aload_n 0, 1, 0, 0)], (.invokevirtual 250, 3, (247, 1, 13), [1])),
  (9, [(.arraylength, 1, 0, 0)], (.ireturn, 1, (0, 0, 0), []))])
def am_X13_coreAt : ab_M := (3, [], [
  (0, [(.aload_n 0, 1, 0, 0)], (.invokevirtual 250, 3, (247, 1, 13), [1])),
  (4, [(.astore_n 2, 1, 0, 0), (.aload_n 0, 1, 0, 0), (.iload_n 1, 1, 0, 0), (.iconst 0, 1, 0, 0), (.aload_n 2, 1, 0, 0), (.arraylength, 1, 0, 0), (.iconst 1, 1, 0, 0), (.isub, 1, 0, 0)], (.invokestatic 62, 3, (188, 3, 200), [2])),
  (15, [(.iconst 1, 1, 0, 0)], (.invokevirtual 198, 3, (187, 3, 13), [3])),
  (19, [], (.ifCond .eq 7, 3, (0, 0, 0), [5, 4])),
  (22, [(.iconst 0, 1, 0, 0)], (.goto 6, 3, (0, 0, 0), [6])),
  (26, [(.aload_n 2, 1, 0, 0), (.iload_n 1, 1, 0, 0), (.iaload, 1, 0, 0)], (.nop, 0, (0, 0, 0), [6])),
  (29, [], (.ireturn, 1, (0, 0, 0), []))])
def am_X13_isNeeded : ab_M := (3, [], [
  (0, [(.aload_n 0, 1, 0, 0), (.iload_n 1, 1, 0, 0), (.iconst 0, 1, 0, 0), (.aload_n 0, 1, 0, 0), (.getfield 118, 3, 13, 12), (.iconst 1, 1, 0, 0), (.isub, 1, 0, 0)], (.invokestatic 62, 3, (188, 3, 200), [1])),
  (12, [(.iconst 1, 1, 0, 0)], (.invokevirtual 198, 3, (187, 3, 13), [2])),
  (16, [], (.ifCond .eq 5, 3, (0, 0, 0), [4, 3])),
  (19, [(.iconst 0, 1, 0, 0)], (.ireturn, 1, (1, 0, 0), [])),
  (21, [(.new 149, 3, 12, 0), (.dup, 1, 0, 0), (.aload_n 0, 1, 0, 0)], (.invokespecial 151, 3, (172, 2, 100), [5])),
  (29, [(.astore_n 2, 1, 0, 0), (.aload_n 2, 1, 0, 0), (.aload_n 0, 1, 0, 0)], (.invokevirtual 154, 3, (217, 1, 13), [6])),
  (35, [(.iconst (-1), 1, 0, 0), (.iconst 0, 1, 0, 0)], (.invokestatic 243, 3, (244, 4, 200), [7])),
  (40, [], (.ifCond .ne 26, 3, (0, 0, 0), [12, 8])),
  (43, [(.aload_n 2, 1, 0, 0), (.aload_n 0, 1, 0, 0)], (.invokevirtual 154, 3, (217, 1, 13), [9])),
  (48, [(.iconst 1, 1, 0, 0), (.iload_n 1, 1, 0, 0), (.ishl, 1, 0, 0), (.iconst (-1), 1, 0, 0), (.ixor, 1, 0, 0), (.iand, 1, 0, 0), (.iconst (-1), 1, 0, 0), (.iconst 0, 1, 0, 0)], (.invokestatic 243, 3, (244, 4, 200), [10])),
  (59, [], (.ifCond .eq 7, 3, (0, 0, 0), [12, 11])),
  (62, [(.iconst 1, 1, 0, 0)], (.goto 4, 3, (0, 0, 0), [13])),
  (66, [(.iconst 0, 1, 0, 0)], (.nop, 0, (0, 0, 0), [13])),
  (67, [], (.ireturn, 1, (1, 0, 0), []))])
def am_X13_isThere : ab_M := (3, [], [
  (0, [(.aload_n 0, 1, 0, 0), (.iload_n 1, 1, 0, 0), (.aload_n 0, 1, 0, 0), (.getfield 202, 3, 13, 19), (.iload_n 1, 1, 0, 0), (.iaload, 1, 0, 0)], (.invokevirtual 85, 3, (196, 3, 13), [1])),
  (11, [(.iload_n 2, 1, 0, 0), (.ishr, 1, 0, 0), (.iconst 1, 1, 0, 0), (.iand, 1, 0, 0), (.iconst 1, 1, 0, 0)], (.if_icmp .ne 7, 3, (0, 0, 0), [3, 2])),
  (19, [(.iconst 1, 1, 0, 0)], (.goto 4, 3, (0, 0, 0), [4])),
  (23, [(.iconst 0, 1, 0, 0)], (.nop, 0, (0, 0, 0), [4])),
  (24, [], (.ireturn, 1, (1, 0, 0), []))])
def am_X13_matches : ab_M := (6, [], [
  (0, [(.iload_n 2, 1, 0, 0), (.aload_n 0, 1, 0, 0), (.getfield 69, 3, 13, 6)], (.if_icmp .ne 5, 3, (0, 0, 0), [2, 1])),
  (8, [(.iconst 0, 1, 0, 0)], (.ireturn, 1, (0, 0, 0), [])),
  (10, [(.aload_n 0, 1, 0, 0), (.iload_n 1, 1, 0, 0), (.iload_n 2, 1, 0, 0), (.iconst 1, 1, 0, 0), (.iadd, 1, 0, 0), (.iload_n 3, 1, 0, 0)], (.invokevirtual 253, 3, (252, 4, 13), [3])),
  (19, [(.istore 4, 2, 0, 0), (.iconst 0, 1, 0, 0), (.istore 5, 2, 0, 0)], (.nop, 0, (0, 0, 0), [4])),
  (24, [(.iload 5, 2, 0, 0), (.aload_n 0, 1, 0, 0), (.getfield 59, 3, 13, 8)], (.if_icmp .ge 72, 3, (0, 0, 0), [12, 5])),
  (33, [(.aload_n 0, 1, 0, 0), (.iload 5, 2, 0, 0), (.iload_n 1, 1, 0, 0)], (.invokevirtual 256, 3, (251, 3, 13), [6])),
  (40, [], (.ifCond .eq 56, 3, (0, 0, 0), [11, 7])),
  (43, [(.iload_n 3, 1, 0, 0), (.iload 5, 2, 0, 0), (.ishr, 1, 0, 0), (.iconst 1, 1, 0, 0), (.iand, 1, 0, 0)], (.ifCond .ne 47, 3, (0, 0, 0), [11, 8])),
  (52, [(.aload_n 0, 1, 0, 0), (.getfield 23, 3, 13, 7), (.iload_n 2, 1, 0, 0), (.iaload, 1, 0, 0), (.aload_n 0, 1, 0, 0), (.getfield 16, 3, 13, 3), (.aload_n 0, 1, 0, 0), (.getfield 26, 3, 13, 9), (.iload 5, 2, 0, 0), (.iaload, 1, 0, 0), (.iaload, 1, 0, 0)], (.if_icmp .lt 26, 3, (0, 0, 0), [11, 9])),
  (73, [(.iload 4, 2, 0, 0), (.iconst 1, 1, 0, 0), (.aload_n 0, 1, 0, 0), (.iload_n 1, 1, 0, 0), (.iload_n 2, 1, 0, 0), (.iconst 1, 1, 0, 0), (.iadd, 1, 0, 0), (.iload_n 3, 1, 0, 0), (.iconst 1, 1, 0, 0), (.iload 5, 2, 0, 0), (.ishl, 1, 0, 0), (.ior, 1, 0, 0)], (.invokevirtual 253, 3, (252, 4, 13), [10])),
  (90, [(.iadd, 1, 0, 0), (.invokestatic 259, 3, 1, 0), (.istore 4, 2, 0, 0)], (.nop, 0, (0, 0, 0), [11])),
  (96, [(.iinc 5 1, 3, 0, 0)], (.goto (-75), 3, (0, 0, 0), [4])),
  (102, [(.iload 4, 2, 0, 0)], (.ireturn, 1, (0, 0, 0), []))])
def am_X13_matched : ab_M := (2, [], [
  (0, [(.aload_n 0, 1, 0, 0), (.aload_n 0, 1, 0, 0), (.iload_n 1, 1, 0, 0)], (.invokevirtual 214, 3, (193, 2, 13), [1])),
  (6, [(.iconst 1, 1, 0, 0)], (.invokevirtual 198, 3, (187, 3, 13), [2])),
  (10, [], (.ifCond .ne 11, 3, (0, 0, 0), [5, 3])),
  (13, [(.aload_n 0, 1, 0, 0), (.iconst 2, 1, 0, 0)], (.invokevirtual 234, 3, (234, 2, 13), [4])),
  (18, [], (.ifCond .eq 7, 3, (0, 0, 0), [6, 5])),
  (21, [(.iconst 0, 1, 0, 0)], (.goto 10, 3, (0, 0, 0), [7])),
  (25, [(.aload_n 0, 1, 0, 0), (.iload_n 1, 1, 0, 0), (.iconst 0, 1, 0, 0), (.iconst 0, 1, 0, 0)], (.invokevirtual 253, 3, (252, 4, 13), [7])),
  (32, [], (.ireturn, 1, (0, 0, 0), []))])
def am_X13_unfit : ab_M := (8, [], [
  (0, [(.aload_n 0, 1, 0, 0), (.aload_n 0, 1, 0, 0), (.iload_n 1, 1, 0, 0)], (.invokevirtual 214, 3, (193, 2, 13), [1])),
  (6, [(.iconst 1, 1, 0, 0)], (.invokevirtual 198, 3, (187, 3, 13), [2])),
  (10, [], (.ifCond .ne 11, 3, (0, 0, 0), [5, 3])),
  (13, [(.aload_n 0, 1, 0, 0), (.iconst 2, 1, 0, 0)], (.invokevirtual 234, 3, (234, 2, 13), [4])),
  (18, [], (.ifCond .eq 5, 3, (0, 0, 0), [6, 5])),
  (21, [(.iconst 0, 1, 0, 0)], (.ireturn, 1, (0, 0, 0), [])),
  (23, [(.iconst 0, 1, 0, 0), (.istore_n 2, 1, 0, 0), (.iconst 1, 1, 0, 0), (.istore_n 3, 1, 0, 0)], (.nop, 0, (0, 0, 0), [7])),
  (27, [(.iload_n 3, 1, 0, 0), (.iconst 1, 1, 0, 0), (.aload_n 0, 1, 0, 0), (.getfield 59, 3, 13, 8), (.ishl, 1, 0, 0)], (.if_icmp .ge 165, 3, (0, 0, 0), [33, 8])),
  (37, [(.iconst 1, 1, 0, 0), (.istore 4, 2, 0, 0), (.bipush 100, 2, 0, 0), (.istore 5, 2, 0, 0), (.iconst 0, 1, 0, 0), (.istore 6, 2, 0, 0)], (.nop, 0, (0, 0, 0), [9])),
  (47, [(.iload 6, 2, 0, 0), (.aload_n 0, 1, 0, 0), (.getfield 59, 3, 13, 8)], (.if_icmp .ge 60, 3, (0, 0, 0), [18, 10])),
  (56, [(.iload_n 3, 1, 0, 0), (.iload 6, 2, 0, 0), (.ishr, 1, 0, 0), (.iconst 1, 1, 0, 0), (.iand, 1, 0, 0), (.iconst 1, 1, 0, 0)], (.if_icmp .ne 44, 3, (0, 0, 0), [17, 11])),
  (66, [(.iload 4, 2, 0, 0)], (.ifCond .eq 17, 3, (0, 0, 0), [15, 12])),
  (71, [(.aload_n 0, 1, 0, 0), (.iload 6, 2, 0, 0), (.iload_n 1, 1, 0, 0)], (.invokevirtual 256, 3, (251, 3, 13), [13])),
  (78, [], (.ifCond .eq 7, 3, (0, 0, 0), [15, 14])),
  (81, [(.iconst 1, 1, 0, 0)], (.goto 4, 3, (0, 0, 0), [16])),
  (85, [(.iconst 0, 1, 0, 0)], (.nop, 0, (0, 0, 0), [16])),
  (86, [(.istore 4, 2, 0, 0), (.iload 5, 2, 0, 0), (.aload_n 0, 1, 0, 0), (.getfield 16, 3, 13, 3), (.aload_n 0, 1, 0, 0), (.getfield 26, 3, 13, 9), (.iload 6, 2, 0, 0), (.iaload, 1, 0, 0), (.iaload, 1, 0, 0), (.invokestatic 76, 3, 2, 0), (.istore 5, 2, 0, 0)], (.nop, 0, (0, 0, 0), [17])),
  (107, [(.iinc 6 1, 3, 0, 0)], (.goto (-63), 3, (0, 0, 0), [9])),
  (113, [(.iconst 0, 1, 0, 0), (.istore 6, 2, 0, 0), (.iconst 0, 1, 0, 0), (.istore 7, 2, 0, 0)], (.nop, 0, (0, 0, 0), [19])),
  (119, [(.iload 7, 2, 0, 0), (.aload_n 0, 1, 0, 0), (.getfield 69, 3, 13, 6)], (.if_icmp .ge 31, 3, (0, 0, 0), [24, 20])),
  (128, [(.iload 6, 2, 0, 0), (.aload_n 0, 1, 0, 0), (.getfield 23, 3, 13, 7), (.iload 7, 2, 0, 0), (.iaload, 1, 0, 0), (.iload 5, 2, 0, 0)], (.if_icmp .lt 7, 3, (0, 0, 0), [22, 21])),
  (142, [(.iconst 1, 1, 0, 0)], (.goto 4, 3, (0, 0, 0), [23])),
  (146, [(.iconst 0, 1, 0, 0)], (.nop, 0, (0, 0, 0), [23])),
  (147, [(.iadd, 1, 0, 0), (.istore 6, 2, 0, 0), (.iinc 7 1, 3, 0, 0)], (.goto (-34), 3, (0, 0, 0), [19])),
  (156, [(.iload_n 3, 1, 0, 0)], (.invokestatic 95, 3, (277, 1, 200), [25])),
  (160, [(.istore 7, 2, 0, 0), (.iload 4, 2, 0, 0)], (.ifCond .eq 27, 3, (0, 0, 0), [31, 26])),
  (167, [(.iload 7, 2, 0, 0), (.iload 6, 2, 0, 0)], (.if_icmp .le 20, 3, (0, 0, 0), [31, 27])),
  (174, [(.iload_n 2, 1, 0, 0)], (.ifCond .eq 12, 3, (0, 0, 0), [30, 28])),
  (178, [(.iload 7, 2, 0, 0), (.iload_n 2, 1, 0, 0)], (.invokestatic 95, 3, (277, 1, 200), [29])),
  (184, [], (.if_icmp .ge 7, 3, (0, 0, 0), [31, 30])),
  (187, [(.iload_n 3, 1, 0, 0)], (.goto 4, 3, (0, 0, 0), [32])),
  (191, [(.iload_n 2, 1, 0, 0)], (.nop, 0, (0, 0, 0), [32])),
  (192, [(.istore_n 2, 1, 0, 0), (.iinc 3 1, 3, 0, 0)], (.goto (-169), 3, (0, 0, 0), [7])),
  (199, [(.iload_n 2, 1, 0, 0)], (.ireturn, 1, (0, 0, 0), []))])
def am_X13_setWeights : ab_M := (5, [], [
  (0, [(.aload_n 0, 1, 0, 0), (.iload_n 1, 1, 0, 0), (.iconst 0, 1, 0, 0), (.bipush 9, 2, 0, 0)], (.invokestatic 62, 3, (188, 3, 200), [1])),
  (8, [], (.ifCond .eq 27, 3, (0, 0, 0), [7, 2])),
  (11, [(.iload_n 2, 1, 0, 0), (.iconst 0, 1, 0, 0), (.bipush 9, 2, 0, 0)], (.invokestatic 62, 3, (188, 3, 200), [3])),
  (18, [], (.ifCond .eq 17, 3, (0, 0, 0), [7, 4])),
  (21, [(.iload_n 3, 1, 0, 0), (.iconst 0, 1, 0, 0), (.bipush 9, 2, 0, 0)], (.invokestatic 62, 3, (188, 3, 200), [5])),
  (28, [], (.ifCond .eq 7, 3, (0, 0, 0), [7, 6])),
  (31, [(.iconst 1, 1, 0, 0)], (.goto 4, 3, (0, 0, 0), [8])),
  (35, [(.iconst 0, 1, 0, 0)], (.nop, 0, (0, 0, 0), [8])),
  (36, [(.iconst 1, 1, 0, 0)], (.invokevirtual 198, 3, (187, 3, 13), [9])),
  (40, [], (.ifCond .eq 5, 3, (0, 0, 0), [11, 10])),
  (43, [(.iconst 0, 1, 0, 0)], (.ireturn, 1, (0, 0, 0), [])),
  (45, [(.aload_n 0, 1, 0, 0), (.getfield 44, 3, 13, 16), (.istore 4, 2, 0, 0), (.aload_n 0, 1, 0, 0), (.iload_n 1, 1, 0, 0), (.putfield 44, 3, 13, 16), (.aload_n 0, 1, 0, 0), (.iload_n 2, 1, 0, 0), (.putfield 47, 3, 13, 17), (.aload_n 0, 1, 0, 0), (.iload_n 3, 1, 0, 0), (.putfield 50, 3, 13, 18), (.iload 4, 2, 0, 0)], (.ireturn, 1, (0, 0, 0), []))])
def am_X13_weight : ab_M := (1, [], [
  (0, [(.aload_n 0, 1, 0, 0), (.iconst 1, 1, 0, 0)], (.invokevirtual 234, 3, (234, 2, 13), [1])),
  (5, [], (.ifCond .eq 7, 3, (0, 0, 0), [3, 2])),
  (8, [(.iconst 0, 1, 0, 0)], (.goto 11, 3, (0, 0, 0), [4])),
  (12, [(.aload_n 0, 1, 0, 0), (.aload_n 0, 1, 0, 0), (.getfield 202, 3, 13, 19)], (.invokevirtual 262, 3, (212, 2, 13), [4])),
  (20, [], (.ireturn, 1, (0, 0, 0), []))])
def am_X13_best : ab_M := (2, [], [
  (0, [(.aload_n 0, 1, 0, 0), (.iconst 0, 1, 0, 0), (.putfield 56, 3, 13, 22), (.aload_n 0, 1, 0, 0)], (.invokevirtual 161, 3, (218, 1, 13), [1])),
  (9, [(.astore_n 1, 1, 0, 0), (.aload_n 1, 1, 0, 0), (.iconst 0, 1, 0, 0), (.iconst 0, 1, 0, 0)], (.invokevirtual 265, 3, (183, 3, 12), [2])),
  (16, [(.aload_n 1, 1, 0, 0), (.getfield 269, 3, 12, 9)], (.ifnonnull 5, 3, (0, 0, 0), [4, 3])),
  (23, [(.iconst (-1), 1, 0, 0)], (.ireturn, 1, (0, 0, 0), [])),
  (25, [(.aload_n 0, 1, 0, 0), (.aload_n 1, 1, 0, 0), (.getfield 269, 3, 12, 9), (.putfield 202, 3, 13, 19), (.aload_n 1, 1, 0, 0), (.getfield 272, 3, 12, 10)], (.ireturn, 1, (0, 0, 0), []))])
def am_X13_bound : ab_M := (4, [], [
  (0, [(.aload_n 0, 1, 0, 0), (.iconst 0, 1, 0, 0), (.putfield 56, 3, 13, 22), (.aload_n 0, 1, 0, 0)], (.invokevirtual 220, 3, (219, 1, 13), [1])),
  (9, [(.astore_n 1, 1, 0, 0), (.iconst 0, 1, 0, 0), (.istore_n 2, 1, 0, 0), (.iconst 0, 1, 0, 0), (.istore_n 3, 1, 0, 0)], (.nop, 0, (0, 0, 0), [2])),
  (14, [(.iload_n 3, 1, 0, 0), (.aload_n 0, 1, 0, 0), (.getfield 59, 3, 13, 8)], (.if_icmp .ge 28, 3, (0, 0, 0), [7, 3])),
  (22, [(.aload_n 1, 1, 0, 0), (.iload_n 3, 1, 0, 0), (.iaload, 1, 0, 0)], (.ifCond .ne 5, 3, (0, 0, 0), [5, 4])),
  (28, [(.iconst (-1), 1, 0, 0)], (.ireturn, 1, (0, 0, 0), [])),
  (30, [(.iload_n 2, 1, 0, 0), (.aload_n 0, 1, 0, 0), (.iload_n 3, 1, 0, 0), (.aload_n 1, 1, 0, 0), (.iload_n 3, 1, 0, 0), (.iaload, 1, 0, 0)], (.invokevirtual 275, 3, (213, 3, 13), [6])),
  (39, [(.iadd, 1, 0, 0), (.istore_n 2, 1, 0, 0), (.iinc 3 1, 3, 0, 0)], (.goto (-30), 3, (0, 0, 0), [2])),
  (47, [(.iload_n 2, 1, 0, 0)], (.ireturn, 1, (0, 0, 0), []))])
def am_X13_rings : ab_M := (7, [], [
  (0, [(.iload_n 2, 1, 0, 0), (.iload_n 3, 1, 0, 0)], (.if_icmp .ne 100, 3, (0, 0, 0), [10, 1])),
  (5, [(.aload_n 0, 1, 0, 0), (.getfield 59, 3, 13, 8), (.newarray .int, 2, 0, 0), (.astore 4, 2, 0, 0), (.aload_n 0, 1, 0, 0), (.getfield 202, 3, 13, 19), (.iconst 0, 1, 0, 0), (.aload 4, 2, 0, 0), (.iconst 0, 1, 0, 0), (.aload_n 0, 1, 0, 0), (.getfield 59, 3, 13, 8), (.invokestatic 168, 3, 0, 0), (.iconst 0, 1, 0, 0), (.istore 5, 2, 0, 0)], (.nop, 0, (0, 0, 0), [2])),
  (31, [(.iload 5, 2, 0, 0), (.iload_n 3, 1, 0, 0)], (.if_icmp .ge 29, 3, (0, 0, 0), [4, 3])),
  (37, [(.aload 4, 2, 0, 0), (.aload_n 1, 1, 0, 0), (.iload 5, 2, 0, 0), (.iaload, 1, 0, 0), (.aload_n 0, 1, 0, 0), (.getfield 202, 3, 13, 19), (.aload_n 1, 1, 0, 0), (.iload 5, 2, 0, 0), (.iconst 1, 1, 0, 0), (.iadd, 1, 0, 0), (.iload_n 3, 1, 0, 0), (.irem, 1, 0, 0), (.iaload, 1, 0, 0), (.iaload, 1, 0, 0), (.iastore, 1, 0, 0), (.iinc 5 1, 3, 0, 0)], (.goto (-29), 3, (0, 0, 0), [2])),
  (63, [(.aload_n 0, 1, 0, 0), (.aload 4, 2, 0, 0)], (.invokevirtual 262, 3, (212, 2, 13), [5])),
  (69, [(.istore 5, 2, 0, 0), (.iload 5, 2, 0, 0), (.aload_n 0, 1, 0, 0), (.getfield 278, 3, 13, 24)], (.if_icmp .ge 24, 3, (0, 0, 0), [9, 6])),
  (80, [(.aload_n 0, 1, 0, 0), (.aload 4, 2, 0, 0)], (.invokevirtual 281, 3, (210, 2, 13), [7])),
  (86, [], (.ifCond .eq 15, 3, (0, 0, 0), [9, 8])),
  (89, [(.aload_n 0, 1, 0, 0), (.aload 4, 2, 0, 0), (.putfield 285, 3, 13, 23), (.aload_n 0, 1, 0, 0), (.iload 5, 2, 0, 0), (.putfield 278, 3, 13, 24)], (.nop, 0, (0, 0, 0), [9])),
  (101, [], (.return_, 1, (0, 0, 0), [])),
  (102, [(.iload_n 2, 1, 0, 0)], (.ifCond .ne 7, 3, (0, 0, 0), [12, 11])),
  (106, [(.iconst 0, 1, 0, 0)], (.goto 8, 3, (0, 0, 0), [13])),
  (110, [(.aload_n 1, 1, 0, 0), (.iconst 0, 1, 0, 0), (.iaload, 1, 0, 0), (.iconst 1, 1, 0, 0), (.iadd, 1, 0, 0)], (.nop, 0, (0, 0, 0), [13])),
  (115, [(.istore 4, 2, 0, 0)], (.nop, 0, (0, 0, 0), [14])),
  (117, [(.iload 4, 2, 0, 0), (.aload_n 0, 1, 0, 0), (.getfield 59, 3, 13, 8)], (.if_icmp .ge 93, 3, (0, 0, 0), [29, 15])),
  (126, [(.iload_n 2, 1, 0, 0)], (.ifCond .eq 21, 3, (0, 0, 0), [17, 16])),
  (130, [(.aload_n 0, 1, 0, 0), (.getfield 32, 3, 13, 11), (.iload 4, 2, 0, 0), (.iaload, 1, 0, 0), (.aload_n 0, 1, 0, 0), (.getfield 32, 3, 13, 11), (.aload_n 1, 1, 0, 0), (.iconst 0, 1, 0, 0), (.iaload, 1, 0, 0), (.iaload, 1, 0, 0)], (.if_icmp .ne 7, 3, (0, 0, 0), [18, 17])),
  (148, [(.iconst 1, 1, 0, 0)], (.goto 4, 3, (0, 0, 0), [19])),
  (152, [(.iconst 0, 1, 0, 0)], (.nop, 0, (0, 0, 0), [19])),
  (153, [(.istore 5, 2, 0, 0), (.iconst 0, 1, 0, 0), (.istore 6, 2, 0, 0)], (.nop, 0, (0, 0, 0), [20])),
  (158, [(.iload 6, 2, 0, 0), (.iload_n 2, 1, 0, 0)], (.if_icmp .ge 30, 3, (0, 0, 0), [26, 21])),
  (164, [(.iload 5, 2, 0, 0)], (.ifCond .eq 16, 3, (0, 0, 0), [24, 22])),
  (169, [(.aload_n 1, 1, 0, 0), (.iload 6, 2, 0, 0), (.iaload, 1, 0, 0), (.iload 4, 2, 0, 0)], (.if_icmp .eq 7, 3, (0, 0, 0), [24, 23])),
  (178, [(.iconst 1, 1, 0, 0)], (.goto 4, 3, (0, 0, 0), [25])),
  (182, [(.iconst 0, 1, 0, 0)], (.nop, 0, (0, 0, 0), [25])),
  (183, [(.istore 5, 2, 0, 0), (.iinc 6 1, 3, 0, 0)], (.goto (-30), 3, (0, 0, 0), [20])),
  (191, [(.iload 5, 2, 0, 0)], (.ifCond .eq 17, 3, (0, 0, 0), [28, 27])),
  (196, [(.aload_n 1, 1, 0, 0), (.iload_n 2, 1, 0, 0), (.iload 4, 2, 0, 0), (.iastore, 1, 0, 0), (.aload_n 0, 1, 0, 0), (.aload_n 1, 1, 0, 0), (.iload_n 2, 1, 0, 0), (.iconst 1, 1, 0, 0), (.iadd, 1, 0, 0), (.iload_n 3, 1, 0, 0)], (.invokevirtual 288, 3, (259, 4, 13), [28])),
  (210, [(.iinc 4 1, 3, 0, 0)], (.goto (-96), 3, (0, 0, 0), [14])),
  (216, [], (.return_, 1, (0, 0, 0), []))])
def am_X13_improve : ab_M := (3, [], [
  (0, [(.aload_n 0, 1, 0, 0), (.aload_n 0, 1, 0, 0), (.getfield 202, 3, 13, 19)], (.ifnull 18, 3, (0, 0, 0), [4, 1])),
  (8, [(.aload_n 0, 1, 0, 0), (.aload_n 0, 1, 0, 0), (.getfield 202, 3, 13, 19)], (.invokevirtual 281, 3, (210, 2, 13), [2])),
  (16, [], (.ifCond .eq 7, 3, (0, 0, 0), [4, 3])),
  (19, [(.iconst 1, 1, 0, 0)], (.goto 4, 3, (0, 0, 0), [5])),
  (23, [(.iconst 0, 1, 0, 0)], (.nop, 0, (0, 0, 0), [5])),
  (24, [(.iconst 1, 1, 0, 0)], (.invokevirtual 198, 3, (187, 3, 13), [6])),
  (28, [], (.ifCond .eq 5, 3, (0, 0, 0), [8, 7])),
  (31, [(.iconst 0, 1, 0, 0)], (.ireturn, 1, (0, 0, 0), [])),
  (33, [(.aload_n 0, 1, 0, 0), (.aload_n 0, 1, 0, 0), (.getfield 202, 3, 13, 19)], (.invokevirtual 262, 3, (212, 2, 13), [9])),
  (41, [(.istore_n 1, 1, 0, 0), (.aload_n 0, 1, 0, 0), (.aload_n 0, 1, 0, 0), (.getfield 202, 3, 13, 19), (.putfield 285, 3, 13, 23), (.aload_n 0, 1, 0, 0), (.iload_n 1, 1, 0, 0), (.putfield 278, 3, 13, 24), (.iconst 2, 1, 0, 0), (.istore_n 2, 1, 0, 0)], (.nop, 0, (0, 0, 0), [10])),
  (57, [(.iload_n 2, 1, 0, 0), (.iconst 4, 1, 0, 0)], (.if_icmp .gt 18, 3, (0, 0, 0), [13, 11])),
  (62, [(.aload_n 0, 1, 0, 0), (.iload_n 2, 1, 0, 0), (.newarray .int, 2, 0, 0), (.iconst 0, 1, 0, 0), (.iload_n 2, 1, 0, 0)], (.invokevirtual 288, 3, (259, 4, 13), [12])),
  (71, [(.iinc 2 1, 3, 0, 0)], (.goto (-17), 3, (0, 0, 0), [10])),
  (77, [(.aload_n 0, 1, 0, 0), (.aload_n 0, 1, 0, 0), (.getfield 285, 3, 13, 23), (.putfield 202, 3, 13, 19), (.iload_n 1, 1, 0, 0), (.aload_n 0, 1, 0, 0), (.getfield 278, 3, 13, 24), (.isub, 1, 0, 0)], (.ireturn, 1, (0, 0, 0), []))])
def am_X13_noWish : ab_M := (3, [], [
  (0, [(.aload_n 0, 1, 0, 0), (.aload_n 0, 1, 0, 0), (.iload_n 1, 1, 0, 0)], (.invokevirtual 208, 3, (191, 2, 13), [1])),
  (6, [], (.ifCond .eq 21, 3, (0, 0, 0), [5, 2])),
  (9, [(.iload_n 2, 1, 0, 0), (.iconst 0, 1, 0, 0), (.aload_n 0, 1, 0, 0), (.getfield 7, 3, 13, 0), (.iconst 1, 1, 0, 0), (.isub, 1, 0, 0)], (.invokestatic 62, 3, (188, 3, 200), [3])),
  (20, [], (.ifCond .eq 7, 3, (0, 0, 0), [5, 4])),
  (23, [(.iconst 1, 1, 0, 0)], (.goto 4, 3, (0, 0, 0), [6])),
  (27, [(.iconst 0, 1, 0, 0)], (.nop, 0, (0, 0, 0), [6])),
  (28, [(.iconst 1, 1, 0, 0)], (.invokevirtual 198, 3, (187, 3, 13), [7])),
  (32, [], (.ireturn, 1, (1, 0, 0), []))])
def am_X13_away : ab_M := (5, [], [
  (0, [(.aload_n 0, 1, 0, 0), (.iload_n 1, 1, 0, 0), (.iload_n 2, 1, 0, 0)], (.invokevirtual 292, 3, (261, 3, 13), [1])),
  (6, [], (.ifCond .ne 11, 3, (0, 0, 0), [4, 2])),
  (9, [(.aload_n 0, 1, 0, 0), (.iconst 2, 1, 0, 0)], (.invokevirtual 234, 3, (234, 2, 13), [3])),
  (14, [], (.ifCond .eq 5, 3, (0, 0, 0), [5, 4])),
  (17, [(.iconst 0, 1, 0, 0)], (.ireturn, 1, (0, 0, 0), [])),
  (19, [(.new 149, 3, 12, 0), (.dup, 1, 0, 0), (.aload_n 0, 1, 0, 0)], (.invokespecial 151, 3, (172, 2, 100), [6])),
  (27, [(.astore_n 3, 1, 0, 0), (.aload_n 3, 1, 0, 0), (.aload_n 0, 1, 0, 0)], (.invokevirtual 154, 3, (217, 1, 13), [7])),
  (33, [(.iload_n 1, 1, 0, 0), (.iload_n 2, 1, 0, 0)], (.invokevirtual 157, 3, (174, 4, 12), [8])),
  (38, [(.iconst 0, 1, 0, 0), (.istore 4, 2, 0, 0)], (.nop, 0, (0, 0, 0), [9])),
  (41, [(.iload 4, 2, 0, 0), (.aload_n 0, 1, 0, 0), (.getfield 59, 3, 13, 8)], (.if_icmp .gt 34, 3, (0, 0, 0), [15, 10])),
  (50, [(.aload_n 3, 1, 0, 0), (.iconst 0, 1, 0, 0), (.aload_n 0, 1, 0, 0), (.getfield 202, 3, 13, 19), (.iload 4, 2, 0, 0)], (.invokevirtual 295, 3, (180, 4, 12), [11])),
  (61, [], (.ifCond .eq 14, 3, (0, 0, 0), [14, 12])),
  (64, [(.aload_n 0, 1, 0, 0), (.aload_n 3, 1, 0, 0)], (.invokevirtual 231, 3, (181, 1, 62), [13])),
  (69, [(.putfield 202, 3, 13, 19), (.iload 4, 2, 0, 0)], (.ireturn, 1, (0, 0, 0), [])),
  (75, [(.iinc 4 1, 3, 0, 0)], (.goto (-37), 3, (0, 0, 0), [9])),
  (81, [(.iconst (-1), 1, 0, 0)], (.ireturn, 1, (0, 0, 0), []))])
def am_X13_against : ab_M := (3, [], [
  (0, [(.aload_n 0, 1, 0, 0), (.iload_n 1, 1, 0, 0), (.iload_n 2, 1, 0, 0)], (.invokevirtual 292, 3, (261, 3, 13), [1])),
  (6, [], (.ifCond .eq 7, 3, (0, 0, 0), [3, 2])),
  (9, [(.iconst 0, 1, 0, 0)], (.goto 9, 3, (0, 0, 0), [4])),
  (13, [(.aload_n 0, 1, 0, 0), (.iload_n 1, 1, 0, 0), (.iload_n 2, 1, 0, 0)], (.invokevirtual 247, 3, (245, 3, 13), [4])),
  (19, [], (.ireturn, 1, (0, 0, 0), []))])
def am_X13_fairest : ab_M := (2, [], [
  (0, [(.aload_n 0, 1, 0, 0), (.iconst 0, 1, 0, 0), (.putfield 56, 3, 13, 22), (.aload_n 0, 1, 0, 0)], (.invokevirtual 161, 3, (218, 1, 13), [1])),
  (9, [(.astore_n 1, 1, 0, 0), (.aload_n 1, 1, 0, 0), (.iconst 0, 1, 0, 0)], (.invokevirtual 299, 3, (184, 2, 12), [2])),
  (15, [(.aload_n 0, 1, 0, 0), (.aload_n 1, 1, 0, 0), (.getfield 269, 3, 12, 9)], (.ifnonnull 10, 3, (0, 0, 0), [4, 3])),
  (23, [(.aload_n 0, 1, 0, 0), (.getfield 202, 3, 13, 19)], (.goto 7, 3, (0, 0, 0), [5])),
  (30, [(.aload_n 1, 1, 0, 0), (.getfield 269, 3, 12, 9)], (.nop, 0, (0, 0, 0), [5])),
  (34, [(.putfield 202, 3, 13, 19), (.aload_n 1, 1, 0, 0), (.getfield 269, 3, 12, 9)], (.ifnull 7, 3, (0, 0, 0), [7, 6])),
  (44, [(.iconst 1, 1, 0, 0)], (.goto 4, 3, (0, 0, 0), [8])),
  (48, [(.iconst 0, 1, 0, 0)], (.nop, 0, (0, 0, 0), [8])),
  (49, [], (.ireturn, 1, (1, 0, 0), []))])
def am_X13_share : ab_M := (2, [], [
  (0, [(.aload_n 0, 1, 0, 0), (.aload_n 0, 1, 0, 0), (.iload_n 1, 1, 0, 0)], (.invokevirtual 208, 3, (191, 2, 13), [1])),
  (6, [(.iconst 1, 1, 0, 0)], (.invokevirtual 198, 3, (187, 3, 13), [2])),
  (10, [], (.ifCond .ne 11, 3, (0, 0, 0), [5, 3])),
  (13, [(.aload_n 0, 1, 0, 0), (.iconst 2, 1, 0, 0)], (.invokevirtual 234, 3, (234, 2, 13), [4])),
  (18, [], (.ifCond .eq 7, 3, (0, 0, 0), [6, 5])),
  (21, [(.iconst 0, 1, 0, 0)], (.goto 16, 3, (0, 0, 0), [7])),
  (25, [(.aload_n 0, 1, 0, 0), (.iload_n 1, 1, 0, 0), (.aload_n 0, 1, 0, 0), (.getfield 202, 3, 13, 19), (.aload_n 0, 1, 0, 0), (.getfield 59, 3, 13, 8)], (.invokevirtual 146, 3, (214, 4, 13), [7])),
  (38, [], (.ireturn, 1, (0, 0, 0), []))])
def am_X13_putsOn : ab_M := (9, [], [
  (0, [(.iload_n 2, 1, 0, 0), (.aload_n 0, 1, 0, 0), (.getfield 59, 3, 13, 8)], (.if_icmp .ne 5, 3, (0, 0, 0), [2, 1])),
  (8, [(.iconst 1, 1, 0, 0)], (.ireturn, 1, (1, 0, 0), [])),
  (10, [(.iload_n 1, 1, 0, 0), (.iload_n 2, 1, 0, 0), (.ishr, 1, 0, 0), (.iconst 1, 1, 0, 0), (.iand, 1, 0, 0)], (.ifCond .ne 15, 3, (0, 0, 0), [5, 3])),
  (18, [(.aload_n 0, 1, 0, 0), (.iload_n 1, 1, 0, 0), (.iload_n 2, 1, 0, 0), (.iconst 1, 1, 0, 0), (.iadd, 1, 0, 0), (.iload_n 3, 1, 0, 0), (.aload 4, 2, 0, 0)], (.invokevirtual 303, 3, (266, 5, 13), [4])),
  (29, [], (.ireturn, 1, (1, 0, 0), [])),
  (30, [(.iconst 0, 1, 0, 0), (.istore 5, 2, 0, 0)], (.nop, 0, (0, 0, 0), [6])),
  (33, [(.iload 5, 2, 0, 0), (.iload_n 3, 1, 0, 0)], (.if_icmp .ge 129, 3, (0, 0, 0), [25, 7])),
  (39, [(.iconst 1, 1, 0, 0), (.istore 6, 2, 0, 0), (.iconst 0, 1, 0, 0), (.istore 7, 2, 0, 0)], (.nop, 0, (0, 0, 0), [8])),
  (45, [(.iload 7, 2, 0, 0), (.iload_n 2, 1, 0, 0)], (.if_icmp .ge 84, 3, (0, 0, 0), [20, 9])),
  (51, [(.aload_n 0, 1, 0, 0), (.getfield 26, 3, 13, 9), (.iload 7, 2, 0, 0), (.iaload, 1, 0, 0), (.aload_n 0, 1, 0, 0), (.getfield 26, 3, 13, 9), (.iload_n 2, 1, 0, 0), (.iaload, 1, 0, 0)], (.if_icmp .eq 19, 3, (0, 0, 0), [11, 10])),
  (67, [(.aload_n 0, 1, 0, 0), (.getfield 29, 3, 13, 10), (.iload 7, 2, 0, 0), (.iaload, 1, 0, 0), (.aload_n 0, 1, 0, 0), (.getfield 29, 3, 13, 10), (.iload_n 2, 1, 0, 0), (.iaload, 1, 0, 0)], (.if_icmp .ne 7, 3, (0, 0, 0), [12, 11])),
  (83, [(.iconst 1, 1, 0, 0)], (.goto 4, 3, (0, 0, 0), [13])),
  (87, [(.iconst 0, 1, 0, 0)], (.nop, 0, (0, 0, 0), [13])),
  (88, [(.istore 8, 2, 0, 0), (.iload 6, 2, 0, 0)], (.ifCond .eq 31, 3, (0, 0, 0), [18, 14])),
  (95, [(.iload_n 1, 1, 0, 0), (.iload 7, 2, 0, 0), (.ishr, 1, 0, 0), (.iconst 1, 1, 0, 0), (.iand, 1, 0, 0)], (.ifCond .eq 18, 3, (0, 0, 0), [17, 15])),
  (104, [(.iload 8, 2, 0, 0)], (.ifCond .eq 13, 3, (0, 0, 0), [17, 16])),
  (109, [(.aload 4, 2, 0, 0), (.iload 7, 2, 0, 0), (.iaload, 1, 0, 0), (.iload 5, 2, 0, 0)], (.if_icmp .eq 7, 3, (0, 0, 0), [18, 17])),
  (119, [(.iconst 1, 1, 0, 0)], (.goto 4, 3, (0, 0, 0), [19])),
  (123, [(.iconst 0, 1, 0, 0)], (.nop, 0, (0, 0, 0), [19])),
  (124, [(.istore 6, 2, 0, 0), (.iinc 7 1, 3, 0, 0)], (.goto (-84), 3, (0, 0, 0), [8])),
  (132, [(.aload 4, 2, 0, 0), (.iload_n 2, 1, 0, 0), (.iload 5, 2, 0, 0), (.iastore, 1, 0, 0), (.iload 6, 2, 0, 0)], (.ifCond .eq 19, 3, (0, 0, 0), [24, 21])),
  (143, [(.aload_n 0, 1, 0, 0), (.iload_n 1, 1, 0, 0), (.iload_n 2, 1, 0, 0), (.iconst 1, 1, 0, 0), (.iadd, 1, 0, 0), (.iload_n 3, 1, 0, 0), (.aload 4, 2, 0, 0)], (.invokevirtual 303, 3, (266, 5, 13), [22])),
  (154, [], (.ifCond .eq 5, 3, (0, 0, 0), [24, 23])),
  (157, [(.iconst 1, 1, 0, 0)], (.ireturn, 1, (1, 0, 0), [])),
  (159, [(.iinc 5 1, 3, 0, 0)], (.goto (-129), 3, (0, 0, 0), [6])),
  (165, [(.iconst 0, 1, 0, 0)], (.ireturn, 1, (1, 0, 0), []))])
def am_X13_exams : ab_M := (4, [], [
  (0, [(.iconst 0, 1, 0, 0), (.istore_n 3, 1, 0, 0)], (.nop, 0, (0, 0, 0), [1])),
  (2, [(.aload_n 0, 1, 0, 0), (.iload_n 1, 1, 0, 0), (.iconst 0, 1, 0, 0), (.iload_n 3, 1, 0, 0), (.aload_n 2, 1, 0, 0)], (.invokevirtual 303, 3, (266, 5, 13), [2])),
  (10, [], (.ifCond .ne 9, 3, (0, 0, 0), [4, 3])),
  (13, [(.iinc 3 1, 3, 0, 0)], (.goto (-14), 3, (0, 0, 0), [1])),
  (19, [(.iload_n 3, 1, 0, 0)], (.ireturn, 1, (0, 0, 0), []))])
def am_X13_isSet : ab_M := (2, [], [
  (0, [(.iload_n 1, 1, 0, 0)], (.ifCond .lt 17, 3, (0, 0, 0), [3, 1])),
  (4, [(.iload_n 1, 1, 0, 0), (.iconst 1, 1, 0, 0), (.aload_n 0, 1, 0, 0), (.getfield 59, 3, 13, 8), (.ishl, 1, 0, 0)], (.if_icmp .ge 7, 3, (0, 0, 0), [3, 2])),
  (14, [(.iconst 1, 1, 0, 0)], (.goto 4, 3, (0, 0, 0), [4])),
  (18, [(.iconst 0, 1, 0, 0)], (.nop, 0, (0, 0, 0), [4])),
  (19, [], (.ireturn, 1, (1, 0, 0), []))])
def am_X13_examDays : ab_M := (2, [], [
  (0, [(.aload_n 0, 1, 0, 0), (.aload_n 0, 1, 0, 0), (.iload_n 1, 1, 0, 0)], (.invokevirtual 307, 3, (268, 2, 13), [1])),
  (6, [(.iconst 1, 1, 0, 0)], (.invokevirtual 198, 3, (187, 3, 13), [2])),
  (10, [], (.ifCond .eq 7, 3, (0, 0, 0), [4, 3])),
  (13, [(.iconst 0, 1, 0, 0)], (.goto 12, 3, (0, 0, 0), [5])),
  (17, [(.aload_n 0, 1, 0, 0), (.iload_n 1, 1, 0, 0), (.bipush 6, 2, 0, 0), (.newarray .int, 2, 0, 0)], (.invokevirtual 310, 3, (267, 3, 13), [5])),
  (26, [], (.ireturn, 1, (0, 0, 0), []))])
def am_X13_examDay : ab_M := (5, [], [
  (0, [(.aload_n 0, 1, 0, 0), (.aload_n 0, 1, 0, 0), (.iload_n 2, 1, 0, 0)], (.invokevirtual 211, 3, (190, 2, 13), [1])),
  (6, [(.iconst 1, 1, 0, 0)], (.invokevirtual 198, 3, (187, 3, 13), [2])),
  (10, [], (.ifCond .ne 33, 3, (0, 0, 0), [10, 3])),
  (13, [(.aload_n 0, 1, 0, 0), (.aload_n 0, 1, 0, 0), (.iload_n 1, 1, 0, 0)], (.invokevirtual 307, 3, (268, 2, 13), [4])),
  (19, [], (.ifCond .eq 16, 3, (0, 0, 0), [7, 5])),
  (22, [(.iload_n 1, 1, 0, 0), (.iload_n 2, 1, 0, 0), (.ishr, 1, 0, 0), (.iconst 1, 1, 0, 0), (.iand, 1, 0, 0), (.iconst 1, 1, 0, 0)], (.if_icmp .ne 7, 3, (0, 0, 0), [7, 6])),
  (31, [(.iconst 1, 1, 0, 0)], (.goto 4, 3, (0, 0, 0), [8])),
  (35, [(.iconst 0, 1, 0, 0)], (.nop, 0, (0, 0, 0), [8])),
  (36, [(.iconst 2, 1, 0, 0)], (.invokevirtual 198, 3, (187, 3, 13), [9])),
  (40, [], (.ifCond .eq 5, 3, (0, 0, 0), [11, 10])),
  (43, [(.iconst 0, 1, 0, 0)], (.ireturn, 1, (0, 0, 0), [])),
  (45, [(.bipush 6, 2, 0, 0), (.newarray .int, 2, 0, 0), (.astore_n 3, 1, 0, 0), (.aload_n 0, 1, 0, 0), (.iload_n 1, 1, 0, 0), (.aload_n 3, 1, 0, 0)], (.invokevirtual 310, 3, (267, 3, 13), [12])),
  (56, [(.istore 4, 2, 0, 0), (.aload_n 3, 1, 0, 0), (.iload_n 2, 1, 0, 0), (.iaload, 1, 0, 0)], (.ireturn, 1, (0, 0, 0), []))])
def am_X13_count : ab_M := (2, [], [
  (0, [(.aload_n 0, 1, 0, 0), (.iload_n 1, 1, 0, 0), (.iconst 0, 1, 0, 0), (.iconst 5, 1, 0, 0)], (.invokestatic 62, 3, (188, 3, 200), [1])),
  (7, [(.iconst 1, 1, 0, 0)], (.invokevirtual 198, 3, (187, 3, 13), [2])),
  (11, [], (.ifCond .eq 5, 3, (0, 0, 0), [4, 3])),
  (14, [(.iconst 0, 1, 0, 0)], (.ireturn, 1, (0, 0, 0), [])),
  (16, [(.iload_n 1, 1, 0, 0)], (.ifCond .ne 10, 3, (0, 0, 0), [6, 5])),
  (20, [(.aload_n 0, 1, 0, 0), (.getfield 178, 3, 13, 2)], (.goto 55, 3, (0, 0, 0), [15])),
  (27, [(.iload_n 1, 1, 0, 0), (.iconst 1, 1, 0, 0)], (.if_icmp .ne 10, 3, (0, 0, 0), [8, 7])),
  (32, [(.aload_n 0, 1, 0, 0), (.getfield 66, 3, 13, 5)], (.goto 43, 3, (0, 0, 0), [15])),
  (39, [(.iload_n 1, 1, 0, 0), (.iconst 2, 1, 0, 0)], (.if_icmp .ne 10, 3, (0, 0, 0), [10, 9])),
  (44, [(.aload_n 0, 1, 0, 0), (.getfield 69, 3, 13, 6)], (.goto 31, 3, (0, 0, 0), [15])),
  (51, [(.iload_n 1, 1, 0, 0), (.iconst 3, 1, 0, 0)], (.if_icmp .ne 10, 3, (0, 0, 0), [12, 11])),
  (56, [(.aload_n 0, 1, 0, 0), (.getfield 59, 3, 13, 8)], (.goto 19, 3, (0, 0, 0), [15])),
  (63, [(.iload_n 1, 1, 0, 0), (.iconst 4, 1, 0, 0)], (.if_icmp .ne 10, 3, (0, 0, 0), [14, 13])),
  (68, [(.aload_n 0, 1, 0, 0), (.getfield 118, 3, 13, 12)], (.goto 7, 3, (0, 0, 0), [15])),
  (75, [(.aload_n 0, 1, 0, 0)], (.invokevirtual 72, 3, (189, 1, 13), [15])),
  (79, [], (.ireturn, 1, (0, 0, 0), []))])
def am_X13_checksum : ab_M := (4, [], [
  (0, [(.aload_n 0, 1, 0, 0), (.iconst 0, 1, 0, 0), (.putfield 56, 3, 13, 22), (.lconst 0, 1, 0, 0), (.lstore_n 1, 1, 0, 0), (.iconst 0, 1, 0, 0), (.istore_n 3, 1, 0, 0)], (.nop, 0, (0, 0, 0), [1])),
  (9, [(.iload_n 3, 1, 0, 0), (.aload_n 0, 1, 0, 0), (.getfield 118, 3, 13, 12)], (.if_icmp .ge 51, 3, (0, 0, 0), [3, 2])),
  (17, [(.ldc2_w 314, 3, 31, 0), (.lload_n 1, 1, 0, 0), (.lmul, 1, 0, 0), (.aload_n 0, 1, 0, 0), (.getfield 35, 3, 13, 13), (.iload_n 3, 1, 0, 0), (.iaload, 1, 0, 0), (.i2l, 1, 0, 0), (.ladd, 1, 0, 0), (.lstore_n 1, 1, 0, 0), (.ldc2_w 314, 3, 31, 0), (.lload_n 1, 1, 0, 0), (.lmul, 1, 0, 0), (.aload_n 0, 1, 0, 0), (.getfield 38, 3, 13, 14), (.iload_n 3, 1, 0, 0), (.iaload, 1, 0, 0), (.i2l, 1, 0, 0), (.ladd, 1, 0, 0), (.lstore_n 1, 1, 0, 0), (.ldc2_w 314, 3, 31, 0), (.lload_n 1, 1, 0, 0), (.lmul, 1, 0, 0), (.aload_n 0, 1, 0, 0), (.getfield 41, 3, 13, 15), (.iload_n 3, 1, 0, 0), (.iaload, 1, 0, 0), (.i2l, 1, 0, 0), (.ladd, 1, 0, 0), (.lstore_n 1, 1, 0, 0), (.iinc 3 1, 3, 0, 0)], (.goto (-53), 3, (0, 0, 0), [1])),
  (65, [(.iconst 0, 1, 0, 0), (.istore_n 3, 1, 0, 0)], (.nop, 0, (0, 0, 0), [4])),
  (67, [(.iload_n 3, 1, 0, 0), (.aload_n 0, 1, 0, 0), (.getfield 59, 3, 13, 8)], (.if_icmp .ge 38, 3, (0, 0, 0), [9, 5])),
  (75, [(.ldc2_w 314, 3, 31, 0), (.lload_n 1, 1, 0, 0), (.lmul, 1, 0, 0), (.aload_n 0, 1, 0, 0), (.getfield 202, 3, 13, 19)], (.ifnonnull 7, 3, (0, 0, 0), [7, 6])),
  (87, [(.iconst (-1), 1, 0, 0)], (.goto 13, 3, (0, 0, 0), [8])),
  (91, [(.aload_n 0, 1, 0, 0), (.aload_n 0, 1, 0, 0), (.getfield 202, 3, 13, 19), (.iload_n 3, 1, 0, 0), (.iaload, 1, 0, 0)], (.invokevirtual 224, 3, (194, 2, 13), [8])),
  (101, [(.i2l, 1, 0, 0), (.ladd, 1, 0, 0), (.lstore_n 1, 1, 0, 0), (.iinc 3 1, 3, 0, 0)], (.goto (-40), 3, (0, 0, 0), [4])),
  (110, [(.lload_n 1, 1, 0, 0)], (.lreturn, 1, (0, 0, 0), []))])
def am_X13_meanHour : ab_M := (3, [], [
  (0, [(.aload_n 0, 1, 0, 0), (.iconst 1, 1, 0, 0)], (.invokevirtual 234, 3, (234, 2, 13), [1])),
  (5, [], (.ifCond .eq 5, 3, (0, 0, 0), [3, 2])),
  (8, [(.dconst 0, 1, 0, 0)], (.dreturn, 1, (0, 0, 0), [])),
  (10, [(.iconst 0, 1, 0, 0), (.istore_n 1, 1, 0, 0), (.iconst 0, 1, 0, 0), (.istore_n 2, 1, 0, 0)], (.nop, 0, (0, 0, 0), [4])),
  (14, [(.iload_n 2, 1, 0, 0), (.aload_n 0, 1, 0, 0), (.getfield 59, 3, 13, 8)], (.if_icmp .ge 28, 3, (0, 0, 0), [6, 5])),
  (22, [(.iload_n 1, 1, 0, 0), (.aload_n 0, 1, 0, 0), (.getfield 202, 3, 13, 19), (.iload_n 2, 1, 0, 0), (.iaload, 1, 0, 0), (.aload_n 0, 1, 0, 0), (.getfield 69, 3, 13, 6), (.idiv, 1, 0, 0), (.aload_n 0, 1, 0, 0), (.getfield 13, 3, 13, 1), (.irem, 1, 0, 0), (.iadd, 1, 0, 0), (.istore_n 1, 1, 0, 0), (.iinc 2 1, 3, 0, 0)], (.goto (-30), 3, (0, 0, 0), [4])),
  (47, [(.aload_n 0, 1, 0, 0), (.getfield 59, 3, 13, 8)], (.ifCond .ne 7, 3, (0, 0, 0), [8, 7])),
  (54, [(.dconst 0, 1, 0, 0)], (.goto 11, 3, (0, 0, 0), [9])),
  (58, [(.iload_n 1, 1, 0, 0), (.i2d, 1, 0, 0), (.aload_n 0, 1, 0, 0), (.getfield 59, 3, 13, 8), (.i2d, 1, 0, 0), (.ddiv, 1, 0, 0)], (.nop, 0, (0, 0, 0), [9])),
  (66, [], (.dreturn, 1, (0, 0, 0), []))])
def am_X13_usedShare : ab_M := (5, [], [
  (0, [(.aload_n 0, 1, 0, 0), (.iconst 1, 1, 0, 0)], (.invokevirtual 234, 3, (234, 2, 13), [1])),
  (5, [], (.ifCond .eq 5, 3, (0, 0, 0), [3, 2])),
  (8, [(.fconst 0, 1, 0, 0)], (.freturn, 1, (0, 0, 0), [])),
  (10, [(.iconst 0, 1, 0, 0), (.istore_n 1, 1, 0, 0), (.iconst 0, 1, 0, 0), (.istore_n 2, 1, 0, 0)], (.nop, 0, (0, 0, 0), [4])),
  (14, [(.iload_n 2, 1, 0, 0), (.aload_n 0, 1, 0, 0), (.getfield 69, 3, 13, 6)], (.if_icmp .ge 72, 3, (0, 0, 0), [14, 5])),
  (22, [(.iconst 0, 1, 0, 0), (.istore_n 3, 1, 0, 0), (.iconst 0, 1, 0, 0), (.istore 4, 2, 0, 0)], (.nop, 0, (0, 0, 0), [6])),
  (27, [(.iload 4, 2, 0, 0), (.aload_n 0, 1, 0, 0), (.getfield 59, 3, 13, 8)], (.if_icmp .ge 45, 3, (0, 0, 0), [12, 7])),
  (36, [(.iload_n 3, 1, 0, 0), (.aload_n 0, 1, 0, 0), (.getfield 202, 3, 13, 19), (.iload 4, 2, 0, 0), (.iaload, 1, 0, 0), (.aload_n 0, 1, 0, 0), (.getfield 69, 3, 13, 6), (.irem, 1, 0, 0), (.iload_n 2, 1, 0, 0)], (.if_icmp .ne 19, 3, (0, 0, 0), [10, 8])),
  (53, [(.aload_n 0, 1, 0, 0), (.iload 4, 2, 0, 0), (.aload_n 0, 1, 0, 0), (.getfield 202, 3, 13, 19), (.iload 4, 2, 0, 0), (.iaload, 1, 0, 0)], (.invokevirtual 85, 3, (196, 3, 13), [9])),
  (66, [], (.goto 4, 3, (0, 0, 0), [11])),
  (69, [(.iconst 0, 1, 0, 0)], (.nop, 0, (0, 0, 0), [11])),
  (70, [(.ior, 1, 0, 0), (.istore_n 3, 1, 0, 0), (.iinc 4 1, 3, 0, 0)], (.goto (-48), 3, (0, 0, 0), [6])),
  (78, [(.iload_n 1, 1, 0, 0), (.iload_n 3, 1, 0, 0)], (.invokestatic 95, 3, (277, 1, 200), [13])),
  (83, [(.iadd, 1, 0, 0), (.istore_n 1, 1, 0, 0), (.iinc 2 1, 3, 0, 0)], (.goto (-74), 3, (0, 0, 0), [4])),
  (91, [(.aload_n 0, 1, 0, 0), (.getfield 69, 3, 13, 6)], (.ifCond .ne 7, 3, (0, 0, 0), [16, 15])),
  (98, [(.fconst 0, 1, 0, 0)], (.goto 16, 3, (0, 0, 0), [18])),
  (102, [(.iload_n 1, 1, 0, 0), (.i2f, 1, 0, 0), (.aload_n 0, 1, 0, 0), (.getfield 69, 3, 13, 6), (.aload_n 0, 1, 0, 0)], (.invokevirtual 72, 3, (189, 1, 13), [17])),
  (112, [(.imul, 1, 0, 0), (.i2f, 1, 0, 0), (.fdiv, 1, 0, 0)], (.nop, 0, (0, 0, 0), [18])),
  (115, [], (.freturn, 1, (0, 0, 0), []))])
def am_X13_errors : ab_M := (18, [], [
  (0, [(.aload_n 0, 1, 0, 0), (.iconst 0, 1, 0, 0), (.putfield 56, 3, 13, 22), (.aload_n 0, 1, 0, 0)], (.invokevirtual 161, 3, (218, 1, 13), [1])),
  (9, [(.astore_n 1, 1, 0, 0), (.lconst 1, 1, 0, 0), (.lstore_n 2, 1, 0, 0), (.iconst 0, 1, 0, 0), (.istore 4, 2, 0, 0)], (.nop, 0, (0, 0, 0), [2])),
  (15, [(.iload 4, 2, 0, 0), (.aload_n 0, 1, 0, 0), (.getfield 59, 3, 13, 8)], (.if_icmp .ge 23, 3, (0, 0, 0), [5, 3])),
  (24, [(.lload_n 2, 1, 0, 0), (.aload_n 1, 1, 0, 0), (.getfield 316, 3, 12, 1), (.iload 4, 2, 0, 0), (.iaload, 1, 0, 0)], (.invokestatic 95, 3, (277, 1, 200), [4])),
  (35, [(.i2l, 1, 0, 0), (.lmul, 1, 0, 0), (.lstore_n 2, 1, 0, 0), (.iinc 4 1, 3, 0, 0)], (.goto (-26), 3, (0, 0, 0), [2])),
  (44, [(.lload_n 2, 1, 0, 0), (.ldc2_w 319, 3, 3000, 0), (.lcmp, 1, 0, 0)], (.ifCond .le 5, 3, (0, 0, 0), [7, 6])),
  (52, [(.iconst 0, 1, 0, 0)], (.ireturn, 1, (0, 0, 0), [])),
  (54, [(.aload_n 0, 1, 0, 0)], (.invokevirtual 220, 3, (219, 1, 13), [8])),
  (58, [(.astore 4, 2, 0, 0), (.aload_n 0, 1, 0, 0), (.iconst (-1), 1, 0, 0), (.iconst 0, 1, 0, 0)], (.invokevirtual 247, 3, (245, 3, 13), [9])),
  (66, [(.istore 5, 2, 0, 0), (.aload_n 0, 1, 0, 0), (.getfield 59, 3, 13, 8), (.newarray .int, 2, 0, 0), (.astore 6, 2, 0, 0), (.aconst_null, 1, 0, 0), (.astore 7, 2, 0, 0), (.ldc 145, 2, 2147483647, 0), (.istore 8, 2, 0, 0), (.iconst 0, 1, 0, 0), (.istore 9, 2, 0, 0), (.iconst 0, 1, 0, 0), (.istore 10, 2, 0, 0), (.lconst 0, 1, 0, 0), (.lstore 11, 2, 0, 0)], (.nop, 0, (0, 0, 0), [10])),
  (92, [(.lload 11, 2, 0, 0), (.lload_n 2, 1, 0, 0), (.lcmp, 1, 0, 0)], (.ifCond .ge 222, 3, (0, 0, 0), [43, 11])),
  (99, [(.lload 11, 2, 0, 0), (.lstore 13, 2, 0, 0), (.aload_n 0, 1, 0, 0), (.getfield 59, 3, 13, 8), (.iconst 1, 1, 0, 0), (.isub, 1, 0, 0), (.istore 15, 2, 0, 0)], (.nop, 0, (0, 0, 0), [12])),
  (111, [(.iload 15, 2, 0, 0)], (.ifCond .lt 51, 3, (0, 0, 0), [16, 13])),
  (116, [(.aload_n 1, 1, 0, 0), (.getfield 316, 3, 12, 1), (.iload 15, 2, 0, 0), (.iaload, 1, 0, 0)], (.invokestatic 95, 3, (277, 1, 200), [14])),
  (126, [(.istore 16, 2, 0, 0), (.aload 6, 2, 0, 0), (.iload 15, 2, 0, 0), (.aload_n 1, 1, 0, 0), (.getfield 316, 3, 12, 1), (.iload 15, 2, 0, 0), (.iaload, 1, 0, 0), (.lload 13, 2, 0, 0), (.iload 16, 2, 0, 0), (.i2l, 1, 0, 0), (.lrem, 1, 0, 0), (.l2i, 1, 0, 0)], (.invokestatic 321, 3, (276, 2, 200), [15])),
  (149, [(.iastore, 1, 0, 0), (.lload 13, 2, 0, 0), (.iload 16, 2, 0, 0), (.i2l, 1, 0, 0), (.ldiv, 1, 0, 0), (.lstore 13, 2, 0, 0), (.iinc 15 (-1), 3, 0, 0)], (.goto (-50), 3, (0, 0, 0), [12])),
  (164, [(.aload_n 0, 1, 0, 0), (.aload 6, 2, 0, 0)], (.invokevirtual 135, 3, (209, 2, 13), [17])),
  (170, [], (.ifCond .ne 7, 3, (0, 0, 0), [19, 18])),
  (173, [(.iconst 1, 1, 0, 0)], (.goto 4, 3, (0, 0, 0), [20])),
  (177, [(.iconst 0, 1, 0, 0)], (.nop, 0, (0, 0, 0), [20])),
  (178, [(.istore 15, 2, 0, 0), (.aload_n 0, 1, 0, 0), (.aload 6, 2, 0, 0)], (.invokevirtual 139, 3, (208, 2, 13), [21])),
  (186, [(.istore 16, 2, 0, 0), (.iload 10, 2, 0, 0)], (.ifCond .ne 22, 3, (0, 0, 0), [25, 22])),
  (193, [(.iload 15, 2, 0, 0)], (.ifCond .eq 21, 3, (0, 0, 0), [26, 23])),
  (198, [(.iload 5, 2, 0, 0), (.iconst (-1), 1, 0, 0)], (.if_icmp .eq 15, 3, (0, 0, 0), [26, 24])),
  (204, [(.iload 16, 2, 0, 0), (.iload 5, 2, 0, 0), (.iand, 1, 0, 0)], (.ifCond .ne 7, 3, (0, 0, 0), [26, 25])),
  (212, [(.iconst 1, 1, 0, 0)], (.goto 4, 3, (0, 0, 0), [27])),
  (216, [(.iconst 0, 1, 0, 0)], (.nop, 0, (0, 0, 0), [27])),
  (217, [(.istore 10, 2, 0, 0), (.iload 15, 2, 0, 0)], (.ifCond .eq 88, 3, (0, 0, 0), [42, 28])),
  (224, [(.iload 16, 2, 0, 0)], (.ifCond .eq 6, 3, (0, 0, 0), [30, 29])),
  (229, [], (.goto 80, 3, (0, 0, 0), [42])),
  (232, [(.aload 7, 2, 0, 0)], (.ifnonnull 12, 3, (0, 0, 0), [33, 31])),
  (237, [(.aload_n 1, 1, 0, 0), (.aload 6, 2, 0, 0)], (.invokevirtual 324, 3, (182, 2, 12), [32])),
  (243, [], (.goto 5, 3, (0, 0, 0), [34])),
  (246, [(.aload 7, 2, 0, 0)], (.nop, 0, (0, 0, 0), [34])),
  (248, [(.astore 7, 2, 0, 0), (.iload 8, 2, 0, 0), (.aload_n 0, 1, 0, 0), (.aload 6, 2, 0, 0)], (.invokevirtual 262, 3, (212, 2, 13), [35])),
  (258, [(.invokestatic 76, 3, 2, 0), (.istore 8, 2, 0, 0), (.iconst 0, 1, 0, 0), (.istore 17, 2, 0, 0)], (.nop, 0, (0, 0, 0), [36])),
  (266, [(.iload 17, 2, 0, 0), (.aload_n 0, 1, 0, 0), (.getfield 59, 3, 13, 8)], (.if_icmp .ge 37, 3, (0, 0, 0), [42, 37])),
  (275, [(.iload 9, 2, 0, 0)], (.ifCond .ne 19, 3, (0, 0, 0), [39, 38])),
  (280, [(.aload 4, 2, 0, 0), (.iload 17, 2, 0, 0), (.iaload, 1, 0, 0), (.aload 6, 2, 0, 0), (.iload 17, 2, 0, 0), (.iaload, 1, 0, 0), (.ishr, 1, 0, 0), (.iconst 1, 1, 0, 0), (.iand, 1, 0, 0)], (.ifCond .ne 7, 3, (0, 0, 0), [40, 39])),
  (296, [(.iconst 1, 1, 0, 0)], (.goto 4, 3, (0, 0, 0), [41])),
  (300, [(.iconst 0, 1, 0, 0)], (.nop, 0, (0, 0, 0), [41])),
  (301, [(.istore 9, 2, 0, 0), (.iinc 17 1, 3, 0, 0)], (.goto (-40), 3, (0, 0, 0), [36])),
  (309, [(.lload 11, 2, 0, 0), (.lconst 1, 1, 0, 0), (.ladd, 1, 0, 0), (.lstore 11, 2, 0, 0)], (.goto (-223), 3, (0, 0, 0), [10])),
  (318, [(.aload_n 1, 1, 0, 0)], (.invokevirtual 227, 3, (177, 1, 12), [44])),
  (322, [(.istore 11, 2, 0, 0), (.aload 7, 2, 0, 0)], (.ifnull 8, 3, (0, 0, 0), [46, 45])),
  (329, [(.iload 11, 2, 0, 0)], (.ifCond .eq 7, 3, (0, 0, 0), [47, 46])),
  (334, [(.iconst 1, 1, 0, 0)], (.goto 4, 3, (0, 0, 0), [48])),
  (338, [(.iconst 0, 1, 0, 0)], (.nop, 0, (0, 0, 0), [48])),
  (339, [(.istore 12, 2, 0, 0), (.iconst 0, 1, 0, 0), (.istore 13, 2, 0, 0)], (.nop, 0, (0, 0, 0), [49])),
  (344, [(.iload 13, 2, 0, 0), (.aload_n 0, 1, 0, 0), (.getfield 59, 3, 13, 8)], (.if_icmp .ge 41, 3, (0, 0, 0), [56, 50])),
  (353, [(.iload 12, 2, 0, 0)], (.ifCond .eq 36, 3, (0, 0, 0), [56, 51])),
  (358, [(.aload 7, 2, 0, 0)], (.ifnull 31, 3, (0, 0, 0), [56, 52])),
  (363, [(.aload_n 1, 1, 0, 0), (.getfield 328, 3, 12, 8), (.iload 13, 2, 0, 0), (.iaload, 1, 0, 0), (.aload 7, 2, 0, 0), (.iload 13, 2, 0, 0), (.iaload, 1, 0, 0)], (.if_icmp .ne 7, 3, (0, 0, 0), [54, 53])),
  (378, [(.iconst 1, 1, 0, 0)], (.goto 4, 3, (0, 0, 0), [55])),
  (382, [(.iconst 0, 1, 0, 0)], (.nop, 0, (0, 0, 0), [55])),
  (383, [(.istore 12, 2, 0, 0), (.iinc 13 1, 3, 0, 0)], (.goto (-44), 3, (0, 0, 0), [49])),
  (391, [(.aload_n 1, 1, 0, 0), (.iconst 0, 1, 0, 0), (.iconst 0, 1, 0, 0)], (.invokevirtual 265, 3, (183, 3, 12), [57])),
  (397, [(.iload 12, 2, 0, 0)], (.ifCond .eq 7, 3, (0, 0, 0), [59, 58])),
  (402, [(.iconst 0, 1, 0, 0)], (.goto 4, 3, (0, 0, 0), [60])),
  (406, [(.iconst 1, 1, 0, 0)], (.nop, 0, (0, 0, 0), [60])),
  (407, [(.iload 9, 2, 0, 0)], (.ifCond .eq 7, 3, (0, 0, 0), [62, 61])),
  (412, [(.iconst 1, 1, 0, 0)], (.goto 4, 3, (0, 0, 0), [63])),
  (416, [(.iconst 0, 1, 0, 0)], (.nop, 0, (0, 0, 0), [63])),
  (417, [(.iadd, 1, 0, 0), (.istore 13, 2, 0, 0), (.iload 13, 2, 0, 0), (.aload 7, 2, 0, 0)], (.ifnull 23, 3, (0, 0, 0), [67, 64])),
  (427, [(.aload_n 1, 1, 0, 0), (.getfield 269, 3, 12, 9)], (.ifnull 12, 3, (0, 0, 0), [66, 65])),
  (434, [(.iload 8, 2, 0, 0), (.aload_n 1, 1, 0, 0), (.getfield 272, 3, 12, 10)], (.if_icmp .ge 7, 3, (0, 0, 0), [67, 66])),
  (443, [(.iconst 1, 1, 0, 0)], (.goto 4, 3, (0, 0, 0), [68])),
  (447, [(.iconst 0, 1, 0, 0)], (.nop, 0, (0, 0, 0), [68])),
  (448, [(.iadd, 1, 0, 0), (.istore 13, 2, 0, 0), (.iload 13, 2, 0, 0), (.aload 7, 2, 0, 0)], (.ifnonnull 18, 3, (0, 0, 0), [72, 69])),
  (458, [(.iload 10, 2, 0, 0)], (.ifCond .ne 9, 3, (0, 0, 0), [71, 70])),
  (463, [(.iload 5, 2, 0, 0), (.iconst (-1), 1, 0, 0)], (.if_icmp .ne 7, 3, (0, 0, 0), [72, 71])),
  (469, [(.iconst 1, 1, 0, 0)], (.goto 4, 3, (0, 0, 0), [73])),
  (473, [(.iconst 0, 1, 0, 0)], (.nop, 0, (0, 0, 0), [73])),
  (474, [(.iadd, 1, 0, 0)], (.ireturn, 1, (0, 0, 0), []))])
def am_X13_bitAt : ab_M := (4, [], [
  (0, [(.iload_n 1, 1, 0, 0), (.istore_n 2, 1, 0, 0), (.iconst 0, 1, 0, 0), (.istore_n 3, 1, 0, 0)], (.nop, 0, (0, 0, 0), [1])),
  (4, [(.iload_n 0, 1, 0, 0), (.iload_n 3, 1, 0, 0), (.ishr, 1, 0, 0), (.iconst 1, 1, 0, 0), (.iand, 1, 0, 0)], (.ifCond .eq 7, 3, (0, 0, 0), [3, 2])),
  (12, [(.iload_n 2, 1, 0, 0)], (.ifCond .le 17, 3, (0, 0, 0), [4, 3])),
  (16, [(.iload_n 2, 1, 0, 0), (.iload_n 0, 1, 0, 0), (.iload_n 3, 1, 0, 0), (.ishr, 1, 0, 0), (.iconst 1, 1, 0, 0), (.iand, 1, 0, 0), (.isub, 1, 0, 0), (.istore_n 2, 1, 0, 0), (.iinc 3 1, 3, 0, 0)], (.goto (-23), 3, (0, 0, 0), [1])),
  (30, [(.iload_n 3, 1, 0, 0)], (.ireturn, 1, (0, 0, 0), []))])
def am_J6_bitCount_0f7a4 : ab_M := (1, [], [
  (0, [(.iload_n 0, 1, 0, 0), (.iload_n 0, 1, 0, 0), (.iconst 1, 1, 0, 0), (.iushr, 1, 0, 0), (.ldc_w 265, 3, 1431655765, 0), (.iand, 1, 0, 0), (.isub, 1, 0, 0), (.istore_n 0, 1, 0, 0), (.iload_n 0, 1, 0, 0), (.ldc_w 266, 3, 858993459, 0), (.iand, 1, 0, 0), (.iload_n 0, 1, 0, 0), (.iconst 2, 1, 0, 0), (.iushr, 1, 0, 0), (.ldc_w 266, 3, 858993459, 0), (.iand, 1, 0, 0), (.iadd, 1, 0, 0), (.istore_n 0, 1, 0, 0), (.iload_n 0, 1, 0, 0), (.iload_n 0, 1, 0, 0), (.iconst 4, 1, 0, 0), (.iushr, 1, 0, 0), (.iadd, 1, 0, 0), (.ldc_w 267, 3, 252645135, 0), (.iand, 1, 0, 0), (.istore_n 0, 1, 0, 0), (.iload_n 0, 1, 0, 0), (.iload_n 0, 1, 0, 0), (.bipush 8, 2, 0, 0), (.iushr, 1, 0, 0), (.iadd, 1, 0, 0), (.istore_n 0, 1, 0, 0), (.iload_n 0, 1, 0, 0), (.iload_n 0, 1, 0, 0), (.bipush 16, 2, 0, 0), (.iushr, 1, 0, 0), (.iadd, 1, 0, 0), (.istore_n 0, 1, 0, 0), (.iload_n 0, 1, 0, 0), (.bipush 63, 2, 0, 0), (.iand, 1, 0, 0)], (.ireturn, 1, (0, 0, 0), []))])
def am_J7_fill_53178 : ab_M := (4, [], [
  (0, [(.iconst 0, 1, 0, 0), (.istore_n 2, 1, 0, 0), (.aload_n 0, 1, 0, 0), (.arraylength, 1, 0, 0), (.istore_n 3, 1, 0, 0)], (.nop, 0, (0, 0, 0), [1])),
  (5, [(.iload_n 2, 1, 0, 0), (.iload_n 3, 1, 0, 0)], (.if_icmp .ge 13, 3, (0, 0, 0), [3, 2])),
  (10, [(.aload_n 0, 1, 0, 0), (.iload_n 2, 1, 0, 0), (.iload_n 1, 1, 0, 0), (.iastore, 1, 0, 0), (.iinc 2 1, 3, 0, 0)], (.goto (-12), 3, (0, 0, 0), [1])),
  (20, [], (.return_, 1, (0, 0, 0), []))])
def am_L_setGrid : ab_M := (5, [(0, 2), (1, 3)], [
  (0, [(.aload_n 3, 1, 0, 0), (.iconst 0, 1, 0, 0), (.aload_n 0, 1, 0, 0), (.iload_n 1, 1, 0, 0), (.iload_n 2, 1, 0, 0)], (.invokevirtual 7, 3, (122, 3, 11), [1])),
  (8, [(.i2l, 1, 0, 0), (.lastore, 1, 0, 0)], (.goto 11, 3, (0, 0, 0), [4])),
  (13, [(.astore 4, 2, 0, 0), (.iconst 1, 1, 0, 0)], (.ireturn, 1, (0, 0, 0), [])),
  (17, [(.astore 4, 2, 0, 0), (.iconst 2, 1, 0, 0)], (.ireturn, 1, (0, 0, 0), [])),
  (21, [(.iconst 0, 1, 0, 0)], (.ireturn, 1, (0, 0, 0), []))])
def am_L_addClass : ab_M := (5, [(2, 2), (0, 3), (1, 4)], [
  (0, [(.aload_n 3, 1, 0, 0), (.iconst 0, 1, 0, 0), (.aload_n 0, 1, 0, 0), (.iload_n 1, 1, 0, 0), (.iload_n 2, 1, 0, 0)], (.invokevirtual 17, 3, (123, 3, 11), [1])),
  (8, [(.i2l, 1, 0, 0), (.lastore, 1, 0, 0)], (.goto 15, 3, (0, 0, 0), [5])),
  (13, [(.astore 4, 2, 0, 0), (.iconst 1, 1, 0, 0)], (.ireturn, 1, (0, 0, 0), [])),
  (17, [(.astore 4, 2, 0, 0), (.iconst 2, 1, 0, 0)], (.ireturn, 1, (0, 0, 0), [])),
  (21, [(.astore 4, 2, 0, 0), (.iconst 3, 1, 0, 0)], (.ireturn, 1, (0, 0, 0), [])),
  (25, [(.iconst 0, 1, 0, 0)], (.ireturn, 1, (0, 0, 0), []))])
def am_L_addTeacher : ab_M := (3, [(1, 2)], [
  (0, [(.aload_n 1, 1, 0, 0), (.iconst 0, 1, 0, 0), (.aload_n 0, 1, 0, 0)], (.invokevirtual 22, 3, (124, 1, 11), [1])),
  (6, [(.i2l, 1, 0, 0), (.lastore, 1, 0, 0)], (.goto 6, 3, (0, 0, 0), [3])),
  (11, [(.astore_n 2, 1, 0, 0), (.iconst 1, 1, 0, 0)], (.ireturn, 1, (0, 0, 0), [])),
  (14, [(.iconst 0, 1, 0, 0)], (.ireturn, 1, (0, 0, 0), []))])
def am_L_addRoom : ab_M := (4, [(0, 2), (1, 3)], [
  (0, [(.aload_n 2, 1, 0, 0), (.iconst 0, 1, 0, 0), (.aload_n 0, 1, 0, 0), (.iload_n 1, 1, 0, 0)], (.invokevirtual 26, 3, (125, 2, 11), [1])),
  (7, [(.i2l, 1, 0, 0), (.lastore, 1, 0, 0)], (.goto 9, 3, (0, 0, 0), [4])),
  (12, [(.astore_n 3, 1, 0, 0), (.iconst 1, 1, 0, 0)], (.ireturn, 1, (0, 0, 0), [])),
  (15, [(.astore_n 3, 1, 0, 0), (.iconst 2, 1, 0, 0)], (.ireturn, 1, (0, 0, 0), [])),
  (18, [(.iconst 0, 1, 0, 0)], (.ireturn, 1, (0, 0, 0), []))])
def am_L_addLesson : ab_M := (6, [(2, 2), (0, 3), (1, 4)], [
  (0, [(.aload 4, 2, 0, 0), (.iconst 0, 1, 0, 0), (.aload_n 0, 1, 0, 0), (.iload_n 1, 1, 0, 0), (.iload_n 2, 1, 0, 0), (.iload_n 3, 1, 0, 0)], (.invokevirtual 30, 3, (126, 4, 11), [1])),
  (10, [(.i2l, 1, 0, 0), (.lastore, 1, 0, 0)], (.goto 15, 3, (0, 0, 0), [5])),
  (15, [(.astore 5, 2, 0, 0), (.iconst 1, 1, 0, 0)], (.ireturn, 1, (0, 0, 0), [])),
  (19, [(.astore 5, 2, 0, 0), (.iconst 2, 1, 0, 0)], (.ireturn, 1, (0, 0, 0), [])),
  (23, [(.astore 5, 2, 0, 0), (.iconst 3, 1, 0, 0)], (.ireturn, 1, (0, 0, 0), [])),
  (27, [(.iconst 0, 1, 0, 0)], (.ireturn, 1, (0, 0, 0), []))])
def am_L_addRule : ab_M := (6, [(0, 2), (1, 3)], [
  (0, [(.aload 4, 2, 0, 0), (.iconst 0, 1, 0, 0), (.aload_n 0, 1, 0, 0), (.iload_n 1, 1, 0, 0), (.iload_n 2, 1, 0, 0), (.iload_n 3, 1, 0, 0)], (.invokevirtual 34, 3, (127, 4, 11), [1])),
  (10, [(.i2l, 1, 0, 0), (.lastore, 1, 0, 0)], (.goto 11, 3, (0, 0, 0), [4])),
  (15, [(.astore 5, 2, 0, 0), (.iconst 1, 1, 0, 0)], (.ireturn, 1, (0, 0, 0), [])),
  (19, [(.astore 5, 2, 0, 0), (.iconst 2, 1, 0, 0)], (.ireturn, 1, (0, 0, 0), [])),
  (23, [(.iconst 0, 1, 0, 0)], (.ireturn, 1, (0, 0, 0), []))])
def am_L_dropRule : ab_M := (4, [(2, 2)], [
  (0, [(.aload_n 2, 1, 0, 0), (.iconst 0, 1, 0, 0), (.aload_n 0, 1, 0, 0), (.iload_n 1, 1, 0, 0)], (.invokevirtual 37, 3, (128, 2, 11), [1])),
  (7, [(.i2l, 1, 0, 0), (.lastore, 1, 0, 0)], (.goto 6, 3, (0, 0, 0), [3])),
  (12, [(.astore_n 3, 1, 0, 0), (.iconst 1, 1, 0, 0)], (.ireturn, 1, (0, 0, 0), [])),
  (15, [(.iconst 0, 1, 0, 0)], (.ireturn, 1, (0, 0, 0), []))])
def am_L_left : ab_M := (4, [(2, 2)], [
  (0, [(.aload_n 2, 1, 0, 0), (.iconst 0, 1, 0, 0), (.aload_n 0, 1, 0, 0), (.iload_n 1, 1, 0, 0)], (.invokevirtual 40, 3, (129, 2, 11), [1])),
  (7, [(.i2l, 1, 0, 0), (.lastore, 1, 0, 0)], (.goto 6, 3, (0, 0, 0), [3])),
  (12, [(.astore_n 3, 1, 0, 0), (.iconst 1, 1, 0, 0)], (.ireturn, 1, (0, 0, 0), [])),
  (15, [(.iconst 0, 1, 0, 0)], (.ireturn, 1, (0, 0, 0), []))])
def am_L_leftAt : ab_M := (5, [(2, 2), (3, 3)], [
  (0, [(.aload_n 3, 1, 0, 0), (.iconst 0, 1, 0, 0), (.aload_n 0, 1, 0, 0), (.iload_n 1, 1, 0, 0), (.iload_n 2, 1, 0, 0)], (.invokevirtual 43, 3, (130, 3, 11), [1])),
  (8, [(.i2l, 1, 0, 0), (.lastore, 1, 0, 0)], (.goto 11, 3, (0, 0, 0), [4])),
  (13, [(.astore 4, 2, 0, 0), (.iconst 1, 1, 0, 0)], (.ireturn, 1, (0, 0, 0), [])),
  (17, [(.astore 4, 2, 0, 0), (.iconst 2, 1, 0, 0)], (.ireturn, 1, (0, 0, 0), [])),
  (21, [(.iconst 0, 1, 0, 0)], (.ireturn, 1, (0, 0, 0), []))])
def am_L_next : ab_M := (3, [(1, 5)], [
  (0, [(.aload_n 1, 1, 0, 0), (.iconst 0, 1, 0, 0), (.aload_n 0, 1, 0, 0)], (.invokevirtual 48, 3, (132, 1, 11), [1])),
  (6, [], (.ifCond .eq 7, 3, (0, 0, 0), [3, 2])),
  (9, [(.lconst 1, 1, 0, 0)], (.goto 4, 3, (0, 0, 0), [4])),
  (13, [(.lconst 0, 1, 0, 0)], (.nop, 0, (0, 0, 0), [4])),
  (14, [(.lastore, 1, 0, 0)], (.goto 6, 3, (0, 0, 0), [6])),
  (18, [(.astore_n 2, 1, 0, 0), (.iconst 1, 1, 0, 0)], (.ireturn, 1, (0, 0, 0), [])),
  (21, [(.iconst 0, 1, 0, 0)], (.ireturn, 1, (0, 0, 0), []))])
def am_L_place : ab_M := (6, [(2, 2)], [
  (0, [(.aload 4, 2, 0, 0), (.iconst 0, 1, 0, 0), (.aload_n 0, 1, 0, 0), (.iload_n 1, 1, 0, 0), (.iload_n 2, 1, 0, 0), (.iload_n 3, 1, 0, 0)], (.invokevirtual 52, 3, (133, 4, 11), [1])),
  (10, [(.i2l, 1, 0, 0), (.lastore, 1, 0, 0)], (.goto 7, 3, (0, 0, 0), [3])),
  (15, [(.astore 5, 2, 0, 0), (.iconst 1, 1, 0, 0)], (.ireturn, 1, (0, 0, 0), [])),
  (19, [(.iconst 0, 1, 0, 0)], (.ireturn, 1, (0, 0, 0), []))])
def am_L_at : ab_M := (4, [(2, 2), (1, 3)], [
  (0, [(.aload_n 2, 1, 0, 0), (.iconst 0, 1, 0, 0), (.aload_n 0, 1, 0, 0), (.iload_n 1, 1, 0, 0)], (.invokevirtual 55, 3, (134, 2, 11), [1])),
  (7, [(.i2l, 1, 0, 0), (.lastore, 1, 0, 0)], (.goto 9, 3, (0, 0, 0), [4])),
  (12, [(.astore_n 3, 1, 0, 0), (.iconst 1, 1, 0, 0)], (.ireturn, 1, (0, 0, 0), [])),
  (15, [(.astore_n 3, 1, 0, 0), (.iconst 2, 1, 0, 0)], (.ireturn, 1, (0, 0, 0), [])),
  (18, [(.iconst 0, 1, 0, 0)], (.ireturn, 1, (0, 0, 0), []))])
def am_L_broken : ab_M := (3, [(1, 2)], [
  (0, [(.aload_n 1, 1, 0, 0), (.iconst 0, 1, 0, 0), (.aload_n 0, 1, 0, 0)], (.invokevirtual 58, 3, (135, 1, 11), [1])),
  (6, [(.i2l, 1, 0, 0), (.lastore, 1, 0, 0)], (.goto 6, 3, (0, 0, 0), [3])),
  (11, [(.astore_n 2, 1, 0, 0), (.iconst 1, 1, 0, 0)], (.ireturn, 1, (0, 0, 0), [])),
  (14, [(.iconst 0, 1, 0, 0)], (.ireturn, 1, (0, 0, 0), []))])
def am_L_groundFaults : ab_M := (3, [(1, 2)], [
  (0, [(.aload_n 1, 1, 0, 0), (.iconst 0, 1, 0, 0), (.aload_n 0, 1, 0, 0)], (.invokevirtual 61, 3, (136, 1, 11), [1])),
  (6, [(.i2l, 1, 0, 0), (.lastore, 1, 0, 0)], (.goto 6, 3, (0, 0, 0), [3])),
  (11, [(.astore_n 2, 1, 0, 0), (.iconst 1, 1, 0, 0)], (.ireturn, 1, (0, 0, 0), [])),
  (14, [(.iconst 0, 1, 0, 0)], (.ireturn, 1, (0, 0, 0), []))])
def am_L_image : ab_M := (3, [(1, 2)], [
  (0, [(.aload_n 1, 1, 0, 0), (.iconst 0, 1, 0, 0), (.aload_n 0, 1, 0, 0)], (.invokevirtual 64, 3, (137, 1, 11), [1])),
  (6, [(.i2l, 1, 0, 0), (.lastore, 1, 0, 0)], (.goto 6, 3, (0, 0, 0), [3])),
  (11, [(.astore_n 2, 1, 0, 0), (.iconst 1, 1, 0, 0)], (.ireturn, 1, (0, 0, 0), [])),
  (14, [(.iconst 0, 1, 0, 0)], (.ireturn, 1, (0, 0, 0), []))])
def am_L_restore : ab_M := (3, [(1, 2)], [
  (0, [(.aload_n 1, 1, 0, 0), (.iconst 0, 1, 0, 0), (.aload_n 0, 1, 0, 0)], (.invokevirtual 67, 3, (138, 1, 11), [1])),
  (6, [(.i2l, 1, 0, 0), (.lastore, 1, 0, 0)], (.goto 6, 3, (0, 0, 0), [3])),
  (11, [(.astore_n 2, 1, 0, 0), (.iconst 1, 1, 0, 0)], (.ireturn, 1, (0, 0, 0), [])),
  (14, [(.iconst 0, 1, 0, 0)], (.ireturn, 1, (0, 0, 0), []))])
def am_L_print : ab_M := (5, [(0, 2), (2, 3), (1, 4)], [
  (0, [(.aload_n 3, 1, 0, 0), (.iconst 0, 1, 0, 0), (.aload_n 0, 1, 0, 0), (.iload_n 1, 1, 0, 0), (.iload_n 2, 1, 0, 0)], (.invokevirtual 70, 3, (139, 3, 11), [1])),
  (8, [(.i2l, 1, 0, 0), (.lastore, 1, 0, 0)], (.goto 15, 3, (0, 0, 0), [5])),
  (13, [(.astore 4, 2, 0, 0), (.iconst 1, 1, 0, 0)], (.ireturn, 1, (0, 0, 0), [])),
  (17, [(.astore 4, 2, 0, 0), (.iconst 2, 1, 0, 0)], (.ireturn, 1, (0, 0, 0), [])),
  (21, [(.astore 4, 2, 0, 0), (.iconst 3, 1, 0, 0)], (.ireturn, 1, (0, 0, 0), [])),
  (25, [(.iconst 0, 1, 0, 0)], (.ireturn, 1, (0, 0, 0), []))])
def am_L_coreAt : ab_M := (4, [(3, 2)], [
  (0, [(.aload_n 2, 1, 0, 0), (.iconst 0, 1, 0, 0), (.aload_n 0, 1, 0, 0), (.iload_n 1, 1, 0, 0)], (.invokevirtual 73, 3, (143, 2, 11), [1])),
  (7, [(.i2l, 1, 0, 0), (.lastore, 1, 0, 0)], (.goto 6, 3, (0, 0, 0), [3])),
  (12, [(.astore_n 3, 1, 0, 0), (.iconst 1, 1, 0, 0)], (.ireturn, 1, (0, 0, 0), [])),
  (15, [(.iconst 0, 1, 0, 0)], (.ireturn, 1, (0, 0, 0), []))])
def am_L_isNeeded : ab_M := (4, [(2, 5)], [
  (0, [(.aload_n 2, 1, 0, 0), (.iconst 0, 1, 0, 0), (.aload_n 0, 1, 0, 0), (.iload_n 1, 1, 0, 0)], (.invokevirtual 76, 3, (144, 2, 11), [1])),
  (7, [], (.ifCond .eq 7, 3, (0, 0, 0), [3, 2])),
  (10, [(.lconst 1, 1, 0, 0)], (.goto 4, 3, (0, 0, 0), [4])),
  (14, [(.lconst 0, 1, 0, 0)], (.nop, 0, (0, 0, 0), [4])),
  (15, [(.lastore, 1, 0, 0)], (.goto 6, 3, (0, 0, 0), [6])),
  (19, [(.astore_n 3, 1, 0, 0), (.iconst 1, 1, 0, 0)], (.ireturn, 1, (0, 0, 0), [])),
  (22, [(.iconst 0, 1, 0, 0)], (.ireturn, 1, (0, 0, 0), []))])
def am_L_matched : ab_M := (4, [(2, 2), (1, 3)], [
  (0, [(.aload_n 2, 1, 0, 0), (.iconst 0, 1, 0, 0), (.aload_n 0, 1, 0, 0), (.iload_n 1, 1, 0, 0)], (.invokevirtual 80, 3, (145, 2, 11), [1])),
  (7, [(.i2l, 1, 0, 0), (.lastore, 1, 0, 0)], (.goto 9, 3, (0, 0, 0), [4])),
  (12, [(.astore_n 3, 1, 0, 0), (.iconst 1, 1, 0, 0)], (.ireturn, 1, (0, 0, 0), [])),
  (15, [(.astore_n 3, 1, 0, 0), (.iconst 2, 1, 0, 0)], (.ireturn, 1, (0, 0, 0), [])),
  (18, [(.iconst 0, 1, 0, 0)], (.ireturn, 1, (0, 0, 0), []))])
def am_L_unfit : ab_M := (4, [(2, 2), (1, 3)], [
  (0, [(.aload_n 2, 1, 0, 0), (.iconst 0, 1, 0, 0), (.aload_n 0, 1, 0, 0), (.iload_n 1, 1, 0, 0)], (.invokevirtual 83, 3, (146, 2, 11), [1])),
  (7, [(.i2l, 1, 0, 0), (.lastore, 1, 0, 0)], (.goto 9, 3, (0, 0, 0), [4])),
  (12, [(.astore_n 3, 1, 0, 0), (.iconst 1, 1, 0, 0)], (.ireturn, 1, (0, 0, 0), [])),
  (15, [(.astore_n 3, 1, 0, 0), (.iconst 2, 1, 0, 0)], (.ireturn, 1, (0, 0, 0), [])),
  (18, [(.iconst 0, 1, 0, 0)], (.ireturn, 1, (0, 0, 0), []))])
def am_L_setWeights : ab_M := (6, [(0, 2)], [
  (0, [(.aload 4, 2, 0, 0), (.iconst 0, 1, 0, 0), (.aload_n 0, 1, 0, 0), (.iload_n 1, 1, 0, 0), (.iload_n 2, 1, 0, 0), (.iload_n 3, 1, 0, 0)], (.invokevirtual 86, 3, (147, 4, 11), [1])),
  (10, [(.i2l, 1, 0, 0), (.lastore, 1, 0, 0)], (.goto 7, 3, (0, 0, 0), [3])),
  (15, [(.astore 5, 2, 0, 0), (.iconst 1, 1, 0, 0)], (.ireturn, 1, (0, 0, 0), [])),
  (19, [(.iconst 0, 1, 0, 0)], (.ireturn, 1, (0, 0, 0), []))])
def am_L_weight : ab_M := (3, [(1, 2)], [
  (0, [(.aload_n 1, 1, 0, 0), (.iconst 0, 1, 0, 0), (.aload_n 0, 1, 0, 0)], (.invokevirtual 89, 3, (148, 1, 11), [1])),
  (6, [(.i2l, 1, 0, 0), (.lastore, 1, 0, 0)], (.goto 6, 3, (0, 0, 0), [3])),
  (11, [(.astore_n 2, 1, 0, 0), (.iconst 1, 1, 0, 0)], (.ireturn, 1, (0, 0, 0), [])),
  (14, [(.iconst 0, 1, 0, 0)], (.ireturn, 1, (0, 0, 0), []))])
def am_L_improve : ab_M := (3, [(1, 2)], [
  (0, [(.aload_n 1, 1, 0, 0), (.iconst 0, 1, 0, 0), (.aload_n 0, 1, 0, 0)], (.invokevirtual 92, 3, (151, 1, 11), [1])),
  (6, [(.i2l, 1, 0, 0), (.lastore, 1, 0, 0)], (.goto 6, 3, (0, 0, 0), [3])),
  (11, [(.astore_n 2, 1, 0, 0), (.iconst 1, 1, 0, 0)], (.ireturn, 1, (0, 0, 0), [])),
  (14, [(.iconst 0, 1, 0, 0)], (.ireturn, 1, (0, 0, 0), []))])
def am_L_away : ab_M := (5, [(2, 2), (1, 3)], [
  (0, [(.aload_n 3, 1, 0, 0), (.iconst 0, 1, 0, 0), (.aload_n 0, 1, 0, 0), (.iload_n 1, 1, 0, 0), (.iload_n 2, 1, 0, 0)], (.invokevirtual 95, 3, (152, 3, 11), [1])),
  (8, [(.i2l, 1, 0, 0), (.lastore, 1, 0, 0)], (.goto 11, 3, (0, 0, 0), [4])),
  (13, [(.astore 4, 2, 0, 0), (.iconst 1, 1, 0, 0)], (.ireturn, 1, (0, 0, 0), [])),
  (17, [(.astore 4, 2, 0, 0), (.iconst 2, 1, 0, 0)], (.ireturn, 1, (0, 0, 0), [])),
  (21, [(.iconst 0, 1, 0, 0)], (.ireturn, 1, (0, 0, 0), []))])
def am_L_against : ab_M := (5, [(2, 2)], [
  (0, [(.aload_n 3, 1, 0, 0), (.iconst 0, 1, 0, 0), (.aload_n 0, 1, 0, 0), (.iload_n 1, 1, 0, 0), (.iload_n 2, 1, 0, 0)], (.invokevirtual 98, 3, (153, 3, 11), [1])),
  (8, [(.i2l, 1, 0, 0), (.lastore, 1, 0, 0)], (.goto 7, 3, (0, 0, 0), [3])),
  (13, [(.astore 4, 2, 0, 0), (.iconst 1, 1, 0, 0)], (.ireturn, 1, (0, 0, 0), [])),
  (17, [(.iconst 0, 1, 0, 0)], (.ireturn, 1, (0, 0, 0), []))])
def am_L_share : ab_M := (4, [(2, 2), (1, 3)], [
  (0, [(.aload_n 2, 1, 0, 0), (.iconst 0, 1, 0, 0), (.aload_n 0, 1, 0, 0), (.iload_n 1, 1, 0, 0)], (.invokevirtual 101, 3, (155, 2, 11), [1])),
  (7, [(.i2l, 1, 0, 0), (.lastore, 1, 0, 0)], (.goto 9, 3, (0, 0, 0), [4])),
  (12, [(.astore_n 3, 1, 0, 0), (.iconst 1, 1, 0, 0)], (.ireturn, 1, (0, 0, 0), [])),
  (15, [(.astore_n 3, 1, 0, 0), (.iconst 2, 1, 0, 0)], (.ireturn, 1, (0, 0, 0), [])),
  (18, [(.iconst 0, 1, 0, 0)], (.ireturn, 1, (0, 0, 0), []))])
def am_L_examDays : ab_M := (4, [(0, 2)], [
  (0, [(.aload_n 2, 1, 0, 0), (.iconst 0, 1, 0, 0), (.aload_n 0, 1, 0, 0), (.iload_n 1, 1, 0, 0)], (.invokevirtual 104, 3, (156, 2, 11), [1])),
  (7, [(.i2l, 1, 0, 0), (.lastore, 1, 0, 0)], (.goto 6, 3, (0, 0, 0), [3])),
  (12, [(.astore_n 3, 1, 0, 0), (.iconst 1, 1, 0, 0)], (.ireturn, 1, (0, 0, 0), [])),
  (15, [(.iconst 0, 1, 0, 0)], (.ireturn, 1, (0, 0, 0), []))])
def am_L_examDay : ab_M := (5, [(2, 2), (0, 3)], [
  (0, [(.aload_n 3, 1, 0, 0), (.iconst 0, 1, 0, 0), (.aload_n 0, 1, 0, 0), (.iload_n 1, 1, 0, 0), (.iload_n 2, 1, 0, 0)], (.invokevirtual 107, 3, (157, 3, 11), [1])),
  (8, [(.i2l, 1, 0, 0), (.lastore, 1, 0, 0)], (.goto 11, 3, (0, 0, 0), [4])),
  (13, [(.astore 4, 2, 0, 0), (.iconst 1, 1, 0, 0)], (.ireturn, 1, (0, 0, 0), [])),
  (17, [(.astore 4, 2, 0, 0), (.iconst 2, 1, 0, 0)], (.ireturn, 1, (0, 0, 0), [])),
  (21, [(.iconst 0, 1, 0, 0)], (.ireturn, 1, (0, 0, 0), []))])
def am_L_count : ab_M := (4, [(0, 2)], [
  (0, [(.aload_n 2, 1, 0, 0), (.iconst 0, 1, 0, 0), (.aload_n 0, 1, 0, 0), (.iload_n 1, 1, 0, 0)], (.invokevirtual 110, 3, (158, 2, 11), [1])),
  (7, [(.i2l, 1, 0, 0), (.lastore, 1, 0, 0)], (.goto 6, 3, (0, 0, 0), [3])),
  (12, [(.astore_n 3, 1, 0, 0), (.iconst 1, 1, 0, 0)], (.ireturn, 1, (0, 0, 0), [])),
  (15, [(.iconst 0, 1, 0, 0)], (.ireturn, 1, (0, 0, 0), []))])
def am_L_meanHour : ab_M := (3, [(1, 2)], [
  (0, [(.aload_n 1, 1, 0, 0), (.iconst 0, 1, 0, 0), (.aload_n 0, 1, 0, 0)], (.invokevirtual 113, 3, (160, 1, 11), [1])),
  (6, [(.dastore, 1, 0, 0)], (.goto 6, 3, (0, 0, 0), [3])),
  (10, [(.astore_n 2, 1, 0, 0), (.iconst 1, 1, 0, 0)], (.ireturn, 1, (0, 0, 0), [])),
  (13, [(.iconst 0, 1, 0, 0)], (.ireturn, 1, (0, 0, 0), []))])
def am_L_usedShare : ab_M := (3, [(1, 2)], [
  (0, [(.aload_n 1, 1, 0, 0), (.iconst 0, 1, 0, 0), (.aload_n 0, 1, 0, 0)], (.invokevirtual 117, 3, (161, 1, 11), [1])),
  (6, [(.f2d, 1, 0, 0), (.dastore, 1, 0, 0)], (.goto 6, 3, (0, 0, 0), [3])),
  (11, [(.astore_n 2, 1, 0, 0), (.iconst 1, 1, 0, 0)], (.ireturn, 1, (0, 0, 0), [])),
  (14, [(.iconst 0, 1, 0, 0)], (.ireturn, 1, (0, 0, 0), []))])
def am_X8_fitsSome : ab_M := (4, [], [
  (0, [(.iconst 0, 1, 0, 0), (.istore_n 3, 1, 0, 0)], (.nop, 0, (0, 0, 0), [1])),
  (2, [(.iload_n 3, 1, 0, 0), (.aload_n 0, 1, 0, 0), (.getfield 7, 3, 8, 0), (.getfield 38, 3, 6, 6)], (.if_icmp .ge 31, 3, (0, 0, 0), [7, 2])),
  (13, [(.iload_n 1, 1, 0, 0), (.iload_n 3, 1, 0, 0), (.ishr, 1, 0, 0), (.iconst 1, 1, 0, 0), (.iand, 1, 0, 0)], (.ifCond .eq 17, 3, (0, 0, 0), [6, 3])),
  (21, [(.aload_n 0, 1, 0, 0), (.getfield 7, 3, 8, 0), (.iload_n 3, 1, 0, 0), (.iload_n 2, 1, 0, 0)], (.invokevirtual 41, 3, (65, 3, 6), [4])),
  (30, [], (.ifCond .eq 5, 3, (0, 0, 0), [6, 5])),
  (33, [(.iconst 1, 1, 0, 0)], (.ireturn, 1, (1, 0, 0), [])),
  (35, [(.iinc 3 1, 3, 0, 0)], (.goto (-36), 3, (0, 0, 0), [1])),
  (41, [(.iconst 0, 1, 0, 0)], (.ireturn, 1, (1, 0, 0), []))])
abbrev aq_X0_init : ab_Q := (yX0_init, cX0_init, none, true, [])
abbrev aq_X0_enumerate : ab_Q := (yX0_enumerate, cX0_enumerate, (some .boolean), false, [])
abbrev aq_X0_someKeeps : ab_Q := (yX0_someKeeps, cX0_someKeeps, (some .boolean), false, [])
abbrev aq_X0_countTimetables : ab_Q := (yX0_countTimetables, cX0_countTimetables, (some .int), false, [])
abbrev aq_X0_stands : ab_Q := (yX0_stands, cX0_stands, (some .boolean), false, [])
abbrev aq_X0_walk : ab_Q := (yX0_walk, cX0_walk, none, false, [])
abbrev aq_X0_clashesWithNone : ab_Q := (yX0_clashesWithNone, cX0_clashesWithNone, (some .boolean), false, [])
abbrev aq_X0_look : ab_Q := (yX0_look, cX0_look, none, false, [])
abbrev aq_X1_init : ab_Q := (yX1_init, cX1_init, none, true, [])
abbrev aq_X1_spread : ab_Q := (yX1_spread, cX1_spread, (some .int), false, [])
abbrev aq_X1_fill : ab_Q := (yX1_fill, cX1_fill, (some .boolean), false, [])
abbrev aq_X1_isFree : ab_Q := (yX1_isFree, cX1_isFree, (some .boolean), false, [])
abbrev aq_X2_init : ab_Q := (yX2_init, cX2_init, none, true, [])
abbrev aq_X2_faults : ab_Q := (yX2_faults, cX2_faults, (some .int), false, [])
abbrev aq_X2_pairFaults : ab_Q := (yX2_pairFaults, cX2_pairFaults, (some .int), false, [])
abbrev aq_X2_toldBroken : ab_Q := (yX2_toldBroken, cX2_toldBroken, (some .int), false, [])
abbrev aq_X2_isGood : ab_Q := (yX2_isGood, cX2_isGood, (some .boolean), false, [])
abbrev aq_X2_coverOfTeacher : ab_Q := (yX2_coverOfTeacher, cX2_coverOfTeacher, (some .int), false, [])
abbrev aq_X2_coverOfRoom : ab_Q := (yX2_coverOfRoom, cX2_coverOfRoom, (some .int), false, [])
abbrev aq_X2_longestDay : ab_Q := (yX2_longestDay, cX2_longestDay, (some .int), false, [])
abbrev aq_X2_lessonsIn : ab_Q := (yX2_lessonsIn, cX2_lessonsIn, (some .int), false, [])
abbrev aq_X2_lessonOf : ab_Q := (yX2_lessonOf, cX2_lessonOf, (some .int), false, [])
abbrev aq_X2_weightOf : ab_Q := (yX2_weightOf, cX2_weightOf, (some .int), false, [])
abbrev aq_X2_gapsIn : ab_Q := (yX2_gapsIn, cX2_gapsIn, (some .int), false, [])
abbrev aq_X2_shareOf : ab_Q := (yX2_shareOf, cX2_shareOf, (some .int), false, [])
abbrev aq_X3_init : ab_Q := (yX3_init, cX3_init, none, true, [])
abbrev aq_X3_ask : ab_Q := (yX3_ask, cX3_ask, none, false, [])
abbrev aq_X3_pairIndex : ab_Q := (yX3_pairIndex, cX3_pairIndex, (some .int), false, [])
abbrev aq_X3_valueIndex : ab_Q := (yX3_valueIndex, cX3_valueIndex, (some .int), false, [])
abbrev aq_X3_learnGround : ab_Q := (yX3_learnGround, cX3_learnGround, none, false, [])
abbrev aq_X3_groundPartners : ab_Q := (yX3_groundPartners, cX3_groundPartners, (some .int), false, [])
abbrev aq_X3_openLesson : ab_Q := (yX3_openLesson, cX3_openLesson, none, false, [])
abbrev aq_X3_keep : ab_Q := (yX3_keep, cX3_keep, none, false, [])
abbrev aq_X3_keepPair : ab_Q := (yX3_keepPair, cX3_keepPair, none, false, [])
abbrev aq_X3_keepRooms : ab_Q := (yX3_keepRooms, cX3_keepRooms, none, false, [])
abbrev aq_X3_dropLonelyStarts : ab_Q := (yX3_dropLonelyStarts, cX3_dropLonelyStarts, (some .boolean), false, [])
abbrev aq_X3_isLonelyStart : ab_Q := (yX3_isLonelyStart, cX3_isLonelyStart, (some .boolean), false, [])
abbrev aq_X3_barLesson : ab_Q := (yX3_barLesson, cX3_barLesson, none, false, [])
abbrev aq_X3_barTeacher : ab_Q := (yX3_barTeacher, cX3_barTeacher, none, false, [])
abbrev aq_X3_allow : ab_Q := (yX3_allow, cX3_allow, none, false, [])
abbrev aq_X3_costWeights : ab_Q := (yX3_costWeights, cX3_costWeights, none, false, [])
abbrev aq_X3_costChanges : ab_Q := (yX3_costChanges, cX3_costChanges, none, false, [])
abbrev aq_X3_costShares : ab_Q := (yX3_costShares, cX3_costShares, none, false, [])
abbrev aq_X3_price : ab_Q := (yX3_price, cX3_price, none, false, [])
abbrev aq_X4_init : ab_Q := (yX4_init, cX4_init, none, true, [])
abbrev aq_X4_moveOne : ab_Q := (yX4_moveOne, cX4_moveOne, (some .int), false, [])
abbrev aq_X4_extend : ab_Q := (yX4_extend, cX4_extend, none, false, [])
abbrev aq_X4_isIn : ab_Q := (yX4_isIn, cX4_isIn, (some .boolean), false, [])
abbrev aq_X4_weigh : ab_Q := (yX4_weigh, cX4_weigh, none, false, [])
abbrev aq_X5_init : ab_Q := (yX5_init, cX5_init, none, true, [])
abbrev aq_X5_keepable : ab_Q := (yX5_keepable, cX5_keepable, (some .boolean), false, [])
abbrev aq_X5_stubborn : ab_Q := (yX5_stubborn, cX5_stubborn, (some .int), false, [])
abbrev aq_X5_refresh : ab_Q := (yX5_refresh, cX5_refresh, none, false, [])
abbrev aq_X5_isKept : ab_Q := (yX5_isKept, cX5_isKept, (some .boolean), false, [])
abbrev aq_X6_init : ab_Q := (yX6_init, cX6_init, none, true, [])
abbrev aq_X6_allSlots : ab_Q := (yX6_allSlots, cX6_allSlots, (some .int), false, [])
abbrev aq_X6_allRules : ab_Q := (yX6_allRules, cX6_allRules, (some .int), false, [])
abbrev aq_X6_areLessons : ab_Q := (yX6_areLessons, cX6_areLessons, (some .boolean), false, [])
abbrev aq_X6_dayOf : ab_Q := (yX6_dayOf, cX6_dayOf, (some .int), false, [])
abbrev aq_X6_hourOf : ab_Q := (yX6_hourOf, cX6_hourOf, (some .int), false, [])
abbrev aq_X6_dayMask : ab_Q := (yX6_dayMask, cX6_dayMask, (some .int), false, [])
abbrev aq_X6_lastHours : ab_Q := (yX6_lastHours, cX6_lastHours, (some .int), false, [])
abbrev aq_X6_lastSlot : ab_Q := (yX6_lastSlot, cX6_lastSlot, (some .int), false, [])
abbrev aq_X6_cover : ab_Q := (yX6_cover, cX6_cover, (some .int), false, [])
abbrev aq_X6_staysInDay : ab_Q := (yX6_staysInDay, cX6_staysInDay, (some .boolean), false, [])
abbrev aq_X6_hasSeats : ab_Q := (yX6_hasSeats, cX6_hasSeats, (some .boolean), false, [])
abbrev aq_X6_shareClass : ab_Q := (yX6_shareClass, cX6_shareClass, (some .boolean), false, [])
abbrev aq_X6_shareTeacher : ab_Q := (yX6_shareTeacher, cX6_shareTeacher, (some .boolean), false, [])
abbrev aq_X6_weightOfValue : ab_Q := (yX6_weightOfValue, cX6_weightOfValue, (some .int), false, [])
abbrev aq_X6_hasRuleWithSlot : ab_Q := (yX6_hasRuleWithSlot, cX6_hasRuleWithSlot, (some .boolean), false, [])
abbrev aq_X6_canBeRule : ab_Q := (yX6_canBeRule, cX6_canBeRule, (some .boolean), false, [])
abbrev aq_X6_removeRule : ab_Q := (yX6_removeRule, cX6_removeRule, none, false, [])
abbrev aq_X6_pairKept : ab_Q := (yX6_pairKept, cX6_pairKept, (some .boolean), false, [])
abbrev aq_X7_init : ab_Q := (yX7_init, cX7_init, none, true, [])
abbrev aq_X7_seek : ab_Q := (yX7_seek, cX7_seek, (some .int), false, [])
abbrev aq_X7_cheapest : ab_Q := (yX7_cheapest, cX7_cheapest, (some .int), false, [])
abbrev aq_X7_behind : ab_Q := (yX7_behind, cX7_behind, (some .boolean), false, [])
abbrev aq_X7_existsBehind : ab_Q := (yX7_existsBehind, cX7_existsBehind, (some .boolean), false, [])
abbrev aq_X7_restrict : ab_Q := (yX7_restrict, cX7_restrict, none, false, [])
abbrev aq_X7_lessen : ab_Q := (yX7_lessen, cX7_lessen, none, false, [])
abbrev aq_X7_explore : ab_Q := (yX7_explore, cX7_explore, (some .boolean), false, [])
abbrev aq_X7_narrow : ab_Q := (yX7_narrow, cX7_narrow, (some .boolean), false, [])
abbrev aq_X7_withinDayLimit : ab_Q := (yX7_withinDayLimit, cX7_withinDayLimit, (some .int), false, [])
abbrev aq_X7_tightest : ab_Q := (yX7_tightest, cX7_tightest, (some .int), false, [])
abbrev aq_X7_seat : ab_Q := (yX7_seat, cX7_seat, (some .boolean), false, [])
abbrev aq_X7_takenRooms : ab_Q := (yX7_takenRooms, cX7_takenRooms, (some .int), false, [])
abbrev aq_X7_record : ab_Q := (yX7_record, cX7_record, (some .boolean), false, [])
abbrev aq_X7_lowest : ab_Q := (yX7_lowest, cX7_lowest, (some .int), false, [])
abbrev aq_X7_cheapestSlot : ab_Q := (yX7_cheapestSlot, cX7_cheapestSlot, (some .int), false, [])
abbrev aq_X7_sureGaps : ab_Q := (yX7_sureGaps, cX7_sureGaps, (some .int), false, [])
abbrev aq_X7_canFill : ab_Q := (yX7_canFill, cX7_canFill, (some .boolean), false, [])
abbrev aq_X7_lowestShares : ab_Q := (yX7_lowestShares, cX7_lowestShares, (some .int), false, [])
abbrev aq_X7_mustEndLast : ab_Q := (yX7_mustEndLast, cX7_mustEndLast, (some .boolean), false, [])
abbrev aq_X8_init : ab_Q := (yX8_init, cX8_init, none, true, [])
abbrev aq_X8_mostSeated : ab_Q := (yX8_mostSeated, cX8_mostSeated, (some .int), false, [])
abbrev aq_X8_fewestUnseated : ab_Q := (yX8_fewestUnseated, cX8_fewestUnseated, (some .int), false, [])
abbrev aq_X8_roomsFor : ab_Q := (yX8_roomsFor, cX8_roomsFor, (some .int), false, [])
abbrev aq_X9_init : ab_Q := (yX9_init, cX9_init, none, true, [])
abbrev aq_X9_begin : ab_Q := (yX9_begin, cX9_begin, none, false, [])
abbrev aq_X9_copyFrom : ab_Q := (yX9_copyFrom, cX9_copyFrom, none, false, [])
abbrev aq_X9_valueOf : ab_Q := (yX9_valueOf, cX9_valueOf, (some .int), false, [])
abbrev aq_X9_differences : ab_Q := (yX9_differences, cX9_differences, (some .int), false, [])
abbrev aq_X9_standsIn : ab_Q := (yX9_standsIn, cX9_standsIn, (some .boolean), false, [])
abbrev aq_X10_init : ab_Q := (yX10_init, cX10_init, none, true, [])
abbrev aq_X10_refresh : ab_Q := (yX10_refresh, cX10_refresh, none, false, [])
abbrev aq_X10_told : ab_Q := (yX10_told, cX10_told, (some .int), false, [])
abbrev aq_X10_isOpen : ab_Q := (yX10_isOpen, cX10_isOpen, (some .boolean), false, [])
abbrev aq_X10_leastWeight : ab_Q := (yX10_leastWeight, cX10_leastWeight, (some .int), false, [])
abbrev aq_X10_leastOf : ab_Q := (yX10_leastOf, cX10_leastOf, (some .int), false, [])
abbrev aq_X10_begin : ab_Q := (yX10_begin, cX10_begin, (some .int), false, [])
abbrev aq_X10_dropLonely : ab_Q := (yX10_dropLonely, cX10_dropLonely, (some .boolean), false, [])
abbrev aq_X10_isLonely : ab_Q := (yX10_isLonely, cX10_isLonely, (some .boolean), false, [])
abbrev aq_X10_hasPartner : ab_Q := (yX10_hasPartner, cX10_hasPartner, (some .boolean), false, [])
abbrev aq_X10_dropCrowded : ab_Q := (yX10_dropCrowded, cX10_dropCrowded, (some .boolean), false, [])
abbrev aq_X10_lessonsOf : ab_Q := (yX10_lessonsOf, cX10_lessonsOf, (some .int), false, [])
abbrev aq_X10_crowdGroup : ab_Q := (yX10_crowdGroup, cX10_crowdGroup, (some .boolean), false, [])
abbrev aq_X10_coverLeft : ab_Q := (yX10_coverLeft, cX10_coverLeft, (some .int), false, [])
abbrev aq_X10_coverOfSet : ab_Q := (yX10_coverOfSet, cX10_coverOfSet, (some .int), false, [])
abbrev aq_X10_lengthOfSet : ab_Q := (yX10_lengthOfSet, cX10_lengthOfSet, (some .int), false, [])
abbrev aq_X10_dropAll : ab_Q := (yX10_dropAll, cX10_dropAll, (some .boolean), false, [])
abbrev aq_X10_dropCovering : ab_Q := (yX10_dropCovering, cX10_dropCovering, (some .boolean), false, [])
abbrev aq_X11_init : ab_Q := (yX11_init, cX11_init, none, true, [])
abbrev aq_X11_setGrid : ab_Q := (yX11_setGrid, cX11_setGrid, (some .int), false, [])
abbrev aq_X11_addClass : ab_Q := (yX11_addClass, cX11_addClass, (some .int), false, [])
abbrev aq_X11_addTeacher : ab_Q := (yX11_addTeacher, cX11_addTeacher, (some .int), false, [])
abbrev aq_X11_addRoom : ab_Q := (yX11_addRoom, cX11_addRoom, (some .int), false, [])
abbrev aq_X11_addLesson : ab_Q := (yX11_addLesson, cX11_addLesson, (some .int), false, [])
abbrev aq_X11_addRule : ab_Q := (yX11_addRule, cX11_addRule, (some .int), false, [])
abbrev aq_X11_dropRule : ab_Q := (yX11_dropRule, cX11_dropRule, (some .int), false, [])
abbrev aq_X11_left : ab_Q := (yX11_left, cX11_left, (some .int), false, [])
abbrev aq_X11_leftAt : ab_Q := (yX11_leftAt, cX11_leftAt, (some .int), false, [])
abbrev aq_X11_first : ab_Q := (yX11_first, cX11_first, (some .boolean), false, [])
abbrev aq_X11_next : ab_Q := (yX11_next, cX11_next, (some .boolean), false, [])
abbrev aq_X11_place : ab_Q := (yX11_place, cX11_place, (some .int), false, [])
abbrev aq_X11_at : ab_Q := (yX11_at, cX11_at, (some .int), false, [])
abbrev aq_X11_broken : ab_Q := (yX11_broken, cX11_broken, (some .int), false, [])
abbrev aq_X11_groundFaults : ab_Q := (yX11_groundFaults, cX11_groundFaults, (some .int), false, [])
abbrev aq_X11_image : ab_Q := (yX11_image, cX11_image, (some .int), false, [])
abbrev aq_X11_restore : ab_Q := (yX11_restore, cX11_restore, (some .int), false, [])
abbrev aq_X11_print : ab_Q := (yX11_print, cX11_print, (some .int), false, [])
abbrev aq_X11_outputByte : ab_Q := (yX11_outputByte, cX11_outputByte, (some .int), false, [])
abbrev aq_X11_core : ab_Q := (yX11_core, cX11_core, (some .int), false, [])
abbrev aq_X11_cores : ab_Q := (yX11_cores, cX11_cores, (some .int), false, [])
abbrev aq_X11_coreAt : ab_Q := (yX11_coreAt, cX11_coreAt, (some .int), false, [])
abbrev aq_X11_isNeeded : ab_Q := (yX11_isNeeded, cX11_isNeeded, (some .boolean), false, [])
abbrev aq_X11_matched : ab_Q := (yX11_matched, cX11_matched, (some .int), false, [])
abbrev aq_X11_unfit : ab_Q := (yX11_unfit, cX11_unfit, (some .int), false, [])
abbrev aq_X11_setWeights : ab_Q := (yX11_setWeights, cX11_setWeights, (some .int), false, [])
abbrev aq_X11_weight : ab_Q := (yX11_weight, cX11_weight, (some .int), false, [])
abbrev aq_X11_best : ab_Q := (yX11_best, cX11_best, (some .int), false, [])
abbrev aq_X11_bound : ab_Q := (yX11_bound, cX11_bound, (some .int), false, [])
abbrev aq_X11_improve : ab_Q := (yX11_improve, cX11_improve, (some .int), false, [])
abbrev aq_X11_away : ab_Q := (yX11_away, cX11_away, (some .int), false, [])
abbrev aq_X11_against : ab_Q := (yX11_against, cX11_against, (some .int), false, [])
abbrev aq_X11_fairest : ab_Q := (yX11_fairest, cX11_fairest, (some .boolean), false, [])
abbrev aq_X11_share : ab_Q := (yX11_share, cX11_share, (some .int), false, [])
abbrev aq_X11_examDays : ab_Q := (yX11_examDays, cX11_examDays, (some .int), false, [])
abbrev aq_X11_examDay : ab_Q := (yX11_examDay, cX11_examDay, (some .int), false, [])
abbrev aq_X11_count : ab_Q := (yX11_count, cX11_count, (some .int), false, [])
abbrev aq_X11_checksum : ab_Q := (yX11_checksum, cX11_checksum, (some .long), false, [])
abbrev aq_X11_meanHour : ab_Q := (yX11_meanHour, cX11_meanHour, (some .double), false, [])
abbrev aq_X11_usedShare : ab_Q := (yX11_usedShare, cX11_usedShare, (some .float), false, [])
abbrev aq_X11_errors : ab_Q := (yX11_errors, cX11_errors, (some .int), false, [])
abbrev aq_X11_take : ab_Q := (yX11_take, cX11_take, (some .boolean), false, [])
abbrev aq_X11_write : ab_Q := (yX11_write, cX11_write, none, false, [])
abbrev aq_X11_needTimetable : ab_Q := (yX11_needTimetable, cX11_needTimetable, none, false, [])
abbrev aq_X11_needLesson : ab_Q := (yX11_needLesson, cX11_needLesson, none, false, [])
abbrev aq_X11_needTeacher : ab_Q := (yX11_needTeacher, cX11_needTeacher, none, false, [])
abbrev aq_X11_needRoom : ab_Q := (yX11_needRoom, cX11_needRoom, none, false, [])
abbrev aq_X11_needSlot : ab_Q := (yX11_needSlot, cX11_needSlot, none, false, [])
abbrev aq_X11_needDay : ab_Q := (yX11_needDay, cX11_needDay, none, false, [])
abbrev aq_X11_needRule : ab_Q := (yX11_needRule, cX11_needRule, none, false, [])
abbrev aq_X12_init : ab_Q := (yX12_init, cX12_init, none, true, [])
abbrev aq_X12_at : ab_Q := (yX12_at, cX12_at, (some .int), false, [])
abbrev aq_X12_take : ab_Q := (yX12_take, cX12_take, none, false, [])
abbrev aq_X12_lays : ab_Q := (yX12_lays, cX12_lays, (some .boolean), false, [])
abbrev aq_X12_has : ab_Q := (yX12_has, cX12_has, (some .boolean), false, [])
abbrev aq_X12_finds : ab_Q := (yX12_finds, cX12_finds, (some .boolean), false, [])
abbrev aq_X12_finds_ : ab_Q := (yX12_finds_, cX12_finds_, (some .boolean), false, [])
abbrev aq_X12_findsBehind : ab_Q := (yX12_findsBehind, cX12_findsBehind, (some .boolean), false, [])
abbrev aq_X12_findsNear : ab_Q := (yX12_findsNear, cX12_findsNear, (some .boolean), false, [])
abbrev aq_X12_copied : ab_Q := (yX12_copied, cX12_copied, (some (.array .int)), false, [])
abbrev aq_X12_copiedOf : ab_Q := (yX12_copiedOf, cX12_copiedOf, (some (.array .int)), false, [])
abbrev aq_X12_findsLightest : ab_Q := (yX12_findsLightest, cX12_findsLightest, none, false, [])
abbrev aq_X12_findsFairest : ab_Q := (yX12_findsFairest, cX12_findsFairest, none, false, [])
abbrev aq_X13_init : ab_Q := (yX13_init, cX13_init, none, true, [])
abbrev aq_X13_thrown : ab_Q := (yX13_thrown, cX13_thrown, (some .int), false, [])
abbrev aq_X13_ends : ab_Q := (yX13_ends, cX13_ends, (some .boolean), false, [])
abbrev aq_X13_isIn : ab_Q := (yX13_isIn, cX13_isIn, (some .boolean), false, [])
abbrev aq_X13_slots : ab_Q := (yX13_slots, cX13_slots, (some .int), false, [])
abbrev aq_X13_isLesson : ab_Q := (yX13_isLesson, cX13_isLesson, (some .boolean), false, [])
abbrev aq_X13_isTeacher : ab_Q := (yX13_isTeacher, cX13_isTeacher, (some .boolean), false, [])
abbrev aq_X13_isRoom : ab_Q := (yX13_isRoom, cX13_isRoom, (some .boolean), false, [])
abbrev aq_X13_isSlot : ab_Q := (yX13_isSlot, cX13_isSlot, (some .boolean), false, [])
abbrev aq_X13_told : ab_Q := (yX13_told, cX13_told, (some .int), false, [])
abbrev aq_X13_lastSlot : ab_Q := (yX13_lastSlot, cX13_lastSlot, (some .int), false, [])
abbrev aq_X13_covers : ab_Q := (yX13_covers, cX13_covers, (some .int), false, [])
abbrev aq_X13_dayOf : ab_Q := (yX13_dayOf, cX13_dayOf, (some .int), false, [])
abbrev aq_X13_isOnOneDay : ab_Q := (yX13_isOnOneDay, cX13_isOnOneDay, (some .boolean), false, [])
abbrev aq_X13_fits : ab_Q := (yX13_fits, cX13_fits, (some .boolean), false, [])
abbrev aq_X13_clashes : ab_Q := (yX13_clashes, cX13_clashes, (some .int), false, [])
abbrev aq_X13_isOfTwo : ab_Q := (yX13_isOfTwo, cX13_isOfTwo, (some .boolean), false, [])
abbrev aq_X13_keepsOfTwo : ab_Q := (yX13_keepsOfTwo, cX13_keepsOfTwo, (some .boolean), false, [])
abbrev aq_X13_keepsAlone : ab_Q := (yX13_keepsAlone, cX13_keepsAlone, (some .boolean), false, [])
abbrev aq_X13_busy : ab_Q := (yX13_busy, cX13_busy, (some .int), false, [])
abbrev aq_X13_dayBits : ab_Q := (yX13_dayBits, cX13_dayBits, (some .int), false, [])
abbrev aq_X13_isWithin : ab_Q := (yX13_isWithin, cX13_isWithin, (some .boolean), false, [])
abbrev aq_X13_keeps : ab_Q := (yX13_keeps, cX13_keeps, (some .boolean), false, [])
abbrev aq_X13_brokenBy : ab_Q := (yX13_brokenBy, cX13_brokenBy, (some .int), false, [])
abbrev aq_X13_faultsOf : ab_Q := (yX13_faultsOf, cX13_faultsOf, (some .int), false, [])
abbrev aq_X13_isGood : ab_Q := (yX13_isGood, cX13_isGood, (some .boolean), false, [])
abbrev aq_X13_weightAlone : ab_Q := (yX13_weightAlone, cX13_weightAlone, (some .int), false, [])
abbrev aq_X13_weightOf : ab_Q := (yX13_weightOf, cX13_weightOf, (some .int), false, [])
abbrev aq_X13_lightest : ab_Q := (yX13_lightest, cX13_lightest, (some .int), false, [])
abbrev aq_X13_shareOf : ab_Q := (yX13_shareOf, cX13_shareOf, (some .int), false, [])
abbrev aq_X13_fillShares : ab_Q := (yX13_fillShares, cX13_fillShares, none, false, [])
abbrev aq_X13_isFairer : ab_Q := (yX13_isFairer, cX13_isFairer, (some .boolean), false, [])
abbrev aq_X13_allRules : ab_Q := (yX13_allRules, cX13_allRules, (some .int), false, [])
abbrev aq_X13_ways : ab_Q := (yX13_ways, cX13_ways, (some (.object "RoomandhourModel$Ways")), false, [])
abbrev aq_X13_narrowed : ab_Q := (yX13_narrowed, cX13_narrowed, (some (.array .int)), false, [])
abbrev aq_X13_takesByPairs : ab_Q := (yX13_takesByPairs, cX13_takesByPairs, (some .boolean), false, [])
abbrev aq_X13_covered : ab_Q := (yX13_covered, cX13_covered, (some .int), false, [])
abbrev aq_X13_takesBySets : ab_Q := (yX13_takesBySets, cX13_takesBySets, (some .boolean), false, [])
abbrev aq_X13_setGrid : ab_Q := (yX13_setGrid, cX13_setGrid, (some .int), false, [])
abbrev aq_X13_addClass : ab_Q := (yX13_addClass, cX13_addClass, (some .int), false, [])
abbrev aq_X13_addTeacher : ab_Q := (yX13_addTeacher, cX13_addTeacher, (some .int), false, [])
abbrev aq_X13_addRoom : ab_Q := (yX13_addRoom, cX13_addRoom, (some .int), false, [])
abbrev aq_X13_addLesson : ab_Q := (yX13_addLesson, cX13_addLesson, (some .int), false, [])
abbrev aq_X13_isRule : ab_Q := (yX13_isRule, cX13_isRule, (some .boolean), false, [])
abbrev aq_X13_addRule : ab_Q := (yX13_addRule, cX13_addRule, (some .int), false, [])
abbrev aq_X13_dropRule : ab_Q := (yX13_dropRule, cX13_dropRule, (some .int), false, [])
abbrev aq_X13_left : ab_Q := (yX13_left, cX13_left, (some .int), false, [])
abbrev aq_X13_leftAt : ab_Q := (yX13_leftAt, cX13_leftAt, (some .int), false, [])
abbrev aq_X13_first : ab_Q := (yX13_first, cX13_first, (some .boolean), false, [])
abbrev aq_X13_noTable : ab_Q := (yX13_noTable, cX13_noTable, (some .boolean), false, [])
abbrev aq_X13_next : ab_Q := (yX13_next, cX13_next, (some .boolean), false, [])
abbrev aq_X13_place : ab_Q := (yX13_place, cX13_place, (some .int), false, [])
abbrev aq_X13_at : ab_Q := (yX13_at, cX13_at, (some .int), false, [])
abbrev aq_X13_broken : ab_Q := (yX13_broken, cX13_broken, (some .int), false, [])
abbrev aq_X13_groundFaults : ab_Q := (yX13_groundFaults, cX13_groundFaults, (some .int), false, [])
abbrev aq_X13_image : ab_Q := (yX13_image, cX13_image, (some .int), false, [])
abbrev aq_X13_restore : ab_Q := (yX13_restore, cX13_restore, (some .int), false, [])
abbrev aq_X13_print : ab_Q := (yX13_print, cX13_print, (some .int), false, [])
abbrev aq_X13_outputByte : ab_Q := (yX13_outputByte, cX13_outputByte, (some .int), false, [])
abbrev aq_X13_canKeep : ab_Q := (yX13_canKeep, cX13_canKeep, (some .boolean), false, [])
abbrev aq_X13_coreOf : ab_Q := (yX13_coreOf, cX13_coreOf, (some .int), false, [])
abbrev aq_X13_core : ab_Q := (yX13_core, cX13_core, (some .int), false, [])
abbrev aq_X13_smallest : ab_Q := (yX13_smallest, cX13_smallest, (some (.array .int)), false, [])
abbrev aq_X13_cores : ab_Q := (yX13_cores, cX13_cores, (some .int), false, [])
abbrev aq_X13_coreAt : ab_Q := (yX13_coreAt, cX13_coreAt, (some .int), false, [])
abbrev aq_X13_isNeeded : ab_Q := (yX13_isNeeded, cX13_isNeeded, (some .boolean), false, [])
abbrev aq_X13_isThere : ab_Q := (yX13_isThere, cX13_isThere, (some .boolean), false, [])
abbrev aq_X13_matches : ab_Q := (yX13_matches, cX13_matches, (some .int), false, [])
abbrev aq_X13_matched : ab_Q := (yX13_matched, cX13_matched, (some .int), false, [])
abbrev aq_X13_unfit : ab_Q := (yX13_unfit, cX13_unfit, (some .int), false, [])
abbrev aq_X13_setWeights : ab_Q := (yX13_setWeights, cX13_setWeights, (some .int), false, [])
abbrev aq_X13_weight : ab_Q := (yX13_weight, cX13_weight, (some .int), false, [])
abbrev aq_X13_best : ab_Q := (yX13_best, cX13_best, (some .int), false, [])
abbrev aq_X13_bound : ab_Q := (yX13_bound, cX13_bound, (some .int), false, [])
abbrev aq_X13_rings : ab_Q := (yX13_rings, cX13_rings, none, false, [])
abbrev aq_X13_improve : ab_Q := (yX13_improve, cX13_improve, (some .int), false, [])
abbrev aq_X13_noWish : ab_Q := (yX13_noWish, cX13_noWish, (some .boolean), false, [])
abbrev aq_X13_away : ab_Q := (yX13_away, cX13_away, (some .int), false, [])
abbrev aq_X13_against : ab_Q := (yX13_against, cX13_against, (some .int), false, [])
abbrev aq_X13_fairest : ab_Q := (yX13_fairest, cX13_fairest, (some .boolean), false, [])
abbrev aq_X13_share : ab_Q := (yX13_share, cX13_share, (some .int), false, [])
abbrev aq_X13_putsOn : ab_Q := (yX13_putsOn, cX13_putsOn, (some .boolean), false, [])
abbrev aq_X13_exams : ab_Q := (yX13_exams, cX13_exams, (some .int), false, [])
abbrev aq_X13_isSet : ab_Q := (yX13_isSet, cX13_isSet, (some .boolean), false, [])
abbrev aq_X13_examDays : ab_Q := (yX13_examDays, cX13_examDays, (some .int), false, [])
abbrev aq_X13_examDay : ab_Q := (yX13_examDay, cX13_examDay, (some .int), false, [])
abbrev aq_X13_count : ab_Q := (yX13_count, cX13_count, (some .int), false, [])
abbrev aq_X13_checksum : ab_Q := (yX13_checksum, cX13_checksum, (some .long), false, [])
abbrev aq_X13_meanHour : ab_Q := (yX13_meanHour, cX13_meanHour, (some .double), false, [])
abbrev aq_X13_usedShare : ab_Q := (yX13_usedShare, cX13_usedShare, (some .float), false, [])
abbrev aq_X13_errors : ab_Q := (yX13_errors, cX13_errors, (some .int), false, [])
abbrev aq_X13_bitAt : ab_Q := (yX13_bitAt, cX13_bitAt, (some .int), false, [])
abbrev aq_J6_bitCount_0f7a4 : ab_Q := (yJ6_bitCount_0f7a4, cJ6_bitCount_0f7a4, (some .int), false, [])
abbrev aq_J7_fill_53178 : ab_Q := (yJ7_fill_53178, cJ7_fill_53178, none, false, [])
abbrev aq_L_setGrid : ab_Q := (yL_setGrid, cL_setGrid, (some .int), false, [(0, 10, 13, 13), (0, 10, 17, 15)])
abbrev aq_L_addClass : ab_Q := (yL_addClass, cL_addClass, (some .int), false, [(0, 10, 13, 20), (0, 10, 17, 13), (0, 10, 21, 15)])
abbrev aq_L_addTeacher : ab_Q := (yL_addTeacher, cL_addTeacher, (some .int), false, [(0, 8, 11, 15)])
abbrev aq_L_addRoom : ab_Q := (yL_addRoom, cL_addRoom, (some .int), false, [(0, 9, 12, 13), (0, 9, 15, 15)])
abbrev aq_L_addLesson : ab_Q := (yL_addLesson, cL_addLesson, (some .int), false, [(0, 12, 15, 20), (0, 12, 19, 13), (0, 12, 23, 15)])
abbrev aq_L_addRule : ab_Q := (yL_addRule, cL_addRule, (some .int), false, [(0, 12, 15, 13), (0, 12, 19, 15)])
abbrev aq_L_dropRule : ab_Q := (yL_dropRule, cL_dropRule, (some .int), false, [(0, 9, 12, 20)])
abbrev aq_L_left : ab_Q := (yL_left, cL_left, (some .int), false, [(0, 9, 12, 20)])
abbrev aq_L_leftAt : ab_Q := (yL_leftAt, cL_leftAt, (some .int), false, [(0, 10, 13, 20), (0, 10, 17, 46)])
abbrev aq_L_next : ab_Q := (yL_next, cL_next, (some .int), false, [(0, 15, 18, 15)])
abbrev aq_L_place : ab_Q := (yL_place, cL_place, (some .int), false, [(0, 12, 15, 20)])
abbrev aq_L_at : ab_Q := (yL_at, cL_at, (some .int), false, [(0, 9, 12, 20), (0, 9, 15, 15)])
abbrev aq_L_broken : ab_Q := (yL_broken, cL_broken, (some .int), false, [(0, 8, 11, 15)])
abbrev aq_L_groundFaults : ab_Q := (yL_groundFaults, cL_groundFaults, (some .int), false, [(0, 8, 11, 15)])
abbrev aq_L_image : ab_Q := (yL_image, cL_image, (some .int), false, [(0, 8, 11, 15)])
abbrev aq_L_restore : ab_Q := (yL_restore, cL_restore, (some .int), false, [(0, 8, 11, 15)])
abbrev aq_L_print : ab_Q := (yL_print, cL_print, (some .int), false, [(0, 10, 13, 13), (0, 10, 17, 20), (0, 10, 21, 15)])
abbrev aq_L_coreAt : ab_Q := (yL_coreAt, cL_coreAt, (some .int), false, [(0, 9, 12, 46)])
abbrev aq_L_isNeeded : ab_Q := (yL_isNeeded, cL_isNeeded, (some .int), false, [(0, 16, 19, 20)])
abbrev aq_L_matched : ab_Q := (yL_matched, cL_matched, (some .int), false, [(0, 9, 12, 20), (0, 9, 15, 15)])
abbrev aq_L_unfit : ab_Q := (yL_unfit, cL_unfit, (some .int), false, [(0, 9, 12, 20), (0, 9, 15, 15)])
abbrev aq_L_setWeights : ab_Q := (yL_setWeights, cL_setWeights, (some .int), false, [(0, 12, 15, 13)])
abbrev aq_L_weight : ab_Q := (yL_weight, cL_weight, (some .int), false, [(0, 8, 11, 15)])
abbrev aq_L_improve : ab_Q := (yL_improve, cL_improve, (some .int), false, [(0, 8, 11, 15)])
abbrev aq_L_away : ab_Q := (yL_away, cL_away, (some .int), false, [(0, 10, 13, 20), (0, 10, 17, 15)])
abbrev aq_L_against : ab_Q := (yL_against, cL_against, (some .int), false, [(0, 10, 13, 20)])
abbrev aq_L_share : ab_Q := (yL_share, cL_share, (some .int), false, [(0, 9, 12, 20), (0, 9, 15, 15)])
abbrev aq_L_examDays : ab_Q := (yL_examDays, cL_examDays, (some .int), false, [(0, 9, 12, 13)])
abbrev aq_L_examDay : ab_Q := (yL_examDay, cL_examDay, (some .int), false, [(0, 10, 13, 20), (0, 10, 17, 13)])
abbrev aq_L_count : ab_Q := (yL_count, cL_count, (some .int), false, [(0, 9, 12, 13)])
abbrev aq_L_meanHour : ab_Q := (yL_meanHour, cL_meanHour, (some .int), false, [(0, 7, 10, 15)])
abbrev aq_L_usedShare : ab_Q := (yL_usedShare, cL_usedShare, (some .int), false, [(0, 8, 11, 15)])
abbrev aq_X8_fitsSome : ab_Q := (yX8_fitsSome, cX8_fitsSome, (some .boolean), false, [])
abbrev aq_L_law : ab_Q := (yL_law, code, (some .boolean), false, [])
def ab_zs : List (ab_M × ab_Q) := [(am_X0_init, aq_X0_init), (am_X0_enumerate, aq_X0_enumerate), (am_X0_someKeeps, aq_X0_someKeeps), (am_X0_countTimetables, aq_X0_countTimetables), (am_X0_stands, aq_X0_stands), (am_X0_walk, aq_X0_walk), (am_X0_clashesWithNone, aq_X0_clashesWithNone), (am_X0_look, aq_X0_look), (am_X1_init, aq_X1_init), (am_X1_spread, aq_X1_spread), (am_X1_fill, aq_X1_fill), (am_X1_isFree, aq_X1_isFree), (am_X2_init, aq_X2_init), (am_X2_faults, aq_X2_faults), (am_X2_pairFaults, aq_X2_pairFaults), (am_X2_toldBroken, aq_X2_toldBroken), (am_X2_isGood, aq_X2_isGood), (am_X2_coverOfTeacher, aq_X2_coverOfTeacher), (am_X2_coverOfRoom, aq_X2_coverOfRoom), (am_X2_longestDay, aq_X2_longestDay), (am_X2_lessonsIn, aq_X2_lessonsIn), (am_X2_lessonOf, aq_X2_lessonOf), (am_X2_weightOf, aq_X2_weightOf), (am_X2_gapsIn, aq_X2_gapsIn), (am_X2_shareOf, aq_X2_shareOf), (am_X3_init, aq_X3_init), (am_X3_ask, aq_X3_ask), (am_X3_pairIndex, aq_X3_pairIndex), (am_X3_valueIndex, aq_X3_valueIndex), (am_X3_learnGround, aq_X3_learnGround), (am_X3_groundPartners, aq_X3_groundPartners), (am_X3_openLesson, aq_X3_openLesson), (am_X3_keep, aq_X3_keep), (am_X3_keepPair, aq_X3_keepPair), (am_X3_keepRooms, aq_X3_keepRooms), (am_X3_dropLonelyStarts, aq_X3_dropLonelyStarts), (am_X3_isLonelyStart, aq_X3_isLonelyStart), (am_X3_barLesson, aq_X3_barLesson), (am_X3_barTeacher, aq_X3_barTeacher), (am_X3_allow, aq_X3_allow), (am_X3_costWeights, aq_X3_costWeights), (am_X3_costChanges, aq_X3_costChanges), (am_X3_costShares, aq_X3_costShares), (am_X3_price, aq_X3_price), (am_X4_init, aq_X4_init), (am_X4_moveOne, aq_X4_moveOne), (am_X4_extend, aq_X4_extend), (am_X4_isIn, aq_X4_isIn), (am_X4_weigh, aq_X4_weigh), (am_X5_init, aq_X5_init), (am_X5_keepable, aq_X5_keepable), (am_X5_stubborn, aq_X5_stubborn), (am_X5_refresh, aq_X5_refresh), (am_X5_isKept, aq_X5_isKept), (am_X6_init, aq_X6_init), (am_X6_allSlots, aq_X6_allSlots), (am_X6_allRules, aq_X6_allRules), (am_X6_areLessons, aq_X6_areLessons), (am_X6_dayOf, aq_X6_dayOf), (am_X6_hourOf, aq_X6_hourOf), (am_X6_dayMask, aq_X6_dayMask), (am_X6_lastHours, aq_X6_lastHours), (am_X6_lastSlot, aq_X6_lastSlot), (am_X6_cover, aq_X6_cover), (am_X6_staysInDay, aq_X6_staysInDay), (am_X6_hasSeats, aq_X6_hasSeats), (am_X6_shareClass, aq_X6_shareClass), (am_X6_shareTeacher, aq_X6_shareTeacher), (am_X6_weightOfValue, aq_X6_weightOfValue), (am_X6_hasRuleWithSlot, aq_X6_hasRuleWithSlot), (am_X6_canBeRule, aq_X6_canBeRule), (am_X6_removeRule, aq_X6_removeRule), (am_X6_pairKept, aq_X6_pairKept), (am_X7_init, aq_X7_init), (am_X7_seek, aq_X7_seek), (am_X7_cheapest, aq_X7_cheapest), (am_X7_behind, aq_X7_behind), (am_X7_existsBehind, aq_X7_existsBehind), (am_X7_restrict, aq_X7_restrict), (am_X7_lessen, aq_X7_lessen), (am_X7_explore, aq_X7_explore), (am_X7_narrow, aq_X7_narrow), (am_X7_withinDayLimit, aq_X7_withinDayLimit), (am_X7_tightest, aq_X7_tightest), (am_X7_seat, aq_X7_seat), (am_X7_takenRooms, aq_X7_takenRooms), (am_X7_record, aq_X7_record), (am_X7_lowest, aq_X7_lowest), (am_X7_cheapestSlot, aq_X7_cheapestSlot), (am_X7_sureGaps, aq_X7_sureGaps), (am_X7_canFill, aq_X7_canFill), (am_X7_lowestShares, aq_X7_lowestShares), (am_X7_mustEndLast, aq_X7_mustEndLast), (am_X8_init, aq_X8_init), (am_X8_mostSeated, aq_X8_mostSeated), (am_X8_fewestUnseated, aq_X8_fewestUnseated), (am_X8_roomsFor, aq_X8_roomsFor), (am_X9_init, aq_X9_init), (am_X9_begin, aq_X9_begin), (am_X9_copyFrom, aq_X9_copyFrom), (am_X9_valueOf, aq_X9_valueOf), (am_X9_differences, aq_X9_differences), (am_X9_standsIn, aq_X9_standsIn), (am_X10_init, aq_X10_init), (am_X10_refresh, aq_X10_refresh), (am_X10_told, aq_X10_told), (am_X10_isOpen, aq_X10_isOpen), (am_X10_leastWeight, aq_X10_leastWeight), (am_X10_leastOf, aq_X10_leastOf), (am_X10_begin, aq_X10_begin), (am_X10_dropLonely, aq_X10_dropLonely), (am_X10_isLonely, aq_X10_isLonely), (am_X10_hasPartner, aq_X10_hasPartner), (am_X10_dropCrowded, aq_X10_dropCrowded), (am_X10_lessonsOf, aq_X10_lessonsOf), (am_X10_crowdGroup, aq_X10_crowdGroup), (am_X10_coverLeft, aq_X10_coverLeft), (am_X10_coverOfSet, aq_X10_coverOfSet), (am_X10_lengthOfSet, aq_X10_lengthOfSet), (am_X10_dropAll, aq_X10_dropAll), (am_X10_dropCovering, aq_X10_dropCovering), (am_X11_init, aq_X11_init), (am_X11_setGrid, aq_X11_setGrid), (am_X11_addClass, aq_X11_addClass), (am_X11_addTeacher, aq_X11_addTeacher), (am_X11_addRoom, aq_X11_addRoom), (am_X11_addLesson, aq_X11_addLesson), (am_X11_addRule, aq_X11_addRule), (am_X11_dropRule, aq_X11_dropRule), (am_X11_left, aq_X11_left), (am_X11_leftAt, aq_X11_leftAt), (am_X11_first, aq_X11_first), (am_X11_next, aq_X11_next), (am_X11_place, aq_X11_place), (am_X11_at, aq_X11_at), (am_X11_broken, aq_X11_broken), (am_X11_groundFaults, aq_X11_groundFaults), (am_X11_image, aq_X11_image), (am_X11_restore, aq_X11_restore), (am_X11_print, aq_X11_print), (am_X11_outputByte, aq_X11_outputByte), (am_X11_core, aq_X11_core), (am_X11_cores, aq_X11_cores), (am_X11_coreAt, aq_X11_coreAt), (am_X11_isNeeded, aq_X11_isNeeded), (am_X11_matched, aq_X11_matched), (am_X11_unfit, aq_X11_unfit), (am_X11_setWeights, aq_X11_setWeights), (am_X11_weight, aq_X11_weight), (am_X11_best, aq_X11_best), (am_X11_bound, aq_X11_bound), (am_X11_improve, aq_X11_improve), (am_X11_away, aq_X11_away), (am_X11_against, aq_X11_against), (am_X11_fairest, aq_X11_fairest), (am_X11_share, aq_X11_share), (am_X11_examDays, aq_X11_examDays), (am_X11_examDay, aq_X11_examDay), (am_X11_count, aq_X11_count), (am_X11_checksum, aq_X11_checksum), (am_X11_meanHour, aq_X11_meanHour), (am_X11_usedShare, aq_X11_usedShare), (am_X11_errors, aq_X11_errors), (am_X11_take, aq_X11_take), (am_X11_write, aq_X11_write), (am_X11_needTimetable, aq_X11_needTimetable), (am_X11_needLesson, aq_X11_needLesson), (am_X11_needTeacher, aq_X11_needTeacher), (am_X11_needRoom, aq_X11_needRoom), (am_X11_needSlot, aq_X11_needSlot), (am_X11_needDay, aq_X11_needDay), (am_X11_needRule, aq_X11_needRule), (am_X12_init, aq_X12_init), (am_X12_at, aq_X12_at), (am_X12_take, aq_X12_take), (am_X12_lays, aq_X12_lays), (am_X12_has, aq_X12_has), (am_X12_finds, aq_X12_finds), (am_X12_finds_, aq_X12_finds_), (am_X12_findsBehind, aq_X12_findsBehind), (am_X12_findsNear, aq_X12_findsNear), (am_X12_copied, aq_X12_copied), (am_X12_copiedOf, aq_X12_copiedOf), (am_X12_findsLightest, aq_X12_findsLightest), (am_X12_findsFairest, aq_X12_findsFairest), (am_X13_init, aq_X13_init), (am_X13_thrown, aq_X13_thrown), (am_X13_ends, aq_X13_ends), (am_X13_isIn, aq_X13_isIn), (am_X13_slots, aq_X13_slots), (am_X13_isLesson, aq_X13_isLesson), (am_X13_isTeacher, aq_X13_isTeacher), (am_X13_isRoom, aq_X13_isRoom), (am_X13_isSlot, aq_X13_isSlot), (am_X13_told, aq_X13_told), (am_X13_lastSlot, aq_X13_lastSlot), (am_X13_covers, aq_X13_covers), (am_X13_dayOf, aq_X13_dayOf), (am_X13_isOnOneDay, aq_X13_isOnOneDay), (am_X13_fits, aq_X13_fits), (am_X13_clashes, aq_X13_clashes), (am_X13_isOfTwo, aq_X13_isOfTwo), (am_X13_keepsOfTwo, aq_X13_keepsOfTwo), (am_X13_keepsAlone, aq_X13_keepsAlone), (am_X13_busy, aq_X13_busy), (am_X13_dayBits, aq_X13_dayBits), (am_X13_isWithin, aq_X13_isWithin), (am_X13_keeps, aq_X13_keeps), (am_X13_brokenBy, aq_X13_brokenBy), (am_X13_faultsOf, aq_X13_faultsOf), (am_X13_isGood, aq_X13_isGood), (am_X13_weightAlone, aq_X13_weightAlone), (am_X13_weightOf, aq_X13_weightOf), (am_X13_lightest, aq_X13_lightest), (am_X13_shareOf, aq_X13_shareOf), (am_X13_fillShares, aq_X13_fillShares), (am_X13_isFairer, aq_X13_isFairer), (am_X13_allRules, aq_X13_allRules), (am_X13_ways, aq_X13_ways), (am_X13_narrowed, aq_X13_narrowed), (am_X13_takesByPairs, aq_X13_takesByPairs), (am_X13_covered, aq_X13_covered), (am_X13_takesBySets, aq_X13_takesBySets), (am_X13_setGrid, aq_X13_setGrid), (am_X13_addClass, aq_X13_addClass), (am_X13_addTeacher, aq_X13_addTeacher), (am_X13_addRoom, aq_X13_addRoom), (am_X13_addLesson, aq_X13_addLesson), (am_X13_isRule, aq_X13_isRule), (am_X13_addRule, aq_X13_addRule), (am_X13_dropRule, aq_X13_dropRule), (am_X13_left, aq_X13_left), (am_X13_leftAt, aq_X13_leftAt), (am_X13_first, aq_X13_first), (am_X13_noTable, aq_X13_noTable), (am_X13_next, aq_X13_next), (am_X13_place, aq_X13_place), (am_X13_at, aq_X13_at), (am_X13_broken, aq_X13_broken), (am_X13_groundFaults, aq_X13_groundFaults), (am_X13_image, aq_X13_image), (am_X13_restore, aq_X13_restore), (am_X13_print, aq_X13_print), (am_X13_outputByte, aq_X13_outputByte), (am_X13_canKeep, aq_X13_canKeep), (am_X13_coreOf, aq_X13_coreOf), (am_X13_core, aq_X13_core), (am_X13_smallest, aq_X13_smallest), (am_X13_cores, aq_X13_cores), (am_X13_coreAt, aq_X13_coreAt), (am_X13_isNeeded, aq_X13_isNeeded), (am_X13_isThere, aq_X13_isThere), (am_X13_matches, aq_X13_matches), (am_X13_matched, aq_X13_matched), (am_X13_unfit, aq_X13_unfit), (am_X13_setWeights, aq_X13_setWeights), (am_X13_weight, aq_X13_weight), (am_X13_best, aq_X13_best), (am_X13_bound, aq_X13_bound), (am_X13_rings, aq_X13_rings), (am_X13_improve, aq_X13_improve), (am_X13_noWish, aq_X13_noWish), (am_X13_away, aq_X13_away), (am_X13_against, aq_X13_against), (am_X13_fairest, aq_X13_fairest), (am_X13_share, aq_X13_share), (am_X13_putsOn, aq_X13_putsOn), (am_X13_exams, aq_X13_exams), (am_X13_isSet, aq_X13_isSet), (am_X13_examDays, aq_X13_examDays), (am_X13_examDay, aq_X13_examDay), (am_X13_count, aq_X13_count), (am_X13_checksum, aq_X13_checksum), (am_X13_meanHour, aq_X13_meanHour), (am_X13_usedShare, aq_X13_usedShare), (am_X13_errors, aq_X13_errors), (am_X13_bitAt, aq_X13_bitAt), (am_J6_bitCount_0f7a4, aq_J6_bitCount_0f7a4), (am_J7_fill_53178, aq_J7_fill_53178), (am_L_setGrid, aq_L_setGrid), (am_L_addClass, aq_L_addClass), (am_L_addTeacher, aq_L_addTeacher), (am_L_addRoom, aq_L_addRoom), (am_L_addLesson, aq_L_addLesson), (am_L_addRule, aq_L_addRule), (am_L_dropRule, aq_L_dropRule), (am_L_left, aq_L_left), (am_L_leftAt, aq_L_leftAt), (am_L_next, aq_L_next), (am_L_place, aq_L_place), (am_L_at, aq_L_at), (am_L_broken, aq_L_broken), (am_L_groundFaults, aq_L_groundFaults), (am_L_image, aq_L_image), (am_L_restore, aq_L_restore), (am_L_print, aq_L_print), (am_L_coreAt, aq_L_coreAt), (am_L_isNeeded, aq_L_isNeeded), (am_L_matched, aq_L_matched), (am_L_unfit, aq_L_unfit), (am_L_setWeights, aq_L_setWeights), (am_L_weight, aq_L_weight), (am_L_improve, aq_L_improve), (am_L_away, aq_L_away), (am_L_against, aq_L_against), (am_L_share, aq_L_share), (am_L_examDays, aq_L_examDays), (am_L_examDay, aq_L_examDay), (am_L_count, aq_L_count), (am_L_meanHour, aq_L_meanHour), (am_L_usedShare, aq_L_usedShare), (am_X8_fitsSome, aq_X8_fitsSome)]
def ab_mt (i : Nat) : Option ab_M := match ab_zs[i]? with
  | some z => some z.1
  | none => if i = 312 then some am_L_law else none
def ab_qt (i : Nat) : Option ab_Q := match ab_zs[i]? with
  | some z => some z.2
  | none => none
